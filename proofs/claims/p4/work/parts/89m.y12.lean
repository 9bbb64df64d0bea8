/-! a BOOK is read -/
def tkOf (V : Vf) (L : Lf) : Tk := (fun j => (V 12 j).toInt, fun j => L 14 j, fun j => (V 13 j).toInt)
def St0 : St := (fun _ => 0, fun _ => [], [], [])
/-- all tokens are cut (the token at hand left out) -/
def CTx (V : Vf) (L : Lf) (W : Vf) (M : Lf) : Prop := CT V L W M ∧ (W 6 6).toInt = (V 6 5).toInt ∧ W 12 (W 6 7).toInt.toNat = 0 ∧ W 13 (W 6 7).toInt.toNat = V 6 5
theorem CT.ag {V A W : Vf} {L B M : Lf} (h : CT V L A B) (w7 : W 6 7 = A 6 7) (w6 : W 6 6 = A 6 6) (w12 : W 12 = A 12) (w13 : W 13 = A 13) (m14 : M 14 = B 14) : CT V L W M := h.fin w7 w6 (fun k _ => ⟨by rw [w12], by rw [w13], by rw [m14]⟩)
theorem CTx.ag {V A W : Vf} {L B M : Lf} (h : CTx V L A B) (w7 : W 6 7 = A 6 7) (w6 : W 6 6 = A 6 6) (w12 : W 12 = A 12) (w13 : W 13 = A 13) (m14 : M 14 = B 14) : CTx V L W M := ⟨h.1.ag w7 w6 w12 w13 m14, by rw [w6]; exact h.2.1, by rw [w12, w7]; exact h.2.2.1, by rw [w13, w7]; exact h.2.2.2⟩
theorem CT.an {V V' W : Vf} {L L' M : Lf} (h : CT V L W M) (e10 : V' 10 = V 10) (e5 : V' 6 5 = V 6 5) (e11 : L' 11 = L 11) : CT V' L' W M := by
  obtain ⟨S, E, k1, k2⟩ := h
  refine ⟨S, E, by rw [e10, e5]; exact k1, fun j hj => ?_⟩
  rw [e10]
  exact ⟨(k2 j hj).1, (k2 j hj).2.ex e11.symm⟩
theorem CTE.x {V V' W : Vf} {L L' M : Lf} (h : CTE V L W M) (e10 : V' 10 = V 10) (e5 : V' 6 5 = V 6 5) (e11 : L' 11 = L 11) : CTx V' L' W M := ⟨h.1.an e10 e5 e11, by rw [e5]; exact h.2.1, h.2.2.1, by rw [e5]; exact h.2.2.2.1⟩
theorem RelC.tk {V : Vf} {L : Lf} {b : Nat} {T : Tk} {s : St} (h : RelC V L b T s) : T = tkOf V L := by
  obtain ⟨a, c, d⟩ := T
  have h1 : a = fun j => (V 12 j).toInt := funext fun j => h.2.1.2.1 j
  have h2 : c = fun j => L 14 j := funext fun j => h.2.1.2.2.1 j
  have h3 : d = fun j => (V 13 j).toInt := funext fun j => h.2.1.2.2.2.1 j
  rw [h1, h2, h3]
  rfl
theorem RelC.z {V : Vf} {L : Lf} {b : Nat} (c : CUR V L 0) (e : V 12 (V 6 7).toInt.toNat = 0) (f : (V 1 3).toInt = 0) (n0 : (V 43 (5 * b + 0)).toInt = 0) (n1 : (V 43 (5 * b + 1)).toInt = 0) (n2 : (V 43 (5 * b + 2)).toInt = 0) (n3 : (V 43 (5 * b + 3)).toInt = 0) (n4 : (V 43 (5 * b + 4)).toInt = 0) (w : (V 41 b).toInt = 0) (o : (V 1 2).toInt < 0) : RelC V L b (tkOf V L) St0 := by
  refine ⟨c, ⟨by rw [e]; decide, fun _ => rfl, fun _ => rfl, fun _ => rfl, f⟩, fun j hj => ?_, ⟨by rw [w]; rfl, fun i h => absurd h (Nat.not_lt_zero _)⟩, fun q => absurd q (by omega)⟩
  have e : (V 43 (5 * b + j)).toInt = 0 := by
    rcases j with _ | _ | _ | _ | _ | j
    · exact n0
    · exact n1
    · exact n2
    · exact n3
    · exact n4
    · omega
  rw [e]
  exact ⟨rfl, fun i h => absurd h (Nat.not_lt_zero _)⟩
/-- how the reading of a BOOK ends -/
def BRES (T : Tk) (r : Int) (P : St → Prop) : Prop := (r = 0 ∧ ∃ s' : St, Rc T (Crun St0 [Istmt]) (Cdone s') ∧ P s') ∨ Rc T (Crun St0 [Istmt]) (Cbad r)


abbrev r_x_aroundsOf3 : Room := { frames := 0, cells := 0, slots := 0, locals := 0 }
abbrev q_x_aroundsOf3 (D : va_G) (ks : KS) (ad : Nat → Nat) (kk : Nat → ClassId) (V : Vf) (L : Lf) (Z : XZ) (p0 : Int32) (b : Nat) (gs : St) (gf : Nat) (A : Nat → Prop) : Array Value → State → Outcome → State → Prop := va_Qi (fun (r : Int32) (_ : Unit) => (r.toInt = ((arounds gs.2.2.1 gf : Nat) : Int))) (fun _ t => gq D A (xw ad kk V L Z) (xty kk Z) t) A
set_option maxHeartbeats 4000000 in
set_option maxRecDepth 100000 in
theorem x_aroundsOf3 (l : Launch) (D : va_G) (ks : KS) (sz : Nat) (ad : Nat → Nat) (kk : Nat → ClassId) (V : Vf) (L : Lf) (Z : XZ) (p0 : Int32) (b : Nat) (gs : St) (gf : Nat) (hMV : rgd bX V) (hb2 : b < 2) (gfe : p0.toInt = (gf : Int)) (wr : WRc V b gs)  : Met l yX0_aroundsOf (Cond.code yX0_aroundsOf cX0_aroundsOf 4 (some .int) :: GW) r_x_aroundsOf3 (va_Pc [.ref (ad (38 + b)), .int p0] (gp D ks (xw ad kk V L Z) (xty kk Z) sz)) (q_x_aroundsOf3 D ks ad kk V L Z p0 b gs gf (va_A (xw ad kk V L Z) sz)) 0 0 (va_A (xw ad kk V L Z) sz) := by
  refine g_met (q_x_aroundsOf3 D ks ad kk V L Z p0 b gs gf) (by decide) (Nat.le_of_ble_eq_true rfl) ?_
  intro p e s m below meth c A ls H locs hx hb hr hml hown hg hlocks hin hnw hgk hP hK hD hS hA hl
  have hown : s.vm.findClass RX0 = some m.cls := hown
  have hl : lv_has ls 4 [(0, .ref (ad (38 + b))), (1, .int p0)] := hl
  have hP : va_P D vwCl (xw ad kk V L Z) H := hP
  have hD : va_D A (xw ad kk V L Z) := hD
  have hK : va_K D vwCl (xty kk Z) s := hK
  refine lv_iconst (v := 0) hx hb dX0_aroundsOf_0 (by decide) ?_
  refine lv_istore_n (lv' := [(2, .int 0), (0, .ref (ad (38 + b))), (1, .int p0)]) hx hb dX0_aroundsOf_1 rfl hl (by decide) rfl (fun ls hl => ?_)
  refine lv_iconst (v := 0) hx hb dX0_aroundsOf_2 (by decide) ?_
  refine lv_istore_n (lv' := [(3, .int 0), (2, .int 0), (0, .ref (ad (38 + b))), (1, .int p0)]) hx hb dX0_aroundsOf_3 rfl hl (by decide) rfl (fun ls hl => ?_)
  have lp3 : ∀ (fulp3 : Nat) (y1 : Int32) (y2 : Int32) (H : Heap) (locs : List Loc) (ls : Array Slot), 0 ≤ y1.toInt ∧ y1.toInt ≤ 12 → 0 ≤ y2.toInt ∧ y2.toInt ≤ 12 → y2.toInt ≤ y1.toInt → y1.toInt ≤ (V 41 b).toInt → y2.toInt = ((arounds (gs.2.2.1.take y1.toInt.toNat) gf : Nat) : Int) → 12 - y1.toInt < (fulp3 : Int) → va_P D vwCl (xw ad kk V L Z) H → va_D A (xw ad kk V L Z) → va_S A s.heap H locs → lv_has ls 4 [(3, .int y1), (2, .int y2), (0, .ref (ad (38 + b))), (1, .int p0)] → W p l e r_x_aroundsOf3 s m ([.ref (ad (38 + b)), .int p0] : List Value).toArray below meth c H locs 0 0 (MQ below (q_x_aroundsOf3 D ks ad kk V L Z p0 b gs gf A) ([.ref (ad (38 + b)), .int p0] : List Value).toArray s 0 0 A) (F0 m 4 ls []) := by
    intro fulp3
    induction fulp3 with
    | zero =>
      intro y1 y2 H locs ls klp3_0 klp3_1 xlp3_0 xlp3_1 xlp3_2 hn  hP hD hS hl
      exfalso; omega
    | succ fulp3 ihlp3 =>
      intro y1 y2 H locs ls klp3_0 klp3_1 xlp3_0 xlp3_1 xlp3_2 hn  hP hD hS hl
      have r4 : 0 ≤ ((V 41 b)).toInt ∧ ((V 41 b)).toInt ≤ 12 := hMV 41 b
      refine lv_iload_n hx hb dX0_aroundsOf_4 rfl (lv_at hl 0 rfl) ?_
      refine lv_aload_n hx hb dX0_aroundsOf_5 rfl (lv_at hl 2 rfl) ?_
      refine va_get (D := D) (ci := 0) (v := .int (V 41 b)) (fs := (xfBook ad V b)) (C := RX0) (T := TX0) (N := 13) hx hb hg inX0 hown hK hP (38 + b) (xgBook hb2) rfl 11 (by decide) (hg _ w625) (fun _ h9 => h9) rfl dX0_aroundsOf_6 ?_
      refine lv_icmp_ge (tgt := 47) hx hb dX0_aroundsOf_9 (by decide) (fun c5 => ?_) (fun c5 => ?_)
      · skip
        have f6 : ((V 41 b)).toInt ≤ y1.toInt := b_le rfl rfl c5
        refine lv_iload_n hx hb dX0_aroundsOf_47 rfl (lv_at hl 1 rfl) ?_
        have as7 := WRc.all (i := y1.toInt.toNat) (f := gf) wr (by omega)
        exact W.iret (v := y2) hx hb hr (fun t ht hW => ⟨⟨y2, (), rfl, (show y2.toInt = ((arounds gs.2.2.1 gf : Nat) : Int) from by rw [← as7]; omega), by rw [ht]; exact hP, va_K.moved hW.alike hK, hD⟩, hS.F ht⟩) hS.2.2 dX0_aroundsOf_48
      · skip
        have f8 : y1.toInt < ((V 41 b)).toInt := b_nle rfl rfl c5
        refine lv_aload_n hx hb dX0_aroundsOf_12 rfl (lv_at hl 2 rfl) ?_
        refine va_get (D := D) (ci := 0) (v := .ref (ad (66 + b))) (fs := (xfBook ad V b)) (C := RX0) (T := TX0) (N := 13) hx hb hg inX0 hown hK hP (38 + b) (xgBook hb2) rfl 8 (by decide) (hg _ w619) (fun _ h9 => h9) rfl dX0_aroundsOf_13 ?_
        refine lv_iload_n hx hb dX0_aroundsOf_16 rfl (lv_at hl 0 rfl) ?_
        have il9 : b < 2 := by first | omega | ((try (have i_wr := Imp.go wr (by omega))); omega)
        refine va_aldq (D := D) (i := y1) hx hb hK hP (66 + b) (59 + b) (xgwrapsA il9) (xtwrapsA il9) (i_in (a := y1.toInt) rfl (by first | omega | ((try (have i_wr := Imp.go wr (by omega))); omega))) dX0_aroundsOf_17 ?_
        have kc10 := i_clamp (x := y1) rfl (by first | omega | ((try (have i_wr := Imp.go wr (by omega))); omega))
        refine g_topv (v := .ref (ad (312 + (12 * b + (Int32.toNatClampNeg y1))))) (congrArg va_rf (if_pos (by first | omega | ((try (have i_wr := Imp.go wr (by omega))); omega)))) ?_
        have il11 : (12 * b + (Int32.toNatClampNeg y1)) < 24 := by first | omega | ((try (have i_wr := Imp.go wr (by omega))); omega)
        refine va_getN (D := D) (ci := 10) (v := .int (V 65 (12 * b + (Int32.toNatClampNeg y1)))) (fs := (xfWrap V (12 * b + (Int32.toNatClampNeg y1)))) (C := RX10) (T := TX10) (N := 5) hx hb hg inX10 hown hK hP (312 + (12 * b + (Int32.toNatClampNeg y1))) (xgWrap il11) rfl 3 (by decide) (hnw.use 578 n578 rfl) (fun _ h9 => h9) rfl dX0_aroundsOf_18 ?_
        refine lv_iconst (v := 1) hx hb dX0_aroundsOf_21 (by decide) ?_
        refine lv_icmp_ne (tgt := 41) hx hb dX0_aroundsOf_22 (by decide) (fun c12 => ?_) (fun c12 => ?_)
        · skip
          have f13 : ((V 65 (12 * b + (Int32.toNatClampNeg y1)))).toInt ≠ 1 := b_neq rfl (by decide) c12
          obtain ⟨z14, ez14⟩ : ∃ y : Int32, y = y1 + 1 := ⟨_, rfl⟩
          have hz14 : z14.toInt = y1.toInt + 1 := i_add ez14 rfl (by decide) (by omega)
          refine lv_iinc (v := z14) (lv' := [(3, .int z14), (2, .int y2), (0, .ref (ad (38 + b))), (1, .int p0)]) hx hb dX0_aroundsOf_41 hl (k := 0) rfl (by rw [ez14]; rfl) (by decide) rfl (fun ls hl => ?_)
          refine lv_goto (tgt := 4) hx hb dX0_aroundsOf_44 (by decide) ?_
          have as15 := WRc.st (i := y1.toInt.toNat) (f := gf) wr (by omega)
          have kc16 := i_clamp (x := y1) rfl (by omega)
          have e9 : 12 * b + y1.toInt.toNat = 12 * b + Int32.toNatClampNeg y1 := rfl
          rw [e9] at as15
          rw [if_neg (fun q9 => by have q8 := q9.1; have q7 := q9.2; omega)] at as15
          exact ihlp3 z14 y2 H locs ls (by first | omega | ((try (have i_wr := Imp.go wr (by omega))); omega)) (by first | omega | ((try (have i_wr := Imp.go wr (by omega))); omega)) (show y2.toInt ≤ z14.toInt from by first | omega | ((try (have i_wr := Imp.go wr (by omega))); omega)) (show z14.toInt ≤ (V 41 b).toInt from by first | omega | ((try (have i_wr := Imp.go wr (by omega))); omega)) (show y2.toInt = ((arounds (gs.2.2.1.take z14.toInt.toNat) gf : Nat) : Int) from by rw [show z14.toInt.toNat = y1.toInt.toNat + 1 from by omega, as15]; omega) (by first | omega | ((try (have i_wr := Imp.go wr (by omega))); omega)) hP hD hS (lv_sub hl [0, 1, 2, 3] rfl)
        · skip
          have f17 : ((V 65 (12 * b + (Int32.toNatClampNeg y1)))).toInt = 1 := b_eq rfl (by decide) c12
          refine lv_aload_n hx hb dX0_aroundsOf_25 rfl (lv_at hl 2 rfl) ?_
          refine va_get (D := D) (ci := 0) (v := .ref (ad (66 + b))) (fs := (xfBook ad V b)) (C := RX0) (T := TX0) (N := 13) hx hb hg inX0 hown hK hP (38 + b) (xgBook hb2) rfl 8 (by decide) (hg _ w619) (fun _ h9 => h9) rfl dX0_aroundsOf_26 ?_
          refine lv_iload_n hx hb dX0_aroundsOf_29 rfl (lv_at hl 0 rfl) ?_
          refine va_aldq (D := D) (i := y1) hx hb hK hP (66 + b) (59 + b) (xgwrapsA il9) (xtwrapsA il9) (i_in (a := y1.toInt) rfl (by first | omega | ((try (have i_wr := Imp.go wr (by omega))); omega))) dX0_aroundsOf_30 ?_
          refine g_topv (v := .ref (ad (312 + (12 * b + (Int32.toNatClampNeg y1))))) (congrArg va_rf (if_pos (by first | omega | ((try (have i_wr := Imp.go wr (by omega))); omega)))) ?_
          refine va_getN (D := D) (ci := 10) (v := .int (V 63 (12 * b + (Int32.toNatClampNeg y1)))) (fs := (xfWrap V (12 * b + (Int32.toNatClampNeg y1)))) (C := RX10) (T := TX10) (N := 5) hx hb hg inX10 hown hK hP (312 + (12 * b + (Int32.toNatClampNeg y1))) (xgWrap il11) rfl 1 (by decide) (hnw.use 576 n576 rfl) (fun _ h9 => h9) rfl dX0_aroundsOf_31 ?_
          refine lv_iload_n hx hb dX0_aroundsOf_34 rfl (lv_at hl 3 rfl) ?_
          refine lv_icmp_ne (tgt := 41) hx hb dX0_aroundsOf_35 (by decide) (fun c18 => ?_) (fun c18 => ?_)
          · skip
            have f19 : ((V 63 (12 * b + (Int32.toNatClampNeg y1)))).toInt ≠ p0.toInt := b_neq rfl rfl c18
            obtain ⟨z20, ez20⟩ : ∃ y : Int32, y = y1 + 1 := ⟨_, rfl⟩
            have hz20 : z20.toInt = y1.toInt + 1 := i_add ez20 rfl (by decide) (by omega)
            refine lv_iinc (v := z20) (lv' := [(3, .int z20), (2, .int y2), (0, .ref (ad (38 + b))), (1, .int p0)]) hx hb dX0_aroundsOf_41 hl (k := 0) rfl (by rw [ez20]; rfl) (by decide) rfl (fun ls hl => ?_)
            refine lv_goto (tgt := 4) hx hb dX0_aroundsOf_44 (by decide) ?_
            have as21 := WRc.st (i := y1.toInt.toNat) (f := gf) wr (by omega)
            have kc22 := i_clamp (x := y1) rfl (by omega)
            have e9 : 12 * b + y1.toInt.toNat = 12 * b + Int32.toNatClampNeg y1 := rfl
            rw [e9] at as21
            rw [if_neg (fun q9 => by have q8 := q9.1; have q7 := q9.2; omega)] at as21
            exact ihlp3 z20 y2 H locs ls (by first | omega | ((try (have i_wr := Imp.go wr (by omega))); omega)) (by first | omega | ((try (have i_wr := Imp.go wr (by omega))); omega)) (show y2.toInt ≤ z20.toInt from by first | omega | ((try (have i_wr := Imp.go wr (by omega))); omega)) (show z20.toInt ≤ (V 41 b).toInt from by first | omega | ((try (have i_wr := Imp.go wr (by omega))); omega)) (show y2.toInt = ((arounds (gs.2.2.1.take z20.toInt.toNat) gf : Nat) : Int) from by rw [show z20.toInt.toNat = y1.toInt.toNat + 1 from by omega, as21]; omega) (by first | omega | ((try (have i_wr := Imp.go wr (by omega))); omega)) hP hD hS (lv_sub hl [0, 1, 2, 3] rfl)
          · skip
            have f23 : ((V 63 (12 * b + (Int32.toNatClampNeg y1)))).toInt = p0.toInt := b_eq rfl rfl c18
            obtain ⟨z24, ez24⟩ : ∃ y : Int32, y = y2 + 1 := ⟨_, rfl⟩
            have hz24 : z24.toInt = y2.toInt + 1 := i_add ez24 rfl (by decide) (by omega)
            refine lv_iinc (v := z24) (lv' := [(2, .int z24), (3, .int y1), (0, .ref (ad (38 + b))), (1, .int p0)]) hx hb dX0_aroundsOf_38 hl (k := 1) rfl (by rw [ez24]; rfl) (by decide) rfl (fun ls hl => ?_)
            obtain ⟨z25, ez25⟩ : ∃ y : Int32, y = y1 + 1 := ⟨_, rfl⟩
            have hz25 : z25.toInt = y1.toInt + 1 := i_add ez25 rfl (by decide) (by omega)
            refine lv_iinc (v := z25) (lv' := [(3, .int z25), (2, .int z24), (0, .ref (ad (38 + b))), (1, .int p0)]) hx hb dX0_aroundsOf_41 hl (k := 1) rfl (by rw [ez25]; rfl) (by decide) rfl (fun ls hl => ?_)
            refine lv_goto (tgt := 4) hx hb dX0_aroundsOf_44 (by decide) ?_
            have as26 := WRc.st (i := y1.toInt.toNat) (f := gf) wr (by omega)
            have kc27 := i_clamp (x := y1) rfl (by omega)
            have e9 : 12 * b + y1.toInt.toNat = 12 * b + Int32.toNatClampNeg y1 := rfl
            rw [e9] at as26
            rw [if_pos (show _ ∧ _ from ⟨by omega, by omega⟩)] at as26
            exact ihlp3 z25 z24 H locs ls (by first | omega | ((try (have i_wr := Imp.go wr (by omega))); omega)) (by first | omega | ((try (have i_wr := Imp.go wr (by omega))); omega)) (show z24.toInt ≤ z25.toInt from by first | omega | ((try (have i_wr := Imp.go wr (by omega))); omega)) (show z25.toInt ≤ (V 41 b).toInt from by first | omega | ((try (have i_wr := Imp.go wr (by omega))); omega)) (show z24.toInt = ((arounds (gs.2.2.1.take z25.toInt.toNat) gf : Nat) : Int) from by rw [show z25.toInt.toNat = y1.toInt.toNat + 1 from by omega, as26]; omega) (by first | omega | ((try (have i_wr := Imp.go wr (by omega))); omega)) hP hD hS (lv_sub hl [0, 1, 2, 3] rfl)
  have r28 : Int32.toInt 0 = 0 := by decide
  have r29 : 0 ≤ ((V 41 b)).toInt ∧ ((V 41 b)).toInt ≤ 12 := hMV 41 b
  exact lp3 ((12 - (Int32.toInt 0) + 1 : Int).toNat) 0 0 H locs ls (by decide) (by decide) (show (Int32.toInt 0) ≤ (Int32.toInt 0) from by first | omega | ((try (have i_wr := Imp.go wr (by omega))); omega)) (show (Int32.toInt 0) ≤ (V 41 b).toInt from by first | omega | ((try (have i_wr := Imp.go wr (by omega))); omega)) (show Int32.toInt 0 = ((arounds (gs.2.2.1.take (Int32.toInt 0).toNat) gf : Nat) : Int) from rfl) (by first | omega | ((try (have i_wr := Imp.go wr (by omega))); omega)) hP hD hS (lv_sub hl [0, 1, 2, 3] rfl)
abbrev r_x_addWrap3 : Room := { frames := 0, cells := 0, slots := 0, locals := 0 }
abbrev q_x_addWrap3 (D : va_G) (ks : KS) (ad : Nat → Nat) (kk : Nat → ClassId) (V : Vf) (L : Lf) (Z : XZ) (p0 : Int32) (p1 : Int32) (p2 : Int32) (p3 : Int32) (p4 : Int32) (b : Nat) (A : Nat → Prop) : Array Value → State → Outcome → State → Prop := va_Qv (fun (u : Vf × Lf) => rgd bX u.1 ∧ agr [] [41, 47, 62, 63, 64, 65, 66] V u.1 ∧ u.2 = L ∧ (Imp ((V 41 b).toInt < 12) ((u.1 41 b).toInt = (V 41 b).toInt + 1)) ∧ (Imp ((V 41 b).toInt < 12) (u.1 63 = upd (V 63) (12 * b + Int32.toNatClampNeg (V 41 b)) p1)) ∧ (Imp ((V 41 b).toInt < 12) (u.1 65 = upd (V 65) (12 * b + Int32.toNatClampNeg (V 41 b)) p3))) (fun u t => gq D A (xw ad kk u.1 u.2 Z) (xty kk Z) t) A
set_option maxHeartbeats 4000000 in
set_option maxRecDepth 100000 in
theorem x_addWrap3 (l : Launch) (D : va_G) (ks : KS) (sz : Nat) (ad : Nat → Nat) (kk : Nat → ClassId) (V : Vf) (L : Lf) (Z : XZ) (p0 : Int32) (p1 : Int32) (p2 : Int32) (p3 : Int32) (p4 : Int32) (b : Nat) (hMV : rgd bX V) (rg_p4 : 0 ≤ p4.toInt ∧ p4.toInt ≤ 8200) (hb2 : b < 2)  : Met l yX0_addWrap (Cond.code yX0_addWrap cX0_addWrap 8 none :: GW) r_x_addWrap3 (va_Pc [.ref (ad (38 + b)), .int p0, .int p1, .int p2, .int p3, .int p4] (gp D ks (xw ad kk V L Z) (xty kk Z) sz)) (q_x_addWrap3 D ks ad kk V L Z p0 p1 p2 p3 p4 b (va_A (xw ad kk V L Z) sz)) 0 0 (va_A (xw ad kk V L Z) sz) := by
  refine g_met (q_x_addWrap3 D ks ad kk V L Z p0 p1 p2 p3 p4 b) (by decide) (Nat.le_of_ble_eq_true rfl) ?_
  intro p e s m below meth c A ls H locs hx hb hr hml hown hg hlocks hin hnw hgk hP hK hD hS hA hl
  have hown : s.vm.findClass RX0 = some m.cls := hown
  have hl : lv_has ls 8 [(0, .ref (ad (38 + b))), (1, .int p0), (2, .int p1), (3, .int p2), (4, .int p3), (5, .int p4)] := hl
  have hP : va_P D vwCl (xw ad kk V L Z) H := hP
  have hD : va_D A (xw ad kk V L Z) := hD
  have hK : va_K D vwCl (xty kk Z) s := hK
  have agV : agr [] [41, 47, 62, 63, 64, 65, 66] V V := agr.rf
  refine lv_aload_n hx hb dX0_addWrap_0 rfl (lv_at hl 0 rfl) ?_
  refine va_get (D := D) (ci := 0) (v := .int (V 41 b)) (fs := (xfBook ad V b)) (C := RX0) (T := TX0) (N := 13) hx hb hg inX0 hown hK hP (38 + b) (xgBook hb2) rfl 11 (by decide) (hg _ w625) (fun _ h9 => h9) rfl dX0_addWrap_1 ?_
  have r1 : 0 ≤ ((V 41 b)).toInt ∧ ((V 41 b)).toInt ≤ 12 := hMV 41 b
  refine lv_bipush (v := 12) hx hb dX0_addWrap_4 (by decide) ?_
  refine lv_icmp_lt (tgt := 10) hx hb dX0_addWrap_6 (by decide) (fun c2 => ?_) (fun c2 => ?_)
  · skip
    have f3 : ((V 41 b)).toInt < 12 := b_lt rfl (by decide) c2
    refine lv_aload_n hx hb dX0_addWrap_10 rfl (lv_at hl 0 rfl) ?_
    refine va_get (D := D) (ci := 0) (v := .ref (ad (66 + b))) (fs := (xfBook ad V b)) (C := RX0) (T := TX0) (N := 13) hx hb hg inX0 hown hK hP (38 + b) (xgBook hb2) rfl 8 (by decide) (hg _ w619) (fun _ h9 => h9) rfl dX0_addWrap_11 ?_
    refine lv_aload_n hx hb dX0_addWrap_14 rfl (lv_at hl 0 rfl) ?_
    refine va_get (D := D) (ci := 0) (v := .int (V 41 b)) (fs := (xfBook ad V b)) (C := RX0) (T := TX0) (N := 13) hx hb hg inX0 hown hK hP (38 + b) (xgBook hb2) rfl 11 (by decide) (hg _ w625) (fun _ h9 => h9) rfl dX0_addWrap_15 ?_
    have il4 : b < 2 := by omega
    refine va_aldq (D := D) (i := (V 41 b)) hx hb hK hP (66 + b) (59 + b) (xgwrapsA il4) (xtwrapsA il4) (i_in (a := ((V 41 b)).toInt) rfl (by omega)) dX0_addWrap_18 ?_
    have kc5 := i_clamp (x := (V 41 b)) rfl (by omega)
    refine g_topv (v := .ref (ad (312 + (12 * b + (Int32.toNatClampNeg (V 41 b)))))) (congrArg va_rf (if_pos (by omega))) ?_
    have il6 : (12 * b + (Int32.toNatClampNeg (V 41 b))) < 24 := by omega
    refine lv_astore (lv' := [(6, .ref (ad (312 + (12 * b + (Int32.toNatClampNeg (V 41 b)))))), (0, .ref (ad (38 + b))), (1, .int p0), (2, .int p1), (3, .int p2), (4, .int p3), (5, .int p4)]) hx hb dX0_addWrap_19 hl (by decide) rfl (fun ls hl => ?_)
    refine lv_aload hx hb dX0_addWrap_21 (lv_at hl 0 rfl) ?_
    refine lv_iload_n hx hb dX0_addWrap_23 rfl (lv_at hl 2 rfl) ?_
    refine va_putN (D := D) (ci := 10) (v := .int p0) (ty := tyX10 0) (fs := (xfWrap V (12 * b + (Int32.toNatClampNeg (V 41 b))))) (C := RX10) (T := TX10) (N := 5) hx hb hg inX10 tyX10 tyX10_ok nmX10 hown hK hP hD hS (312 + (12 * b + (Int32.toNatClampNeg (V 41 b)))) (xgWrap il6) rfl 0 (by decide) (hnw.use 575 n575 rfl) (fun _ h9 => h9) rfl (tyX10_ok 0 (by decide)) rfl rfl (Nat.le_of_ble_eq_true rfl) dX0_addWrap_24 (fun H locs hP hD hS => ?_)
    obtain ⟨V7, hV7⟩ : ∃ z, z = up2 V 62 (12 * b + (Int32.toNatClampNeg (V 41 b))) p0 := ⟨_, rfl⟩
    have ew8 : (xw ad kk V L Z).set (312 + (12 * b + (Int32.toNatClampNeg (V 41 b)))) ((ad (312 + (12 * b + (Int32.toNatClampNeg (V 41 b))))), .inr (10, (xfWrap V (12 * b + (Int32.toNatClampNeg (V 41 b)))).set 0 (.int p0))) = xw ad kk V7 L Z := by rw [hV7]; exact xpWrap_type il6
    have hP : va_P D vwCl (xw ad kk V7 L Z) H := by rw [← ew8]; exact hP
    have hD : va_D A (xw ad kk V7 L Z) := by rw [← ew8]; exact hD
    have hMV7 : rgd bX V7 := hMV.put hV7 (i_full _)
    have agV7 : agr [] [41, 47, 62, 63, 64, 65, 66] V V7 := agV.up hV7 rfl
    refine lv_aload hx hb dX0_addWrap_27 (lv_at hl 0 rfl) ?_
    refine lv_iload_n hx hb dX0_addWrap_29 rfl (lv_at hl 3 rfl) ?_
    refine va_putN (D := D) (ci := 10) (v := .int p1) (ty := tyX10 1) (fs := (xfWrap V7 (12 * b + (Int32.toNatClampNeg (V 41 b))))) (C := RX10) (T := TX10) (N := 5) hx hb hg inX10 tyX10 tyX10_ok nmX10 hown hK hP hD hS (312 + (12 * b + (Int32.toNatClampNeg (V 41 b)))) (xgWrap il6) rfl 1 (by decide) (hnw.use 576 n576 rfl) (fun _ h9 => h9) rfl (tyX10_ok 1 (by decide)) rfl rfl (Nat.le_of_ble_eq_true rfl) dX0_addWrap_30 (fun H locs hP hD hS => ?_)
    obtain ⟨V9, hV9⟩ : ∃ z, z = up2 V7 63 (12 * b + (Int32.toNatClampNeg (V 41 b))) p1 := ⟨_, rfl⟩
    have ew10 : (xw ad kk V7 L Z).set (312 + (12 * b + (Int32.toNatClampNeg (V 41 b)))) ((ad (312 + (12 * b + (Int32.toNatClampNeg (V 41 b))))), .inr (10, (xfWrap V7 (12 * b + (Int32.toNatClampNeg (V 41 b)))).set 1 (.int p1))) = xw ad kk V9 L Z := by rw [hV9]; exact xpWrap_method il6
    have hP : va_P D vwCl (xw ad kk V9 L Z) H := by rw [← ew10]; exact hP
    have hD : va_D A (xw ad kk V9 L Z) := by rw [← ew10]; exact hD
    have hMV9 : rgd bX V9 := hMV7.put hV9 (i_full _)
    have agV9 : agr [] [41, 47, 62, 63, 64, 65, 66] V V9 := agV7.up hV9 rfl
    refine lv_aload hx hb dX0_addWrap_33 (lv_at hl 0 rfl) ?_
    refine lv_iload_n hx hb dX0_addWrap_35 rfl (lv_at hl 4 rfl) ?_
    refine va_putN (D := D) (ci := 10) (v := .int p2) (ty := tyX10 2) (fs := (xfWrap V9 (12 * b + (Int32.toNatClampNeg (V 41 b))))) (C := RX10) (T := TX10) (N := 5) hx hb hg inX10 tyX10 tyX10_ok nmX10 hown hK hP hD hS (312 + (12 * b + (Int32.toNatClampNeg (V 41 b)))) (xgWrap il6) rfl 2 (by decide) (hnw.use 577 n577 rfl) (fun _ h9 => h9) rfl (tyX10_ok 2 (by decide)) rfl rfl (Nat.le_of_ble_eq_true rfl) dX0_addWrap_36 (fun H locs hP hD hS => ?_)
    obtain ⟨V11, hV11⟩ : ∃ z, z = up2 V9 64 (12 * b + (Int32.toNatClampNeg (V 41 b))) p2 := ⟨_, rfl⟩
    have ew12 : (xw ad kk V9 L Z).set (312 + (12 * b + (Int32.toNatClampNeg (V 41 b)))) ((ad (312 + (12 * b + (Int32.toNatClampNeg (V 41 b))))), .inr (10, (xfWrap V9 (12 * b + (Int32.toNatClampNeg (V 41 b)))).set 2 (.int p2))) = xw ad kk V11 L Z := by rw [hV11]; exact xpWrap_number il6
    have hP : va_P D vwCl (xw ad kk V11 L Z) H := by rw [← ew12]; exact hP
    have hD : va_D A (xw ad kk V11 L Z) := by rw [← ew12]; exact hD
    have hMV11 : rgd bX V11 := hMV9.put hV11 (i_full _)
    have agV11 : agr [] [41, 47, 62, 63, 64, 65, 66] V V11 := agV9.up hV11 rfl
    refine lv_aload hx hb dX0_addWrap_39 (lv_at hl 0 rfl) ?_
    refine lv_iload hx hb dX0_addWrap_41 (lv_at hl 5 rfl) ?_
    refine va_putN (D := D) (ci := 10) (v := .int p3) (ty := tyX10 3) (fs := (xfWrap V11 (12 * b + (Int32.toNatClampNeg (V 41 b))))) (C := RX10) (T := TX10) (N := 5) hx hb hg inX10 tyX10 tyX10_ok nmX10 hown hK hP hD hS (312 + (12 * b + (Int32.toNatClampNeg (V 41 b)))) (xgWrap il6) rfl 3 (by decide) (hnw.use 578 n578 rfl) (fun _ h9 => h9) rfl (tyX10_ok 3 (by decide)) rfl rfl (Nat.le_of_ble_eq_true rfl) dX0_addWrap_43 (fun H locs hP hD hS => ?_)
    obtain ⟨V13, hV13⟩ : ∃ z, z = up2 V11 65 (12 * b + (Int32.toNatClampNeg (V 41 b))) p3 := ⟨_, rfl⟩
    have ew14 : (xw ad kk V11 L Z).set (312 + (12 * b + (Int32.toNatClampNeg (V 41 b)))) ((ad (312 + (12 * b + (Int32.toNatClampNeg (V 41 b))))), .inr (10, (xfWrap V11 (12 * b + (Int32.toNatClampNeg (V 41 b)))).set 3 (.int p3))) = xw ad kk V13 L Z := by rw [hV13]; exact xpWrap_phase il6
    have hP : va_P D vwCl (xw ad kk V13 L Z) H := by rw [← ew14]; exact hP
    have hD : va_D A (xw ad kk V13 L Z) := by rw [← ew14]; exact hD
    have hMV13 : rgd bX V13 := hMV11.put hV13 (i_full _)
    have agV13 : agr [] [41, 47, 62, 63, 64, 65, 66] V V13 := agV11.up hV13 rfl
    refine lv_aload hx hb dX0_addWrap_46 (lv_at hl 0 rfl) ?_
    refine lv_iload hx hb dX0_addWrap_48 (lv_at hl 6 rfl) ?_
    refine va_putN (D := D) (ci := 10) (v := .int p4) (ty := tyX10 4) (fs := (xfWrap V13 (12 * b + (Int32.toNatClampNeg (V 41 b))))) (C := RX10) (T := TX10) (N := 5) hx hb hg inX10 tyX10 tyX10_ok nmX10 hown hK hP hD hS (312 + (12 * b + (Int32.toNatClampNeg (V 41 b)))) (xgWrap il6) rfl 4 (by decide) (hnw.use 580 n580 rfl) (fun _ h9 => h9) rfl (tyX10_ok 4 (by decide)) rfl rfl (Nat.le_of_ble_eq_true rfl) dX0_addWrap_50 (fun H locs hP hD hS => ?_)
    obtain ⟨V15, hV15⟩ : ∃ z, z = up2 V13 66 (12 * b + (Int32.toNatClampNeg (V 41 b))) p4 := ⟨_, rfl⟩
    have ew16 : (xw ad kk V13 L Z).set (312 + (12 * b + (Int32.toNatClampNeg (V 41 b)))) ((ad (312 + (12 * b + (Int32.toNatClampNeg (V 41 b))))), .inr (10, (xfWrap V13 (12 * b + (Int32.toNatClampNeg (V 41 b)))).set 4 (.int p4))) = xw ad kk V15 L Z := by rw [hV15]; exact xpWrap_start il6
    have hP : va_P D vwCl (xw ad kk V15 L Z) H := by rw [← ew16]; exact hP
    have hD : va_D A (xw ad kk V15 L Z) := by rw [← ew16]; exact hD
    have hMV15 : rgd bX V15 := hMV13.put hV15 (show 0 ≤ p4.toInt ∧ p4.toInt ≤ 8200 from by omega)
    have agV15 : agr [] [41, 47, 62, 63, 64, 65, 66] V V15 := agV13.up hV15 rfl
    refine lv_aload_n hx hb dX0_addWrap_53 rfl (lv_at hl 1 rfl) ?_
    refine va_get (D := D) (ci := 0) (v := .int (V15 41 b)) (fs := (xfBook ad V15 b)) (C := RX0) (T := TX0) (N := 13) hx hb hg inX0 hown hK hP (38 + b) (xgBook hb2) rfl 11 (by decide) (hg _ w625) (fun _ h9 => h9) rfl dX0_addWrap_54 ?_
    refine g_top (v := (V 41 b)) ((up2_o hV15 (by decide)).trans ((up2_o hV13 (by decide)).trans ((up2_o hV11 (by decide)).trans ((up2_o hV9 (by decide)).trans (up2_o hV7 (by decide)))))) ?_
    refine lv_istore (lv' := [(7, .int (V 41 b)), (6, .ref (ad (312 + (12 * b + (Int32.toNatClampNeg (V 41 b)))))), (0, .ref (ad (38 + b))), (1, .int p0), (2, .int p1), (3, .int p2), (4, .int p3), (5, .int p4)]) hx hb dX0_addWrap_57 hl (by decide) rfl (fun ls hl => ?_)
    have lp19 : ∀ (fulp19 : Nat) (y17 : Int32) (V18 : Vf) (H : Heap) (locs : List Loc) (ls : Array Slot), 0 ≤ y17.toInt ∧ y17.toInt ≤ 11 → y17.toInt < (fulp19 : Int) → agr [] [47] V15 V18 → rgd bX V18 → va_P D vwCl (xw ad kk V18 L Z) H → va_D A (xw ad kk V18 L Z) → va_S A s.heap H locs → lv_has ls 8 [(7, .int y17), (6, .ref (ad (312 + (12 * b + (Int32.toNatClampNeg (V 41 b)))))), (0, .ref (ad (38 + b))), (1, .int p0), (2, .int p1), (3, .int p2), (4, .int p3), (5, .int p4)] → W p l e r_x_addWrap3 s m ([.ref (ad (38 + b)), .int p0, .int p1, .int p2, .int p3, .int p4] : List Value).toArray below meth c H locs 0 0 (MQ below (q_x_addWrap3 D ks ad kk V L Z p0 p1 p2 p3 p4 b A) ([.ref (ad (38 + b)), .int p0, .int p1, .int p2, .int p3, .int p4] : List Value).toArray s 0 0 A) (F0 m 59 ls []) := by
      intro fulp19
      induction fulp19 with
      | zero =>
        intro y17 V18 H locs ls klp19_0 hn ajV18 hMV18 hP hD hS hl
        exfalso; omega
      | succ fulp19 ihlp19 =>
        intro y17 V18 H locs ls klp19_0 hn ajV18 hMV18 hP hD hS hl
        have agV18 : agr [] [41, 47, 62, 63, 64, 65, 66] V V18 := agV15.tr ajV18 (by decide) (by decide)
        refine lv_iload hx hb dX0_addWrap_59 (lv_at hl 0 rfl) ?_
        refine lv_if_le (tgt := 107) hx hb dX0_addWrap_61 (by decide) (fun c20 => ?_) (fun c20 => ?_)
        · skip
          have f21 : y17.toInt ≤ 0 := b_le rfl (by decide) c20
          refine lv_aload_n hx hb dX0_addWrap_107 rfl (lv_at hl 2 rfl) ?_
          refine va_get (D := D) (ci := 0) (v := .ref (ad (68 + b))) (fs := (xfBook ad V18 b)) (C := RX0) (T := TX0) (N := 13) hx hb hg inX0 hown hK hP (38 + b) (xgBook hb2) rfl 9 (by decide) (hg _ w621) (fun _ h9 => h9) rfl dX0_addWrap_108 ?_
          refine lv_iload hx hb dX0_addWrap_111 (lv_at hl 0 rfl) ?_
          refine lv_aload_n hx hb dX0_addWrap_113 rfl (lv_at hl 2 rfl) ?_
          refine va_get (D := D) (ci := 0) (v := .int (V18 41 b)) (fs := (xfBook ad V18 b)) (C := RX0) (T := TX0) (N := 13) hx hb hg inX0 hown hK hP (38 + b) (xgBook hb2) rfl 11 (by decide) (hg _ w625) (fun _ h9 => h9) rfl dX0_addWrap_114 ?_
          refine g_top (v := (V 41 b)) ((ajV18 41 b rfl).trans ((up2_o hV15 (by decide)).trans ((up2_o hV13 (by decide)).trans ((up2_o hV11 (by decide)).trans ((up2_o hV9 (by decide)).trans (up2_o hV7 (by decide))))))) ?_
          have il22 : b < 2 := by omega
          refine va_iast (D := D) (i := y17) (x := (V 41 b)) hx hb hK hP hD hS (68 + b) (61 + b) (xgwrapOrder il22) (xtwrapOrder il22) (i_in (a := y17.toInt) rfl (by omega)) dX0_addWrap_117 (fun H locs hP hD hS => ?_)
          have kc23 := i_clamp (x := y17) rfl (by omega)
          have kl24 : (Int32.toNatClampNeg y17) < 12 := by omega
          obtain ⟨V25, hV25⟩ : ∃ z, z = up2 V18 47 (12 * b + (Int32.toNatClampNeg y17)) (V 41 b) := ⟨_, rfl⟩
          have ew26 : (xw ad kk V18 L Z).set (68 + b) ((ad (68 + b)), .inl ((kk (68 + b)), 12, .inl (upd (fun q => if q < 12 then V18 47 (12 * b + q) else 0) (Int32.toNatClampNeg y17) (V 41 b)))) = xw ad kk V25 L Z := by rw [hV25]; exact xpwrapOrder il22 kl24
          have hP : va_P D vwCl (xw ad kk V25 L Z) H := by rw [← ew26]; exact hP
          have hD : va_D A (xw ad kk V25 L Z) := by rw [← ew26]; exact hD
          have hMV25 : rgd bX V25 := hMV18.put hV25 (show 0 ≤ ((V 41 b)).toInt ∧ ((V 41 b)).toInt ≤ 11 from by omega)
          have agV25 : agr [] [41, 47, 62, 63, 64, 65, 66] V V25 := agV18.up hV25 rfl
          refine lv_aload_n hx hb dX0_addWrap_118 rfl (lv_at hl 2 rfl) ?_
          refine lv_dup hx hb dX0_addWrap_119 rfl ?_
          refine va_get (D := D) (ci := 0) (v := .int (V25 41 b)) (fs := (xfBook ad V25 b)) (C := RX0) (T := TX0) (N := 13) hx hb hg inX0 hown hK hP (38 + b) (xgBook hb2) rfl 11 (by decide) (hg _ w625) (fun _ h9 => h9) rfl dX0_addWrap_120 ?_
          refine g_top (v := (V 41 b)) ((up2_o hV25 (by decide)).trans ((ajV18 41 b rfl).trans ((up2_o hV15 (by decide)).trans ((up2_o hV13 (by decide)).trans ((up2_o hV11 (by decide)).trans ((up2_o hV9 (by decide)).trans (up2_o hV7 (by decide)))))))) ?_
          refine lv_iconst (v := 1) hx hb dX0_addWrap_123 (by decide) ?_
          refine lv_iadd hx hb dX0_addWrap_124 ?_
          refine lv_topi (fun z27 ez27 => ?_)
          have hz27 : z27.toInt = ((V 41 b)).toInt + 1 := i_add ez27 rfl (by decide) (by omega)
          refine va_put (D := D) (ci := 0) (v := .int z27) (ty := tyX0 11) (fs := (xfBook ad V25 b)) (C := RX0) (T := TX0) (N := 13) hx hb hg inX0 tyX0 tyX0_ok nmX0 hown hK hP hD hS (38 + b) (xgBook hb2) rfl 11 (by decide) (hg _ w625) (fun _ h9 => h9) rfl (tyX0_ok 11 (by decide)) rfl rfl (Nat.le_of_ble_eq_true rfl) dX0_addWrap_125 (fun H locs hP hD hS => ?_)
          obtain ⟨V28, hV28⟩ : ∃ z, z = up2 V25 41 b z27 := ⟨_, rfl⟩
          have ew29 : (xw ad kk V25 L Z).set (38 + b) ((ad (38 + b)), .inr (0, (xfBook ad V25 b).set 11 (.int z27))) = xw ad kk V28 L Z := by rw [hV28]; exact xpBook_wrapCount hb2
          have hP : va_P D vwCl (xw ad kk V28 L Z) H := by rw [← ew29]; exact hP
          have hD : va_D A (xw ad kk V28 L Z) := by rw [← ew29]; exact hD
          have hMV28 : rgd bX V28 := hMV25.put hV28 (show 0 ≤ z27.toInt ∧ z27.toInt ≤ 12 from by omega)
          have agV28 : agr [] [41, 47, 62, 63, 64, 65, 66] V V28 := agV25.up hV28 rfl
          have pq30 : (V28 41 b).toInt = z27.toInt := congrArg Int32.toInt (up2_s hV28)
          have rp31 : Imp ((V 41 b).toInt < 12) (V28 63 = upd (V 63) (12 * b + Int32.toNatClampNeg (V 41 b)) p1) := Imp.mk (fun _ => by rw [(by rw [(up2_fo hV28 (by decide) : V28 63 = V25 63), (up2_fo hV25 (by decide) : V25 63 = V18 63), (funext (fun q => ajV18 63 q rfl) : V18 63 = V15 63), (up2_fo hV15 (by decide) : V15 63 = V13 63), (up2_fo hV13 (by decide) : V13 63 = V11 63), (up2_fo hV11 (by decide) : V11 63 = V9 63)] : V28 63 = V9 63), up2_fn hV9, (by rw [(up2_fo hV7 (by decide) : V7 63 = V 63)] : V7 63 = V 63)])
          have rp32 : Imp ((V 41 b).toInt < 12) (V28 65 = upd (V 65) (12 * b + Int32.toNatClampNeg (V 41 b)) p3) := Imp.mk (fun _ => by rw [(by rw [(up2_fo hV28 (by decide) : V28 65 = V25 65), (up2_fo hV25 (by decide) : V25 65 = V18 65), (funext (fun q => ajV18 65 q rfl) : V18 65 = V15 65), (up2_fo hV15 (by decide) : V15 65 = V13 65)] : V28 65 = V13 65), up2_fn hV13, (by rw [(up2_fo hV11 (by decide) : V11 65 = V9 65), (up2_fo hV9 (by decide) : V9 65 = V7 65), (up2_fo hV7 (by decide) : V7 65 = V 65)] : V11 65 = V 65)])
          exact W.vret hx hb hr (fun t ht hW => ⟨⟨(V28, L), rfl, ⟨hMV28, agV28, rfl, (Imp.mk (fun hp => have hp : (V 41 b).toInt < 12 := hp; (show (V28 41 b).toInt = (V 41 b).toInt + 1 from by omega))), rp31, rp32⟩, by rw [ht]; exact hP, va_K.moved hW.alike hK, hD⟩, hS.F ht⟩) hS.2.2 dX0_addWrap_128
        · skip
          have f33 : 0 < y17.toInt := b_nle rfl (by decide) c20
          refine lv_aload_n hx hb dX0_addWrap_64 rfl (lv_at hl 2 rfl) ?_
          refine va_get (D := D) (ci := 0) (v := .ref (ad (66 + b))) (fs := (xfBook ad V18 b)) (C := RX0) (T := TX0) (N := 13) hx hb hg inX0 hown hK hP (38 + b) (xgBook hb2) rfl 8 (by decide) (hg _ w619) (fun _ h9 => h9) rfl dX0_addWrap_65 ?_
          refine lv_aload_n hx hb dX0_addWrap_68 rfl (lv_at hl 2 rfl) ?_
          refine va_get (D := D) (ci := 0) (v := .ref (ad (68 + b))) (fs := (xfBook ad V18 b)) (C := RX0) (T := TX0) (N := 13) hx hb hg inX0 hown hK hP (38 + b) (xgBook hb2) rfl 9 (by decide) (hg _ w621) (fun _ h9 => h9) rfl dX0_addWrap_69 ?_
          refine lv_iload hx hb dX0_addWrap_72 (lv_at hl 0 rfl) ?_
          refine lv_iconst (v := 1) hx hb dX0_addWrap_74 (by decide) ?_
          refine lv_isub hx hb dX0_addWrap_75 ?_
          refine lv_topi (fun z34 ez34 => ?_)
          have hz34 : z34.toInt = y17.toInt - 1 := i_sub ez34 rfl (by decide) (by omega)
          have il35 : b < 2 := by omega
          refine va_iald (D := D) (i := z34) hx hb hK hP (68 + b) (61 + b) (xgwrapOrder il35) (xtwrapOrder il35) (i_in (a := z34.toInt) rfl (by omega)) dX0_addWrap_76 ?_
          have kc36 := i_clamp (x := z34) rfl (by omega)
          refine g_top (v := V18 47 (12 * b + (Int32.toNatClampNeg z34))) (if_pos (by omega)) ?_
          have r37 : 0 ≤ ((V18 47 (12 * b + (Int32.toNatClampNeg z34)))).toInt ∧ ((V18 47 (12 * b + (Int32.toNatClampNeg z34)))).toInt ≤ 11 := hMV18 47 (12 * b + (Int32.toNatClampNeg z34))
          refine va_aldq (D := D) (i := (V18 47 (12 * b + (Int32.toNatClampNeg z34)))) hx hb hK hP (66 + b) (59 + b) (xgwrapsA il4) (xtwrapsA il4) (i_in (a := ((V18 47 (12 * b + (Int32.toNatClampNeg z34)))).toInt) rfl (by omega)) dX0_addWrap_77 ?_
          have kc38 := i_clamp (x := (V18 47 (12 * b + (Int32.toNatClampNeg z34)))) rfl (by omega)
          refine g_topv (v := .ref (ad (312 + (12 * b + (Int32.toNatClampNeg (V18 47 (12 * b + (Int32.toNatClampNeg z34)))))))) (congrArg va_rf (if_pos (by omega))) ?_
          have il39 : (12 * b + (Int32.toNatClampNeg (V18 47 (12 * b + (Int32.toNatClampNeg z34))))) < 24 := by omega
          refine va_getN (D := D) (ci := 10) (v := .int (V18 64 (12 * b + (Int32.toNatClampNeg (V18 47 (12 * b + (Int32.toNatClampNeg z34))))))) (fs := (xfWrap V18 (12 * b + (Int32.toNatClampNeg (V18 47 (12 * b + (Int32.toNatClampNeg z34))))))) (C := RX10) (T := TX10) (N := 5) hx hb hg inX10 hown hK hP (312 + (12 * b + (Int32.toNatClampNeg (V18 47 (12 * b + (Int32.toNatClampNeg z34)))))) (xgWrap il39) rfl 2 (by decide) (hnw.use 577 n577 rfl) (fun _ h9 => h9) rfl dX0_addWrap_78 ?_
          refine g_top (v := (V11 64 (12 * b + (Int32.toNatClampNeg (V18 47 (12 * b + (Int32.toNatClampNeg z34))))))) ((ajV18 64 (12 * b + (Int32.toNatClampNeg (V18 47 (12 * b + (Int32.toNatClampNeg z34))))) rfl).trans ((up2_o hV15 (by decide)).trans (up2_o hV13 (by decide)))) ?_
          refine lv_iload_n hx hb dX0_addWrap_81 rfl (lv_at hl 5 rfl) ?_
          refine lv_icmp_le (tgt := 107) hx hb dX0_addWrap_82 (by decide) (fun c40 => ?_) (fun c40 => ?_)
          · skip
            have f41 : ((V11 64 (12 * b + (Int32.toNatClampNeg (V18 47 (12 * b + (Int32.toNatClampNeg z34))))))).toInt ≤ p2.toInt := b_le rfl rfl c40
            refine lv_aload_n hx hb dX0_addWrap_107 rfl (lv_at hl 2 rfl) ?_
            refine va_get (D := D) (ci := 0) (v := .ref (ad (68 + b))) (fs := (xfBook ad V18 b)) (C := RX0) (T := TX0) (N := 13) hx hb hg inX0 hown hK hP (38 + b) (xgBook hb2) rfl 9 (by decide) (hg _ w621) (fun _ h9 => h9) rfl dX0_addWrap_108 ?_
            refine lv_iload hx hb dX0_addWrap_111 (lv_at hl 0 rfl) ?_
            refine lv_aload_n hx hb dX0_addWrap_113 rfl (lv_at hl 2 rfl) ?_
            refine va_get (D := D) (ci := 0) (v := .int (V18 41 b)) (fs := (xfBook ad V18 b)) (C := RX0) (T := TX0) (N := 13) hx hb hg inX0 hown hK hP (38 + b) (xgBook hb2) rfl 11 (by decide) (hg _ w625) (fun _ h9 => h9) rfl dX0_addWrap_114 ?_
            refine g_top (v := (V 41 b)) ((ajV18 41 b rfl).trans ((up2_o hV15 (by decide)).trans ((up2_o hV13 (by decide)).trans ((up2_o hV11 (by decide)).trans ((up2_o hV9 (by decide)).trans (up2_o hV7 (by decide))))))) ?_
            refine va_iast (D := D) (i := y17) (x := (V 41 b)) hx hb hK hP hD hS (68 + b) (61 + b) (xgwrapOrder il35) (xtwrapOrder il35) (i_in (a := y17.toInt) rfl (by omega)) dX0_addWrap_117 (fun H locs hP hD hS => ?_)
            have kc42 := i_clamp (x := y17) rfl (by omega)
            have kl43 : (Int32.toNatClampNeg y17) < 12 := by omega
            obtain ⟨V44, hV44⟩ : ∃ z, z = up2 V18 47 (12 * b + (Int32.toNatClampNeg y17)) (V 41 b) := ⟨_, rfl⟩
            have ew45 : (xw ad kk V18 L Z).set (68 + b) ((ad (68 + b)), .inl ((kk (68 + b)), 12, .inl (upd (fun q => if q < 12 then V18 47 (12 * b + q) else 0) (Int32.toNatClampNeg y17) (V 41 b)))) = xw ad kk V44 L Z := by rw [hV44]; exact xpwrapOrder il35 kl43
            have hP : va_P D vwCl (xw ad kk V44 L Z) H := by rw [← ew45]; exact hP
            have hD : va_D A (xw ad kk V44 L Z) := by rw [← ew45]; exact hD
            have hMV44 : rgd bX V44 := hMV18.put hV44 (show 0 ≤ ((V 41 b)).toInt ∧ ((V 41 b)).toInt ≤ 11 from by omega)
            have agV44 : agr [] [41, 47, 62, 63, 64, 65, 66] V V44 := agV18.up hV44 rfl
            refine lv_aload_n hx hb dX0_addWrap_118 rfl (lv_at hl 2 rfl) ?_
            refine lv_dup hx hb dX0_addWrap_119 rfl ?_
            refine va_get (D := D) (ci := 0) (v := .int (V44 41 b)) (fs := (xfBook ad V44 b)) (C := RX0) (T := TX0) (N := 13) hx hb hg inX0 hown hK hP (38 + b) (xgBook hb2) rfl 11 (by decide) (hg _ w625) (fun _ h9 => h9) rfl dX0_addWrap_120 ?_
            refine g_top (v := (V 41 b)) ((up2_o hV44 (by decide)).trans ((ajV18 41 b rfl).trans ((up2_o hV15 (by decide)).trans ((up2_o hV13 (by decide)).trans ((up2_o hV11 (by decide)).trans ((up2_o hV9 (by decide)).trans (up2_o hV7 (by decide)))))))) ?_
            refine lv_iconst (v := 1) hx hb dX0_addWrap_123 (by decide) ?_
            refine lv_iadd hx hb dX0_addWrap_124 ?_
            refine lv_topi (fun z46 ez46 => ?_)
            have hz46 : z46.toInt = ((V 41 b)).toInt + 1 := i_add ez46 rfl (by decide) (by omega)
            refine va_put (D := D) (ci := 0) (v := .int z46) (ty := tyX0 11) (fs := (xfBook ad V44 b)) (C := RX0) (T := TX0) (N := 13) hx hb hg inX0 tyX0 tyX0_ok nmX0 hown hK hP hD hS (38 + b) (xgBook hb2) rfl 11 (by decide) (hg _ w625) (fun _ h9 => h9) rfl (tyX0_ok 11 (by decide)) rfl rfl (Nat.le_of_ble_eq_true rfl) dX0_addWrap_125 (fun H locs hP hD hS => ?_)
            obtain ⟨V47, hV47⟩ : ∃ z, z = up2 V44 41 b z46 := ⟨_, rfl⟩
            have ew48 : (xw ad kk V44 L Z).set (38 + b) ((ad (38 + b)), .inr (0, (xfBook ad V44 b).set 11 (.int z46))) = xw ad kk V47 L Z := by rw [hV47]; exact xpBook_wrapCount hb2
            have hP : va_P D vwCl (xw ad kk V47 L Z) H := by rw [← ew48]; exact hP
            have hD : va_D A (xw ad kk V47 L Z) := by rw [← ew48]; exact hD
            have hMV47 : rgd bX V47 := hMV44.put hV47 (show 0 ≤ z46.toInt ∧ z46.toInt ≤ 12 from by omega)
            have agV47 : agr [] [41, 47, 62, 63, 64, 65, 66] V V47 := agV44.up hV47 rfl
            have pq49 : (V47 41 b).toInt = z46.toInt := congrArg Int32.toInt (up2_s hV47)
            have rp50 : Imp ((V 41 b).toInt < 12) (V47 63 = upd (V 63) (12 * b + Int32.toNatClampNeg (V 41 b)) p1) := Imp.mk (fun _ => by rw [(by rw [(up2_fo hV47 (by decide) : V47 63 = V44 63), (up2_fo hV44 (by decide) : V44 63 = V18 63), (funext (fun q => ajV18 63 q rfl) : V18 63 = V15 63), (up2_fo hV15 (by decide) : V15 63 = V13 63), (up2_fo hV13 (by decide) : V13 63 = V11 63), (up2_fo hV11 (by decide) : V11 63 = V9 63)] : V47 63 = V9 63), up2_fn hV9, (by rw [(up2_fo hV7 (by decide) : V7 63 = V 63)] : V7 63 = V 63)])
            have rp51 : Imp ((V 41 b).toInt < 12) (V47 65 = upd (V 65) (12 * b + Int32.toNatClampNeg (V 41 b)) p3) := Imp.mk (fun _ => by rw [(by rw [(up2_fo hV47 (by decide) : V47 65 = V44 65), (up2_fo hV44 (by decide) : V44 65 = V18 65), (funext (fun q => ajV18 65 q rfl) : V18 65 = V15 65), (up2_fo hV15 (by decide) : V15 65 = V13 65)] : V47 65 = V13 65), up2_fn hV13, (by rw [(up2_fo hV11 (by decide) : V11 65 = V9 65), (up2_fo hV9 (by decide) : V9 65 = V7 65), (up2_fo hV7 (by decide) : V7 65 = V 65)] : V11 65 = V 65)])
            exact W.vret hx hb hr (fun t ht hW => ⟨⟨(V47, L), rfl, ⟨hMV47, agV47, rfl, (Imp.mk (fun hp => have hp : (V 41 b).toInt < 12 := hp; (show (V47 41 b).toInt = (V 41 b).toInt + 1 from by omega))), rp50, rp51⟩, by rw [ht]; exact hP, va_K.moved hW.alike hK, hD⟩, hS.F ht⟩) hS.2.2 dX0_addWrap_128
          · skip
            have f52 : p2.toInt < ((V11 64 (12 * b + (Int32.toNatClampNeg (V18 47 (12 * b + (Int32.toNatClampNeg z34))))))).toInt := b_nle rfl rfl c40
            refine lv_aload_n hx hb dX0_addWrap_85 rfl (lv_at hl 2 rfl) ?_
            refine va_get (D := D) (ci := 0) (v := .ref (ad (68 + b))) (fs := (xfBook ad V18 b)) (C := RX0) (T := TX0) (N := 13) hx hb hg inX0 hown hK hP (38 + b) (xgBook hb2) rfl 9 (by decide) (hg _ w621) (fun _ h9 => h9) rfl dX0_addWrap_86 ?_
            refine lv_iload hx hb dX0_addWrap_89 (lv_at hl 0 rfl) ?_
            refine lv_aload_n hx hb dX0_addWrap_91 rfl (lv_at hl 2 rfl) ?_
            refine va_get (D := D) (ci := 0) (v := .ref (ad (68 + b))) (fs := (xfBook ad V18 b)) (C := RX0) (T := TX0) (N := 13) hx hb hg inX0 hown hK hP (38 + b) (xgBook hb2) rfl 9 (by decide) (hg _ w621) (fun _ h9 => h9) rfl dX0_addWrap_92 ?_
            refine lv_iload hx hb dX0_addWrap_95 (lv_at hl 0 rfl) ?_
            refine lv_iconst (v := 1) hx hb dX0_addWrap_97 (by decide) ?_
            refine lv_isub hx hb dX0_addWrap_98 ?_
            refine lv_topi (fun z53 ez53 => ?_)
            have hz53 : z53.toInt = y17.toInt - 1 := i_sub ez53 rfl (by decide) (by omega)
            refine va_iald (D := D) (i := z53) hx hb hK hP (68 + b) (61 + b) (xgwrapOrder il35) (xtwrapOrder il35) (i_in (a := z53.toInt) rfl (by omega)) dX0_addWrap_99 ?_
            have kc54 := i_clamp (x := z53) rfl (by omega)
            refine g_top (v := V18 47 (12 * b + (Int32.toNatClampNeg z53))) (if_pos (by omega)) ?_
            have r55 : 0 ≤ ((V18 47 (12 * b + (Int32.toNatClampNeg z53)))).toInt ∧ ((V18 47 (12 * b + (Int32.toNatClampNeg z53)))).toInt ≤ 11 := hMV18 47 (12 * b + (Int32.toNatClampNeg z53))
            refine va_iast (D := D) (i := y17) (x := (V18 47 (12 * b + (Int32.toNatClampNeg z53)))) hx hb hK hP hD hS (68 + b) (61 + b) (xgwrapOrder il35) (xtwrapOrder il35) (i_in (a := y17.toInt) rfl (by omega)) dX0_addWrap_100 (fun H locs hP hD hS => ?_)
            have kc56 := i_clamp (x := y17) rfl (by omega)
            have kl57 : (Int32.toNatClampNeg y17) < 12 := by omega
            obtain ⟨V58, hV58⟩ : ∃ z, z = up2 V18 47 (12 * b + (Int32.toNatClampNeg y17)) (V18 47 (12 * b + (Int32.toNatClampNeg z53))) := ⟨_, rfl⟩
            have ew59 : (xw ad kk V18 L Z).set (68 + b) ((ad (68 + b)), .inl ((kk (68 + b)), 12, .inl (upd (fun q => if q < 12 then V18 47 (12 * b + q) else 0) (Int32.toNatClampNeg y17) (V18 47 (12 * b + (Int32.toNatClampNeg z53)))))) = xw ad kk V58 L Z := by rw [hV58]; exact xpwrapOrder il35 kl57
            have hP : va_P D vwCl (xw ad kk V58 L Z) H := by rw [← ew59]; exact hP
            have hD : va_D A (xw ad kk V58 L Z) := by rw [← ew59]; exact hD
            have hMV58 : rgd bX V58 := hMV18.put hV58 (show 0 ≤ ((V18 47 (12 * b + (Int32.toNatClampNeg z53)))).toInt ∧ ((V18 47 (12 * b + (Int32.toNatClampNeg z53)))).toInt ≤ 11 from by omega)
            have agV58 : agr [] [41, 47, 62, 63, 64, 65, 66] V V58 := agV18.up hV58 rfl
            obtain ⟨z60, ez60⟩ : ∃ y : Int32, y = y17 + (-1) := ⟨_, rfl⟩
            have hz60 : z60.toInt = y17.toInt + (-1) := i_add ez60 rfl (by decide) (by omega)
            refine lv_iinc (v := z60) (lv' := [(7, .int z60), (6, .ref (ad (312 + (12 * b + (Int32.toNatClampNeg (V 41 b)))))), (0, .ref (ad (38 + b))), (1, .int p0), (2, .int p1), (3, .int p2), (4, .int p3), (5, .int p4)]) hx hb dX0_addWrap_101 hl (k := 0) rfl (by rw [ez60]; rfl) (by decide) rfl (fun ls hl => ?_)
            refine lv_goto (tgt := 59) hx hb dX0_addWrap_104 (by decide) ?_
            exact ihlp19 z60 V58 H locs ls (by omega) (by omega) (agr.up (agr.tr agr.rf ajV18 (by decide) (by decide)) hV58 rfl) hMV58 hP hD hS (lv_sub hl [0, 1, 2, 3, 4, 5, 6, 7] rfl)
    exact lp19 ((((V 41 b)).toInt + 1 : Int).toNat) (V 41 b) V15 H locs ls (by omega) (by omega) agr.rf hMV15 hP hD hS (lv_sub hl [0, 1, 2, 3, 4, 5, 6, 7] rfl)
  · skip
    have f61 : 12 ≤ ((V 41 b)).toInt := b_nlt rfl (by decide) c2
    exact W.vret hx hb hr (fun t ht hW => ⟨⟨(V, L), rfl, ⟨hMV, agV, rfl, (Imp.mk (fun hp => have hp : (V 41 b).toInt < 12 := hp; (show (V 41 b).toInt = (V 41 b).toInt + 1 from by omega))), (Imp.mk (fun hp => by exfalso; omega)), (Imp.mk (fun hp => by exfalso; omega))⟩, by rw [ht]; exact hP, va_K.moved hW.alike hK, hD⟩, hS.F ht⟩) hS.2.2 dX0_addWrap_9
abbrev r_x_readExtras3 : Room := { frames := 3, cells := 0, slots := 0, locals := 64 }
abbrev q_x_readExtras3 (D : va_G) (ks : KS) (ad : Nat → Nat) (kk : Nat → ClassId) (V : Vf) (L : Lf) (Z : XZ) (b : Nat) (gT : Tk) (gs : St) (gi : Nat) (A : Nat → Prop) : Array Value → State → Outcome → State → Prop := va_Qi (fun (r : Int32) (u : Vf × Lf) => rgd bX u.1 ∧ agr [(1, 3), (1, 6), (1, 8), (6, 8), (6, 9), (6, 10)] [43, 44, 52, 53, 54, 55] V u.1 ∧ agL [6, 44] L u.2 ∧ (0 ≤ r.toInt ∧ r.toInt ≤ 1) ∧ (Rd gT gs (fun k => Icalled :: Irank :: IwhenI :: k) (fun k => k) r.toInt (u.1 1 3).toInt (fun s9 => RelC u.1 u.2 b gT s9 ∧ keepS gs 0 s9)) ∧ (ROWL b L u.2)) (fun u t => gq D A (xw ad kk u.1 u.2 Z) (xty kk Z) t) A
set_option maxHeartbeats 4000000 in
set_option maxRecDepth 100000 in
theorem x_readExtras3 (l : Launch) (D : va_G) (ks : KS) (sz : Nat) (ad : Nat → Nat) (kk : Nat → ClassId) (V : Vf) (L : Lf) (Z : XZ) (b : Nat) (gT : Tk) (gs : St) (gi : Nat) (hMV : rgd bX V) (hb2 : b < 2) (rbk : (V 1 1).toInt = (b : Int)) (rel : RelC V L b gT gs) (hgi : gi < 48) (hgl : 24 * b ≤ gi) (hgh : gi < 24 * b + 24)  : Met l yX1_readExtras (Cond.code yX1_readExtras cX1_readExtras 2 (some .boolean) :: GW) r_x_readExtras3 (va_Pc [.ref (ad 1), .ref (ad (72 + gi))] (gp D ks (xw ad kk V L Z) (xty kk Z) sz)) (q_x_readExtras3 D ks ad kk V L Z  b gT gs gi (va_A (xw ad kk V L Z) sz)) 0 0 (va_A (xw ad kk V L Z) sz) := by
  refine g_met (q_x_readExtras3 D ks ad kk V L Z  b gT gs gi) (by decide) (Nat.le_of_ble_eq_true rfl) ?_
  intro p e s m below meth c A ls H locs hx hb hr hml hown hg hlocks hin hnw hgk hP hK hD hS hA hl
  have hown : s.vm.findClass RX1 = some m.cls := hown
  have hl : lv_has ls 2 [(0, .ref (ad 1)), (1, .ref (ad (72 + gi)))] := hl
  have hP : va_P D vwCl (xw ad kk V L Z) H := hP
  have hD : va_D A (xw ad kk V L Z) := hD
  have hK : va_K D vwCl (xty kk Z) s := hK
  have agV : agr [(1, 3), (1, 6), (1, 8), (6, 8), (6, 9), (6, 10)] [43, 44, 52, 53, 54, 55] V V := agr.rf
  have alL : agL [6, 44] L L := agL.rf
  have r1 : (-1) ≤ ((V 1 1)).toInt ∧ ((V 1 1)).toInt ≤ 1 := hMV 1 1
  refine lv_aload_n hx hb dX1_readExtras_0 rfl (lv_at hl 0 rfl) ?_
  refine va_get (D := D) (ci := 1) (v := .ref (ad 6)) (fs := (xfReader ad V L Z)) (C := RX1) (T := TX1) (N := 9) hx hb hg inX1 hown hK hP 1 xgReader rfl 0 (by decide) (hg _ w304) (fun _ h9 => h9) rfl dX1_readExtras_1 ?_
  refine va_getN (D := D) (ci := 9) (v := .int (V 6 9)) (fs := (xfTape ad V L Z)) (C := RX9) (T := TX9) (N := 12) hx hb hg inX9 hown hK hP 6 xgTape rfl 9 (by decide) (hnw.use 262 n262 rfl) (fun _ h9 => h9) rfl dX1_readExtras_4 ?_
  refine lv_sipush (v := 133) hx hb dX1_readExtras_7 (by decide) ?_
  refine lv_icmp_ne (tgt := 30) hx hb dX1_readExtras_10 (by decide) (fun c2 => ?_) (fun c2 => ?_)
  · skip
    have f3 : ((V 6 9)).toInt ≠ 133 := b_neq rfl (by decide) c2
    refine lv_aload_n hx hb dX1_readExtras_30 rfl (lv_at hl 0 rfl) ?_
    refine va_get (D := D) (ci := 1) (v := .ref (ad 6)) (fs := (xfReader ad V L Z)) (C := RX1) (T := TX1) (N := 9) hx hb hg inX1 hown hK hP 1 xgReader rfl 0 (by decide) (hg _ w304) (fun _ h9 => h9) rfl dX1_readExtras_31 ?_
    refine va_getN (D := D) (ci := 9) (v := .int (V 6 9)) (fs := (xfTape ad V L Z)) (C := RX9) (T := TX9) (N := 12) hx hb hg inX9 hown hK hP 6 xgTape rfl 9 (by decide) (hnw.use 262 n262 rfl) (fun _ h9 => h9) rfl dX1_readExtras_34 ?_
    refine lv_sipush (v := 134) hx hb dX1_readExtras_37 (by decide) ?_
    refine lv_icmp_ne (tgt := 70) hx hb dX1_readExtras_40 (by decide) (fun c4 => ?_) (fun c4 => ?_)
    · skip
      have f5 : ((V 6 9)).toInt ≠ 134 := b_neq rfl (by decide) c4
      refine lv_aload_n hx hb dX1_readExtras_70 rfl (lv_at hl 0 rfl) ?_
      refine va_get (D := D) (ci := 1) (v := .ref (ad 6)) (fs := (xfReader ad V L Z)) (C := RX1) (T := TX1) (N := 9) hx hb hg inX1 hown hK hP 1 xgReader rfl 0 (by decide) (hg _ w304) (fun _ h9 => h9) rfl dX1_readExtras_71 ?_
      refine va_getN (D := D) (ci := 9) (v := .int (V 6 9)) (fs := (xfTape ad V L Z)) (C := RX9) (T := TX9) (N := 12) hx hb hg inX9 hown hK hP 6 xgTape rfl 9 (by decide) (hnw.use 262 n262 rfl) (fun _ h9 => h9) rfl dX1_readExtras_74 ?_
      refine lv_sipush (v := 135) hx hb dX1_readExtras_77 (by decide) ?_
      refine lv_icmp_ne (tgt := 127) hx hb dX1_readExtras_80 (by decide) (fun c6 => ?_) (fun c6 => ?_)
      · skip
        have f7 : ((V 6 9)).toInt ≠ 135 := b_neq rfl (by decide) c6
        refine lv_iconst (v := 1) hx hb dX1_readExtras_127 (by decide) ?_
        have hr8 : ∀ k, Rc gT (Crun gs (Icalled :: Irank :: IwhenI :: k)) (Crun gs (Icalled :: Irank :: IwhenI :: k)) := fun k => Rc.rf
        have kd9 : gT.1 (gs.1 0) = ((V 6 9)).toInt := RelC.kd rel
        have hr10 : ∀ k, Rc gT (Crun gs (Icalled :: Irank :: IwhenI :: k)) (Crun gs (Irank :: IwhenI :: k)) := fun k => Rc.go1 (hr8 k) (called_n  (fun h9 => f3 (kd9.symm.trans h9)))
        have hr11 : ∀ k, Rc gT (Crun gs (Icalled :: Irank :: IwhenI :: k)) (Crun gs (IwhenI :: k)) := fun k => Rc.go1 (hr10 k) (rank_n  (fun h9 => f5 (kd9.symm.trans h9)))
        have hr12 : ∀ k, Rc gT (Crun gs (Icalled :: Irank :: IwhenI :: k)) (Crun gs (k)) := fun k => Rc.go1 (hr11 k) (when_n  (fun h9 => f7 (kd9.symm.trans h9)))
        have rw13 : ROWL b L L := (fun k hk => rfl)
        exact W.zret (v := 1) hx hb hr rfl (fun t ht hW => ⟨⟨1, (V, L), rfl, ⟨hMV, agV, alL, (by decide), (Or.inl ⟨rfl, gs, hr12, rel, keepS.le (keepS.rf : keepS gs 0 gs) (by decide)⟩), rw13⟩, by rw [ht]; exact hP, va_K.moved hW.alike hK, hD⟩, hS.F ht⟩) hS.2.2 dX1_readExtras_128
      · skip
        have f14 : ((V 6 9)).toInt = 135 := b_eq rfl (by decide) c6
        refine lv_aload_n hx hb dX1_readExtras_83 rfl (lv_at hl 0 rfl) ?_
        refine va_get (D := D) (ci := 1) (v := .ref (ad 6)) (fs := (xfReader ad V L Z)) (C := RX1) (T := TX1) (N := 9) hx hb hg inX1 hown hK hP 1 xgReader rfl 0 (by decide) (hg _ w304) (fun _ h9 => h9) rfl dX1_readExtras_84 ?_
        have hr15 : ∀ k, Rc gT (Crun gs (Icalled :: Irank :: IwhenI :: k)) (Crun gs (Icalled :: Irank :: IwhenI :: k)) := fun k => Rc.rf
        have kd16 : gT.1 (gs.1 0) = ((V 6 9)).toInt := RelC.kd rel
        have hr17 : ∀ k, Rc gT (Crun gs (Icalled :: Irank :: IwhenI :: k)) (Crun gs (Irank :: IwhenI :: k)) := fun k => Rc.go1 (hr15 k) (called_n  (fun h9 => absurd (h9.symm.trans (kd16.trans f14)) (by decide)))
        have hr18 : ∀ k, Rc gT (Crun gs (Icalled :: Irank :: IwhenI :: k)) (Crun gs (IwhenI :: k)) := fun k => Rc.go1 (hr17 k) (rank_n  (fun h9 => absurd (h9.symm.trans (kd16.trans f14)) (by decide)))
        have hr19 : ∀ k, Rc gT (Crun gs (Icalled :: Irank :: IwhenI :: k)) (Crun (nx gs 1) (Isetting :: Inum 0 999999999 :: k)) := fun k => Rc.go1 (hr18 k) (when_y  (kd16.trans f14))
        have l820 := RelC.l8 rel
        have r21 : 0 ≤ ((V 6 8)).toInt ∧ ((V 6 8)).toInt ≤ 4000 := hMV 6 8
        have r22 : 0 ≤ ((V 6 7)).toInt ∧ ((V 6 7)).toInt ≤ 4000 := hMV 6 7
        have lk23 := RelC.lk rel (show (V 6 9).toInt ≠ 0 from by omega)
        refine gA_void (gA_runV (As := []) (rest := []) (ci := 9) (q0 := 6) hx hb hml hown hg hP hD hK hS hA hnw hgk (x_next2 l D ks H.size ad kk V L Z  hMV (show (V 6 8).toInt ≤ (V 6 7).toInt from by omega)) w871 w852 w853 w157 w854 rfl xgTape hdV_yX9_next ⟨Nat.le_of_ble_eq_true rfl, Nat.le_of_ble_eq_true rfl⟩ rfl hl.1 rfl (Nat.le_of_ble_eq_true rfl) dX1_readExtras_87 ⟨Nat.le_of_ble_eq_true rfl, Nat.le_of_ble_eq_true rfl⟩) hP hD hK hS hA (fun u25 H locs w26 hP hD hK hS => ?_)
        obtain ⟨V29, L30⟩ := u25
        obtain ⟨hMV29, ajV29, axL30, t27, t28⟩ := w26
        have alL30 : agL [6, 44] L L30 := agL.tr alL axL30 (by decide)
        have hP : va_P D vwCl (xw ad kk V29 L30 Z) H := hP
        have hD : va_D A (xw ad kk V29 L30 Z) := hD
        have hMV29 : rgd bX V29 := hMV29
        have ajV29 : agr [(6, 8), (6, 9), (6, 10)] [] V V29 := ajV29
        have agV29 : agr [(1, 3), (1, 6), (1, 8), (6, 8), (6, 9), (6, 10)] [43, 44, 52, 53, 54, 55] V V29 := agV.tr ajV29 (by decide) (by decide)
        have t27 : (V29 6 8).toInt ≤ (V29 6 7).toInt := t27
        have t28 : CUR V29 L30 (Int32.toNatClampNeg (V 6 8)) := t28
        have r31 : 0 ≤ ((V29 6 8)).toInt ∧ ((V29 6 8)).toInt ≤ 4000 := hMV29 6 8
        have pq32 : (V29 6 7).toInt = ((V 6 7)).toInt := congrArg Int32.toInt (ajV29 6 7 rfl)
        have rl33 : RelC V29 L30 b gT (nx gs 1) := RelC.nx1 rel ajV29 (by decide) axL30 (by decide) (by rw [← lk23]; exact t28) (ajV29 1 3 rfl)
        refine lv_aload_n hx hb dX1_readExtras_90 rfl (lv_at hl 0 rfl) ?_
        have pq34 : (V29 1 1).toInt = ((V 1 1)).toInt := congrArg Int32.toInt (ajV29 1 1 rfl)
        refine gA_int (gA_runV (As := []) (rest := []) (ci := 1) (q0 := 1) hx hb hml hown hg hP hD hK hS hA hnw hgk (x_takeSetting3 l D ks H.size ad kk V29 L30 Z (b) (gT) ((nx gs 1)) hMV29 (show b < 2 from by omega) (show (V29 1 1).toInt = (b : Int) from by omega) rl33) w931 w933 w17 w162 w934 rfl xgReader hdV_yX1_takeSetting ⟨Nat.le_of_ble_eq_true rfl, Nat.le_of_ble_eq_true rfl⟩ rfl hl.1 rfl (Nat.le_of_ble_eq_true rfl) dX1_readExtras_91 ⟨Nat.le_of_ble_eq_true rfl, Nat.le_of_ble_eq_true rfl⟩) hP hD hK hS hA (fun z35 u36 H locs w37 hP hD hK hS => ?_)
        obtain ⟨V39, L40⟩ := u36
        obtain ⟨hMV39, ajV39, axL40, rgz35, t38⟩ := w37
        have alL40 : agL [6, 44] L L40 := agL.tr alL30 axL40 (by decide)
        have hP : va_P D vwCl (xw ad kk V39 L40 Z) H := hP
        have hD : va_D A (xw ad kk V39 L40 Z) := hD
        have hMV39 : rgd bX V39 := hMV39
        have ajV39 : agr [(1, 3), (1, 6), (6, 8), (6, 9), (6, 10)] [] V29 V39 := ajV39
        have agV39 : agr [(1, 3), (1, 6), (1, 8), (6, 8), (6, 9), (6, 10)] [43, 44, 52, 53, 54, 55] V V39 := agV29.tr ajV39 (by decide) (by decide)
        have rgz35 : 0 ≤ z35.toInt ∧ z35.toInt ≤ 1 := rgz35
        have t38 : KcN (look gT (nx gs 1) ((nx gs 1).2.1 1)) z35.toInt (V39 1 3).toInt (fun f9 => RelC V39 L40 b gT (nx (nx gs 1) 1) ∧ (V39 1 6).toInt = ((f9 : Nat) : Int) ∧ f9 < 12) := t38
        rcases t38 with ⟨q41, fx42, h43, rl44, hf45, hb46⟩ | ⟨q41, h43⟩
        · skip
          have hr47 : ∀ k, Rc gT (Crun gs (Icalled :: Irank :: IwhenI :: k)) (Crun (nx (nx gs 1) 1) (Inum 0 999999999 :: k)) := fun k => Rc.go1 (hr19 k) (se_y h43)
          refine lv_if_ne (tgt := 99) hx hb dX1_readExtras_94 (by decide) (fun c48 => ?_) (fun c48 => ?_)
          · skip
            have f49 : z35.toInt ≠ 0 := b_neq rfl (by decide) c48
            refine lv_aload_n hx hb dX1_readExtras_99 rfl (lv_at hl 1 rfl) ?_
            refine lv_aload_n hx hb dX1_readExtras_100 rfl (lv_at hl 0 rfl) ?_
            refine va_get (D := D) (ci := 1) (v := .int (V39 1 6)) (fs := (xfReader ad V39 L40 Z)) (C := RX1) (T := TX1) (N := 9) hx hb hg inX1 hown hK hP 1 xgReader rfl 6 (by decide) (hg _ w310) (fun _ h9 => h9) rfl dX1_readExtras_101 ?_
            have r50 : (-1) ≤ ((V39 1 6)).toInt ∧ ((V39 1 6)).toInt ≤ 23 := hMV39 1 6
            refine va_putN (D := D) (ci := 3) (v := .int (V39 1 6)) (ty := tyX3 9) (fs := (xfComp ad V39 gi)) (C := RX3) (T := TX3) (N := 13) hx hb hg inX3 tyX3 tyX3_ok nmX3 hown hK hP hD hS (72 + gi) (xgComp hgi) rfl 9 (by decide) (hnw.use 533 n533 rfl) (fun _ h9 => h9) rfl (tyX3_ok 9 (by decide)) rfl rfl (Nat.le_of_ble_eq_true rfl) dX1_readExtras_104 (fun H locs hP hD hS => ?_)
            obtain ⟨V51, hV51⟩ : ∃ z, z = up2 V39 54 gi (V39 1 6) := ⟨_, rfl⟩
            have ew52 : (xw ad kk V39 L40 Z).set (72 + gi) ((ad (72 + gi)), .inr (3, (xfComp ad V39 gi).set 9 (.int (V39 1 6)))) = xw ad kk V51 L40 Z := by rw [hV51]; exact xpComp_whenSetting hgi
            have hP : va_P D vwCl (xw ad kk V51 L40 Z) H := by rw [← ew52]; exact hP
            have hD : va_D A (xw ad kk V51 L40 Z) := by rw [← ew52]; exact hD
            have hMV51 : rgd bX V51 := hMV39.put hV51 (show (-1) ≤ ((V39 1 6)).toInt ∧ ((V39 1 6)).toInt ≤ 11 from by omega)
            have agV51 : agr [(1, 3), (1, 6), (1, 8), (6, 8), (6, 9), (6, 10)] [43, 44, 52, 53, 54, 55] V V51 := agV39.up hV51 rfl
            refine lv_aload_n hx hb dX1_readExtras_107 rfl (lv_at hl 0 rfl) ?_
            refine lv_iconst (v := 0) hx hb dX1_readExtras_108 (by decide) ?_
            refine lv_ldc (v := 999999999) hx hb hown (hg _ w905) dX1_readExtras_109 ?_
            have rl53 : RelC V51 L40 b gT (nx (nx gs 1) 1) := RelC.ag rl44 (show agr [] [54] V39 V51 from (agr.up agr.rf hV51 rfl)) (by decide) (show agL [] L40 L40 from agL.rf) (by decide)
            have r54 : Int32.toInt 0 = 0 := by decide
            have r55 : Int32.toInt 999999999 = 999999999 := by decide
            refine gA_int (gA_runV (As := [.int 0, .int 999999999]) (rest := []) (ci := 1) (q0 := 1) hx hb hml hown hg hP hD hK hS hA hnw hgk (x_takeNumber2 l D ks H.size ad kk V51 L40 Z 0 999999999 (((nx (nx gs 1) 1).1 0)) hMV51 (rl53).1 (rl53).2.1.1 (show 0 ≤ (Int32.toInt 0) from by omega) (show (Int32.toInt 999999999) ≤ 999999999 from by omega)) w906 w908 w12 w162 w909 rfl xgReader hdV_yX1_takeNumber ⟨Nat.le_of_ble_eq_true rfl, Nat.le_of_ble_eq_true rfl⟩ rfl hl.1 rfl (Nat.le_of_ble_eq_true rfl) dX1_readExtras_111 ⟨Nat.le_of_ble_eq_true rfl, Nat.le_of_ble_eq_true rfl⟩) hP hD hK hS hA (fun z56 u57 H locs w58 hP hD hK hS => ?_)
            obtain ⟨V62, L63⟩ := u57
            obtain ⟨hMV62, ajV62, axL63, rgz56, t59, t60, t61⟩ := w58
            have alL63 : agL [6, 44] L L63 := agL.tr alL40 axL63 (by decide)
            have hP : va_P D vwCl (xw ad kk V62 L63 Z) H := hP
            have hD : va_D A (xw ad kk V62 L63 Z) := hD
            have hMV62 : rgd bX V62 := hMV62
            have ajV62 : agr [(1, 3), (1, 8), (6, 8), (6, 9), (6, 10)] [] V51 V62 := ajV62
            have agV62 : agr [(1, 3), (1, 6), (1, 8), (6, 8), (6, 9), (6, 10)] [43, 44, 52, 53, 54, 55] V V62 := agV51.tr ajV62 (by decide) (by decide)
            have rgz56 : 0 ≤ z56.toInt ∧ z56.toInt ≤ 1 := rgz56
            have t59 : Imp (z56.toInt = 1) ((Int32.toInt 0) ≤ (V62 1 8).toInt ∧ (V62 1 8).toInt ≤ (Int32.toInt 999999999)) := t59
            have t60 : Imp (z56.toInt = 0) (1 ≤ (V62 1 3).toInt) := t60
            have t61 : (z56.toInt = 1 ∧ (V51 12 ((nx (nx gs 1) 1).1 0)).toInt = 2 ∧ (Int32.toInt 0) ≤ (L40 14 ((nx (nx gs 1) 1).1 0)).toInt ∧ (L40 14 ((nx (nx gs 1) 1).1 0)).toInt ≤ (Int32.toInt 999999999) ∧ CUR V62 L63 (((nx (nx gs 1) 1).1 0) + 1) ∧ (V62 1 8).toInt = (L40 14 ((nx (nx gs 1) 1).1 0)).toInt ∧ V62 1 3 = V51 1 3) ∨ (z56.toInt = 0 ∧ (((V51 12 ((nx (nx gs 1) 1).1 0)).toInt ≠ 2 ∧ (V62 1 3).toInt = 1 + 16 * (V51 13 ((nx (nx gs 1) 1).1 0)).toInt) ∨ ((V51 12 ((nx (nx gs 1) 1).1 0)).toInt = 2 ∧ ((L40 14 ((nx (nx gs 1) 1).1 0)).toInt < (Int32.toInt 0) ∨ (Int32.toInt 999999999) < (L40 14 ((nx (nx gs 1) 1).1 0)).toInt) ∧ (V62 1 3).toInt = 4 + 16 * (V51 13 ((nx (nx gs 1) 1).1 0)).toInt))) := t61
            have r64 : 0 ≤ ((V62 1 8)).toInt ∧ ((V62 1 8)).toInt ≤ 999999999 := hMV62 1 8
            have nv72 := congrArg Int64.toInt rl53.tok.2.1
            rcases t61 with ⟨q65, h66, h67, h68, k69, k70, k71⟩ | ⟨q65, ⟨h66, k69⟩ | ⟨h66, h67, k69⟩⟩
            · skip
              have rl73 : RelC V62 L63 b gT (nx (nx (nx gs 1) 1) 1) := RelC.nx1 rl53 ajV62 (by decide) axL63 (by decide) k69 k71
              have hr74 : ∀ k, Rc gT (Crun gs (Icalled :: Irank :: IwhenI :: k)) (Crun (nx (nx (nx gs 1) 1) 1) (k)) := fun k => Rc.go1 (hr47 k) (nm_y (rl53.tok.1.trans h66) (by omega) (by omega))
              refine lv_if_ne (tgt := 119) hx hb dX1_readExtras_114 (by decide) (fun c75 => ?_) (fun c75 => ?_)
              · skip
                have f76 : z56.toInt ≠ 0 := b_neq rfl (by decide) c75
                refine lv_aload_n hx hb dX1_readExtras_119 rfl (lv_at hl 1 rfl) ?_
                refine lv_aload_n hx hb dX1_readExtras_120 rfl (lv_at hl 0 rfl) ?_
                refine va_get (D := D) (ci := 1) (v := .int (V62 1 8)) (fs := (xfReader ad V62 L63 Z)) (C := RX1) (T := TX1) (N := 9) hx hb hg inX1 hown hK hP 1 xgReader rfl 8 (by decide) (hg _ w312) (fun _ h9 => h9) rfl dX1_readExtras_121 ?_
                refine va_putN (D := D) (ci := 3) (v := .int (V62 1 8)) (ty := tyX3 10) (fs := (xfComp ad V62 gi)) (C := RX3) (T := TX3) (N := 13) hx hb hg inX3 tyX3 tyX3_ok nmX3 hown hK hP hD hS (72 + gi) (xgComp hgi) rfl 10 (by decide) (hnw.use 536 n536 rfl) (fun _ h9 => h9) rfl (tyX3_ok 10 (by decide)) rfl rfl (Nat.le_of_ble_eq_true rfl) dX1_readExtras_124 (fun H locs hP hD hS => ?_)
                obtain ⟨V77, hV77⟩ : ∃ z, z = up2 V62 55 gi (V62 1 8) := ⟨_, rfl⟩
                have ew78 : (xw ad kk V62 L63 Z).set (72 + gi) ((ad (72 + gi)), .inr (3, (xfComp ad V62 gi).set 10 (.int (V62 1 8)))) = xw ad kk V77 L63 Z := by rw [hV77]; exact xpComp_whenValue hgi
                have hP : va_P D vwCl (xw ad kk V77 L63 Z) H := by rw [← ew78]; exact hP
                have hD : va_D A (xw ad kk V77 L63 Z) := by rw [← ew78]; exact hD
                have hMV77 : rgd bX V77 := hMV62.put hV77 (i_full _)
                have agV77 : agr [(1, 3), (1, 6), (1, 8), (6, 8), (6, 9), (6, 10)] [43, 44, 52, 53, 54, 55] V V77 := agV62.up hV77 rfl
                refine lv_iconst (v := 1) hx hb dX1_readExtras_127 (by decide) ?_
                have rl79 : RelC V77 L63 b gT (nx (nx (nx gs 1) 1) 1) := RelC.ag rl73 (show agr [] [55] V62 V77 from (agr.up agr.rf hV77 rfl)) (by decide) (show agL [] L63 L63 from agL.rf) (by decide)
                have rw80 : ROWL b L L63 := (fun k hk => ((axL63 44 k rfl).trans ((axL40 44 k rfl).trans ((axL30 44 k rfl).trans rfl))))
                exact W.zret (v := 1) hx hb hr rfl (fun t ht hW => ⟨⟨1, (V77, L63), rfl, ⟨hMV77, agV77, alL63, (by decide), (Or.inl ⟨rfl, (nx (nx (nx gs 1) 1) 1), hr74, rl79, keepS.le (keepS.tr (keepS.tr (keepS.tr (keepS.rf : keepS gs 0 gs) (keepS.n1 1)) (keepS.n1 1)) (keepS.n1 1)) (by decide)⟩), rw80⟩, by rw [ht]; exact hP, va_K.moved hW.alike hK, hD⟩, hS.F ht⟩) hS.2.2 dX1_readExtras_128
              · skip
                have f81 : z56.toInt = 0 := b_eq rfl (by decide) c75
                exfalso; first | omega | ((try (have i_t60 := Imp.go t60 (by omega))); (try (have i_t59 := Imp.go t59 (by omega))); (try (have i_t59 := Imp.go t59 (by omega))); (try (have i_t60 := Imp.go t60 (by omega))); omega)
            · skip
              have hb82 : ∀ k, Rc gT (Crun gs (Icalled :: Irank :: IwhenI :: k)) (Cbad (V62 1 3).toInt) := fun k => Rc.go1 (hr47 k) ((nm_1 (fun h9 => h66 (rl53.tok.1.symm.trans h9))).trans (fl_eq rl53.tok.2.2 k69))
              refine lv_if_ne (tgt := 119) hx hb dX1_readExtras_114 (by decide) (fun c83 => ?_) (fun c83 => ?_)
              · skip
                have f84 : z56.toInt ≠ 0 := b_neq rfl (by decide) c83
                exfalso; first | omega | ((try (have i_t60 := Imp.go t60 (by omega))); (try (have i_t59 := Imp.go t59 (by omega))); (try (have i_t59 := Imp.go t59 (by omega))); (try (have i_t60 := Imp.go t60 (by omega))); omega)
              · skip
                have f85 : z56.toInt = 0 := b_eq rfl (by decide) c83
                refine lv_iconst (v := 0) hx hb dX1_readExtras_117 (by decide) ?_
                have rw86 : ROWL b L L63 := (fun k hk => ((axL63 44 k rfl).trans ((axL40 44 k rfl).trans ((axL30 44 k rfl).trans rfl))))
                exact W.zret (v := 0) hx hb hr rfl (fun t ht hW => ⟨⟨0, (V62, L63), rfl, ⟨hMV62, agV62, alL63, (by decide), (Or.inr ⟨rfl, hb82⟩), rw86⟩, by rw [ht]; exact hP, va_K.moved hW.alike hK, hD⟩, hS.F ht⟩) hS.2.2 dX1_readExtras_118
            · skip
              have hb87 : ∀ k, Rc gT (Crun gs (Icalled :: Irank :: IwhenI :: k)) (Cbad (V62 1 3).toInt) := fun k => Rc.go1 (hr47 k) ((nm_4 (rl53.tok.1.trans h66) (by omega)).trans (fl_eq rl53.tok.2.2 k69))
              refine lv_if_ne (tgt := 119) hx hb dX1_readExtras_114 (by decide) (fun c88 => ?_) (fun c88 => ?_)
              · skip
                have f89 : z56.toInt ≠ 0 := b_neq rfl (by decide) c88
                exfalso; first | omega | ((try (have i_t60 := Imp.go t60 (by omega))); (try (have i_t59 := Imp.go t59 (by omega))); (try (have i_t59 := Imp.go t59 (by omega))); (try (have i_t60 := Imp.go t60 (by omega))); omega)
              · skip
                have f90 : z56.toInt = 0 := b_eq rfl (by decide) c88
                refine lv_iconst (v := 0) hx hb dX1_readExtras_117 (by decide) ?_
                have rw91 : ROWL b L L63 := (fun k hk => ((axL63 44 k rfl).trans ((axL40 44 k rfl).trans ((axL30 44 k rfl).trans rfl))))
                exact W.zret (v := 0) hx hb hr rfl (fun t ht hW => ⟨⟨0, (V62, L63), rfl, ⟨hMV62, agV62, alL63, (by decide), (Or.inr ⟨rfl, hb87⟩), rw91⟩, by rw [ht]; exact hP, va_K.moved hW.alike hK, hD⟩, hS.F ht⟩) hS.2.2 dX1_readExtras_118
          · skip
            have f92 : z35.toInt = 0 := b_eq rfl (by decide) c48
            exfalso; omega
        · skip
          have hb93 : ∀ k, Rc gT (Crun gs (Icalled :: Irank :: IwhenI :: k)) (Cbad (V39 1 3).toInt) := fun k => Rc.go1 (hr19 k) (se_b h43)
          refine lv_if_ne (tgt := 99) hx hb dX1_readExtras_94 (by decide) (fun c94 => ?_) (fun c94 => ?_)
          · skip
            have f95 : z35.toInt ≠ 0 := b_neq rfl (by decide) c94
            exfalso; omega
          · skip
            have f96 : z35.toInt = 0 := b_eq rfl (by decide) c94
            refine lv_iconst (v := 0) hx hb dX1_readExtras_97 (by decide) ?_
            have rw97 : ROWL b L L40 := (fun k hk => ((axL40 44 k rfl).trans ((axL30 44 k rfl).trans rfl)))
            exact W.zret (v := 0) hx hb hr rfl (fun t ht hW => ⟨⟨0, (V39, L40), rfl, ⟨hMV39, agV39, alL40, (by decide), (Or.inr ⟨rfl, hb93⟩), rw97⟩, by rw [ht]; exact hP, va_K.moved hW.alike hK, hD⟩, hS.F ht⟩) hS.2.2 dX1_readExtras_98
    · skip
      have f98 : ((V 6 9)).toInt = 134 := b_eq rfl (by decide) c4
      refine lv_aload_n hx hb dX1_readExtras_43 rfl (lv_at hl 0 rfl) ?_
      refine va_get (D := D) (ci := 1) (v := .ref (ad 6)) (fs := (xfReader ad V L Z)) (C := RX1) (T := TX1) (N := 9) hx hb hg inX1 hown hK hP 1 xgReader rfl 0 (by decide) (hg _ w304) (fun _ h9 => h9) rfl dX1_readExtras_44 ?_
      have hr99 : ∀ k, Rc gT (Crun gs (Icalled :: Irank :: IwhenI :: k)) (Crun gs (Icalled :: Irank :: IwhenI :: k)) := fun k => Rc.rf
      have kd100 : gT.1 (gs.1 0) = ((V 6 9)).toInt := RelC.kd rel
      have hr101 : ∀ k, Rc gT (Crun gs (Icalled :: Irank :: IwhenI :: k)) (Crun gs (Irank :: IwhenI :: k)) := fun k => Rc.go1 (hr99 k) (called_n  (fun h9 => absurd (h9.symm.trans (kd100.trans f98)) (by decide)))
      have hr102 : ∀ k, Rc gT (Crun gs (Icalled :: Irank :: IwhenI :: k)) (Crun (nx gs 1) (Inum 0 9 :: IwhenI :: k)) := fun k => Rc.go1 (hr101 k) (rank_y  (kd100.trans f98))
      have l8103 := RelC.l8 rel
      have r104 : 0 ≤ ((V 6 8)).toInt ∧ ((V 6 8)).toInt ≤ 4000 := hMV 6 8
      have r105 : 0 ≤ ((V 6 7)).toInt ∧ ((V 6 7)).toInt ≤ 4000 := hMV 6 7
      have lk106 := RelC.lk rel (show (V 6 9).toInt ≠ 0 from by omega)
      refine gA_void (gA_runV (As := []) (rest := []) (ci := 9) (q0 := 6) hx hb hml hown hg hP hD hK hS hA hnw hgk (x_next2 l D ks H.size ad kk V L Z  hMV (show (V 6 8).toInt ≤ (V 6 7).toInt from by omega)) w871 w852 w853 w157 w854 rfl xgTape hdV_yX9_next ⟨Nat.le_of_ble_eq_true rfl, Nat.le_of_ble_eq_true rfl⟩ rfl hl.1 rfl (Nat.le_of_ble_eq_true rfl) dX1_readExtras_47 ⟨Nat.le_of_ble_eq_true rfl, Nat.le_of_ble_eq_true rfl⟩) hP hD hK hS hA (fun u108 H locs w109 hP hD hK hS => ?_)
      obtain ⟨V112, L113⟩ := u108
      obtain ⟨hMV112, ajV112, axL113, t110, t111⟩ := w109
      have alL113 : agL [6, 44] L L113 := agL.tr alL axL113 (by decide)
      have hP : va_P D vwCl (xw ad kk V112 L113 Z) H := hP
      have hD : va_D A (xw ad kk V112 L113 Z) := hD
      have hMV112 : rgd bX V112 := hMV112
      have ajV112 : agr [(6, 8), (6, 9), (6, 10)] [] V V112 := ajV112
      have agV112 : agr [(1, 3), (1, 6), (1, 8), (6, 8), (6, 9), (6, 10)] [43, 44, 52, 53, 54, 55] V V112 := agV.tr ajV112 (by decide) (by decide)
      have t110 : (V112 6 8).toInt ≤ (V112 6 7).toInt := t110
      have t111 : CUR V112 L113 (Int32.toNatClampNeg (V 6 8)) := t111
      have r114 : 0 ≤ ((V112 6 8)).toInt ∧ ((V112 6 8)).toInt ≤ 4000 := hMV112 6 8
      have pq115 : (V112 6 7).toInt = ((V 6 7)).toInt := congrArg Int32.toInt (ajV112 6 7 rfl)
      have rl116 : RelC V112 L113 b gT (nx gs 1) := RelC.nx1 rel ajV112 (by decide) axL113 (by decide) (by rw [← lk106]; exact t111) (ajV112 1 3 rfl)
      refine lv_aload_n hx hb dX1_readExtras_50 rfl (lv_at hl 0 rfl) ?_
      refine lv_iconst (v := 0) hx hb dX1_readExtras_51 (by decide) ?_
      refine lv_bipush (v := 9) hx hb dX1_readExtras_52 (by decide) ?_
      have r117 : Int32.toInt 0 = 0 := by decide
      have r118 : Int32.toInt 9 = 9 := by decide
      refine gA_int (gA_runV (As := [.int 0, .int 9]) (rest := []) (ci := 1) (q0 := 1) hx hb hml hown hg hP hD hK hS hA hnw hgk (x_takeNumber2 l D ks H.size ad kk V112 L113 Z 0 9 (((nx gs 1).1 0)) hMV112 (rl116).1 (rl116).2.1.1 (show 0 ≤ (Int32.toInt 0) from by omega) (show (Int32.toInt 9) ≤ 999999999 from by omega)) w906 w908 w12 w162 w909 rfl xgReader hdV_yX1_takeNumber ⟨Nat.le_of_ble_eq_true rfl, Nat.le_of_ble_eq_true rfl⟩ rfl hl.1 rfl (Nat.le_of_ble_eq_true rfl) dX1_readExtras_54 ⟨Nat.le_of_ble_eq_true rfl, Nat.le_of_ble_eq_true rfl⟩) hP hD hK hS hA (fun z119 u120 H locs w121 hP hD hK hS => ?_)
      obtain ⟨V125, L126⟩ := u120
      obtain ⟨hMV125, ajV125, axL126, rgz119, t122, t123, t124⟩ := w121
      have alL126 : agL [6, 44] L L126 := agL.tr alL113 axL126 (by decide)
      have hP : va_P D vwCl (xw ad kk V125 L126 Z) H := hP
      have hD : va_D A (xw ad kk V125 L126 Z) := hD
      have hMV125 : rgd bX V125 := hMV125
      have ajV125 : agr [(1, 3), (1, 8), (6, 8), (6, 9), (6, 10)] [] V112 V125 := ajV125
      have agV125 : agr [(1, 3), (1, 6), (1, 8), (6, 8), (6, 9), (6, 10)] [43, 44, 52, 53, 54, 55] V V125 := agV112.tr ajV125 (by decide) (by decide)
      have rgz119 : 0 ≤ z119.toInt ∧ z119.toInt ≤ 1 := rgz119
      have t122 : Imp (z119.toInt = 1) ((Int32.toInt 0) ≤ (V125 1 8).toInt ∧ (V125 1 8).toInt ≤ (Int32.toInt 9)) := t122
      have t123 : Imp (z119.toInt = 0) (1 ≤ (V125 1 3).toInt) := t123
      have t124 : (z119.toInt = 1 ∧ (V112 12 ((nx gs 1).1 0)).toInt = 2 ∧ (Int32.toInt 0) ≤ (L113 14 ((nx gs 1).1 0)).toInt ∧ (L113 14 ((nx gs 1).1 0)).toInt ≤ (Int32.toInt 9) ∧ CUR V125 L126 (((nx gs 1).1 0) + 1) ∧ (V125 1 8).toInt = (L113 14 ((nx gs 1).1 0)).toInt ∧ V125 1 3 = V112 1 3) ∨ (z119.toInt = 0 ∧ (((V112 12 ((nx gs 1).1 0)).toInt ≠ 2 ∧ (V125 1 3).toInt = 1 + 16 * (V112 13 ((nx gs 1).1 0)).toInt) ∨ ((V112 12 ((nx gs 1).1 0)).toInt = 2 ∧ ((L113 14 ((nx gs 1).1 0)).toInt < (Int32.toInt 0) ∨ (Int32.toInt 9) < (L113 14 ((nx gs 1).1 0)).toInt) ∧ (V125 1 3).toInt = 4 + 16 * (V112 13 ((nx gs 1).1 0)).toInt))) := t124
      have r127 : 0 ≤ ((V125 1 8)).toInt ∧ ((V125 1 8)).toInt ≤ 999999999 := hMV125 1 8
      have nv135 := congrArg Int64.toInt rl116.tok.2.1
      rcases t124 with ⟨q128, h129, h130, h131, k132, k133, k134⟩ | ⟨q128, ⟨h129, k132⟩ | ⟨h129, h130, k132⟩⟩
      · skip
        have rl136 : RelC V125 L126 b gT (nx (nx gs 1) 1) := RelC.nx1 rl116 ajV125 (by decide) axL126 (by decide) k132 k134
        have hr137 : ∀ k, Rc gT (Crun gs (Icalled :: Irank :: IwhenI :: k)) (Crun (nx (nx gs 1) 1) (IwhenI :: k)) := fun k => Rc.go1 (hr102 k) (nm_y (rl116.tok.1.trans h129) (by omega) (by omega))
        refine lv_if_ne (tgt := 62) hx hb dX1_readExtras_57 (by decide) (fun c138 => ?_) (fun c138 => ?_)
        · skip
          have f139 : z119.toInt ≠ 0 := b_neq rfl (by decide) c138
          refine lv_aload_n hx hb dX1_readExtras_62 rfl (lv_at hl 1 rfl) ?_
          refine lv_aload_n hx hb dX1_readExtras_63 rfl (lv_at hl 0 rfl) ?_
          refine va_get (D := D) (ci := 1) (v := .int (V125 1 8)) (fs := (xfReader ad V125 L126 Z)) (C := RX1) (T := TX1) (N := 9) hx hb hg inX1 hown hK hP 1 xgReader rfl 8 (by decide) (hg _ w312) (fun _ h9 => h9) rfl dX1_readExtras_64 ?_
          refine va_putN (D := D) (ci := 3) (v := .int (V125 1 8)) (ty := tyX3 8) (fs := (xfComp ad V125 gi)) (C := RX3) (T := TX3) (N := 13) hx hb hg inX3 tyX3 tyX3_ok nmX3 hown hK hP hD hS (72 + gi) (xgComp hgi) rfl 8 (by decide) (hnw.use 528 n528 rfl) (fun _ h9 => h9) rfl (tyX3_ok 8 (by decide)) rfl rfl (Nat.le_of_ble_eq_true rfl) dX1_readExtras_67 (fun H locs hP hD hS => ?_)
          obtain ⟨V140, hV140⟩ : ∃ z, z = up2 V125 53 gi (V125 1 8) := ⟨_, rfl⟩
          have ew141 : (xw ad kk V125 L126 Z).set (72 + gi) ((ad (72 + gi)), .inr (3, (xfComp ad V125 gi).set 8 (.int (V125 1 8)))) = xw ad kk V140 L126 Z := by rw [hV140]; exact xpComp_rank hgi
          have hP : va_P D vwCl (xw ad kk V140 L126 Z) H := by rw [← ew141]; exact hP
          have hD : va_D A (xw ad kk V140 L126 Z) := by rw [← ew141]; exact hD
          have hMV140 : rgd bX V140 := hMV125.put hV140 (i_full _)
          have agV140 : agr [(1, 3), (1, 6), (1, 8), (6, 8), (6, 9), (6, 10)] [43, 44, 52, 53, 54, 55] V V140 := agV125.up hV140 rfl
          refine lv_aload_n hx hb dX1_readExtras_70 rfl (lv_at hl 0 rfl) ?_
          refine va_get (D := D) (ci := 1) (v := .ref (ad 6)) (fs := (xfReader ad V140 L126 Z)) (C := RX1) (T := TX1) (N := 9) hx hb hg inX1 hown hK hP 1 xgReader rfl 0 (by decide) (hg _ w304) (fun _ h9 => h9) rfl dX1_readExtras_71 ?_
          refine va_getN (D := D) (ci := 9) (v := .int (V140 6 9)) (fs := (xfTape ad V140 L126 Z)) (C := RX9) (T := TX9) (N := 12) hx hb hg inX9 hown hK hP 6 xgTape rfl 9 (by decide) (hnw.use 262 n262 rfl) (fun _ h9 => h9) rfl dX1_readExtras_74 ?_
          refine g_top (v := (V125 6 9)) (up2_o hV140 (by decide)) ?_
          refine lv_sipush (v := 135) hx hb dX1_readExtras_77 (by decide) ?_
          refine lv_icmp_ne (tgt := 127) hx hb dX1_readExtras_80 (by decide) (fun c142 => ?_) (fun c142 => ?_)
          · skip
            have f143 : ((V125 6 9)).toInt ≠ 135 := b_neq rfl (by decide) c142
            refine lv_iconst (v := 1) hx hb dX1_readExtras_127 (by decide) ?_
            have rl144 : RelC V140 L126 b gT (nx (nx gs 1) 1) := RelC.ag rl136 (show agr [] [53] V125 V140 from (agr.up agr.rf hV140 rfl)) (by decide) (show agL [] L126 L126 from agL.rf) (by decide)
            have kd145 : gT.1 ((nx (nx gs 1) 1).1 0) = ((V125 6 9)).toInt := (RelC.kd rl144).trans (congrArg Int32.toInt (up2_o hV140 (by decide)))
            have hr146 : ∀ k, Rc gT (Crun gs (Icalled :: Irank :: IwhenI :: k)) (Crun (nx (nx gs 1) 1) (k)) := fun k => Rc.go1 (hr137 k) (when_n  (fun h9 => f143 (kd145.symm.trans h9)))
            have rw147 : ROWL b L L126 := (fun k hk => ((axL126 44 k rfl).trans ((axL113 44 k rfl).trans rfl)))
            exact W.zret (v := 1) hx hb hr rfl (fun t ht hW => ⟨⟨1, (V140, L126), rfl, ⟨hMV140, agV140, alL126, (by decide), (Or.inl ⟨rfl, (nx (nx gs 1) 1), hr146, rl144, keepS.le (keepS.tr (keepS.tr (keepS.rf : keepS gs 0 gs) (keepS.n1 1)) (keepS.n1 1)) (by decide)⟩), rw147⟩, by rw [ht]; exact hP, va_K.moved hW.alike hK, hD⟩, hS.F ht⟩) hS.2.2 dX1_readExtras_128
          · skip
            have f148 : ((V125 6 9)).toInt = 135 := b_eq rfl (by decide) c142
            refine lv_aload_n hx hb dX1_readExtras_83 rfl (lv_at hl 0 rfl) ?_
            refine va_get (D := D) (ci := 1) (v := .ref (ad 6)) (fs := (xfReader ad V140 L126 Z)) (C := RX1) (T := TX1) (N := 9) hx hb hg inX1 hown hK hP 1 xgReader rfl 0 (by decide) (hg _ w304) (fun _ h9 => h9) rfl dX1_readExtras_84 ?_
            have rl149 : RelC V140 L126 b gT (nx (nx gs 1) 1) := RelC.ag rl136 (show agr [] [53] V125 V140 from (agr.up agr.rf hV140 rfl)) (by decide) (show agL [] L126 L126 from agL.rf) (by decide)
            have kd150 : gT.1 ((nx (nx gs 1) 1).1 0) = ((V125 6 9)).toInt := (RelC.kd rl149).trans (congrArg Int32.toInt (up2_o hV140 (by decide)))
            have hr151 : ∀ k, Rc gT (Crun gs (Icalled :: Irank :: IwhenI :: k)) (Crun (nx (nx (nx gs 1) 1) 1) (Isetting :: Inum 0 999999999 :: k)) := fun k => Rc.go1 (hr137 k) (when_y  (kd150.trans f148))
            have l8152 := RelC.l8 rl149
            have pq153 : (V140 6 8).toInt = ((V125 6 8)).toInt := congrArg Int32.toInt (up2_o hV140 (by decide))
            have r154 : 0 ≤ ((V125 6 8)).toInt ∧ ((V125 6 8)).toInt ≤ 4000 := hMV125 6 8
            have pq155 : (V140 6 7).toInt = ((V 6 7)).toInt := congrArg Int32.toInt ((up2_o hV140 (by decide)).trans ((ajV125 6 7 rfl).trans (ajV112 6 7 rfl)))
            have pq156 : (V140 6 9).toInt = ((V125 6 9)).toInt := congrArg Int32.toInt (up2_o hV140 (by decide))
            have lk157 := RelC.lk rl149 (show (V140 6 9).toInt ≠ 0 from by omega)
            refine gA_void (gA_runV (As := []) (rest := []) (ci := 9) (q0 := 6) hx hb hml hown hg hP hD hK hS hA hnw hgk (x_next2 l D ks H.size ad kk V140 L126 Z  hMV140 (show (V140 6 8).toInt ≤ (V140 6 7).toInt from by first | omega | ((try (have i_t123 := Imp.go t123 (by omega))); (try (have i_t122 := Imp.go t122 (by omega))); (try (have i_t122 := Imp.go t122 (by omega))); (try (have i_t123 := Imp.go t123 (by omega))); omega))) w871 w852 w853 w157 w854 rfl xgTape hdV_yX9_next ⟨Nat.le_of_ble_eq_true rfl, Nat.le_of_ble_eq_true rfl⟩ rfl hl.1 rfl (Nat.le_of_ble_eq_true rfl) dX1_readExtras_87 ⟨Nat.le_of_ble_eq_true rfl, Nat.le_of_ble_eq_true rfl⟩) hP hD hK hS hA (fun u159 H locs w160 hP hD hK hS => ?_)
            obtain ⟨V163, L164⟩ := u159
            obtain ⟨hMV163, ajV163, axL164, t161, t162⟩ := w160
            have alL164 : agL [6, 44] L L164 := agL.tr alL126 axL164 (by decide)
            have hP : va_P D vwCl (xw ad kk V163 L164 Z) H := hP
            have hD : va_D A (xw ad kk V163 L164 Z) := hD
            have hMV163 : rgd bX V163 := hMV163
            have ajV163 : agr [(6, 8), (6, 9), (6, 10)] [] V140 V163 := ajV163
            have agV163 : agr [(1, 3), (1, 6), (1, 8), (6, 8), (6, 9), (6, 10)] [43, 44, 52, 53, 54, 55] V V163 := agV140.tr ajV163 (by decide) (by decide)
            have t161 : (V163 6 8).toInt ≤ (V163 6 7).toInt := t161
            have t162 : CUR V163 L164 (Int32.toNatClampNeg (V140 6 8)) := t162
            have r165 : 0 ≤ ((V163 6 8)).toInt ∧ ((V163 6 8)).toInt ≤ 4000 := hMV163 6 8
            have pq166 : (V163 6 7).toInt = ((V 6 7)).toInt := congrArg Int32.toInt ((ajV163 6 7 rfl).trans ((up2_o hV140 (by decide)).trans ((ajV125 6 7 rfl).trans (ajV112 6 7 rfl))))
            have rl167 : RelC V163 L164 b gT (nx (nx (nx gs 1) 1) 1) := RelC.nx1 rl149 ajV163 (by decide) axL164 (by decide) (by rw [← lk157]; exact t162) (ajV163 1 3 rfl)
            refine lv_aload_n hx hb dX1_readExtras_90 rfl (lv_at hl 0 rfl) ?_
            have pq168 : (V163 1 1).toInt = ((V 1 1)).toInt := congrArg Int32.toInt ((ajV163 1 1 rfl).trans ((up2_o hV140 (by decide)).trans ((ajV125 1 1 rfl).trans (ajV112 1 1 rfl))))
            refine gA_int (gA_runV (As := []) (rest := []) (ci := 1) (q0 := 1) hx hb hml hown hg hP hD hK hS hA hnw hgk (x_takeSetting3 l D ks H.size ad kk V163 L164 Z (b) (gT) ((nx (nx (nx gs 1) 1) 1)) hMV163 (show b < 2 from by first | omega | ((try (have i_t123 := Imp.go t123 (by omega))); (try (have i_t122 := Imp.go t122 (by omega))); (try (have i_t122 := Imp.go t122 (by omega))); (try (have i_t123 := Imp.go t123 (by omega))); omega)) (show (V163 1 1).toInt = (b : Int) from by first | omega | ((try (have i_t123 := Imp.go t123 (by omega))); (try (have i_t122 := Imp.go t122 (by omega))); (try (have i_t122 := Imp.go t122 (by omega))); (try (have i_t123 := Imp.go t123 (by omega))); omega)) rl167) w931 w933 w17 w162 w934 rfl xgReader hdV_yX1_takeSetting ⟨Nat.le_of_ble_eq_true rfl, Nat.le_of_ble_eq_true rfl⟩ rfl hl.1 rfl (Nat.le_of_ble_eq_true rfl) dX1_readExtras_91 ⟨Nat.le_of_ble_eq_true rfl, Nat.le_of_ble_eq_true rfl⟩) hP hD hK hS hA (fun z169 u170 H locs w171 hP hD hK hS => ?_)
            obtain ⟨V173, L174⟩ := u170
            obtain ⟨hMV173, ajV173, axL174, rgz169, t172⟩ := w171
            have alL174 : agL [6, 44] L L174 := agL.tr alL164 axL174 (by decide)
            have hP : va_P D vwCl (xw ad kk V173 L174 Z) H := hP
            have hD : va_D A (xw ad kk V173 L174 Z) := hD
            have hMV173 : rgd bX V173 := hMV173
            have ajV173 : agr [(1, 3), (1, 6), (6, 8), (6, 9), (6, 10)] [] V163 V173 := ajV173
            have agV173 : agr [(1, 3), (1, 6), (1, 8), (6, 8), (6, 9), (6, 10)] [43, 44, 52, 53, 54, 55] V V173 := agV163.tr ajV173 (by decide) (by decide)
            have rgz169 : 0 ≤ z169.toInt ∧ z169.toInt ≤ 1 := rgz169
            have t172 : KcN (look gT (nx (nx (nx gs 1) 1) 1) ((nx (nx (nx gs 1) 1) 1).2.1 1)) z169.toInt (V173 1 3).toInt (fun f9 => RelC V173 L174 b gT (nx (nx (nx (nx gs 1) 1) 1) 1) ∧ (V173 1 6).toInt = ((f9 : Nat) : Int) ∧ f9 < 12) := t172
            rcases t172 with ⟨q175, fx176, h177, rl178, hf179, hb180⟩ | ⟨q175, h177⟩
            · skip
              have hr181 : ∀ k, Rc gT (Crun gs (Icalled :: Irank :: IwhenI :: k)) (Crun (nx (nx (nx (nx gs 1) 1) 1) 1) (Inum 0 999999999 :: k)) := fun k => Rc.go1 (hr151 k) (se_y h177)
              refine lv_if_ne (tgt := 99) hx hb dX1_readExtras_94 (by decide) (fun c182 => ?_) (fun c182 => ?_)
              · skip
                have f183 : z169.toInt ≠ 0 := b_neq rfl (by decide) c182
                refine lv_aload_n hx hb dX1_readExtras_99 rfl (lv_at hl 1 rfl) ?_
                refine lv_aload_n hx hb dX1_readExtras_100 rfl (lv_at hl 0 rfl) ?_
                refine va_get (D := D) (ci := 1) (v := .int (V173 1 6)) (fs := (xfReader ad V173 L174 Z)) (C := RX1) (T := TX1) (N := 9) hx hb hg inX1 hown hK hP 1 xgReader rfl 6 (by decide) (hg _ w310) (fun _ h9 => h9) rfl dX1_readExtras_101 ?_
                have r184 : (-1) ≤ ((V173 1 6)).toInt ∧ ((V173 1 6)).toInt ≤ 23 := hMV173 1 6
                refine va_putN (D := D) (ci := 3) (v := .int (V173 1 6)) (ty := tyX3 9) (fs := (xfComp ad V173 gi)) (C := RX3) (T := TX3) (N := 13) hx hb hg inX3 tyX3 tyX3_ok nmX3 hown hK hP hD hS (72 + gi) (xgComp hgi) rfl 9 (by decide) (hnw.use 533 n533 rfl) (fun _ h9 => h9) rfl (tyX3_ok 9 (by decide)) rfl rfl (Nat.le_of_ble_eq_true rfl) dX1_readExtras_104 (fun H locs hP hD hS => ?_)
                obtain ⟨V185, hV185⟩ : ∃ z, z = up2 V173 54 gi (V173 1 6) := ⟨_, rfl⟩
                have ew186 : (xw ad kk V173 L174 Z).set (72 + gi) ((ad (72 + gi)), .inr (3, (xfComp ad V173 gi).set 9 (.int (V173 1 6)))) = xw ad kk V185 L174 Z := by rw [hV185]; exact xpComp_whenSetting hgi
                have hP : va_P D vwCl (xw ad kk V185 L174 Z) H := by rw [← ew186]; exact hP
                have hD : va_D A (xw ad kk V185 L174 Z) := by rw [← ew186]; exact hD
                have hMV185 : rgd bX V185 := hMV173.put hV185 (show (-1) ≤ ((V173 1 6)).toInt ∧ ((V173 1 6)).toInt ≤ 11 from by first | omega | ((try (have i_t123 := Imp.go t123 (by omega))); (try (have i_t122 := Imp.go t122 (by omega))); (try (have i_t122 := Imp.go t122 (by omega))); (try (have i_t123 := Imp.go t123 (by omega))); omega))
                have agV185 : agr [(1, 3), (1, 6), (1, 8), (6, 8), (6, 9), (6, 10)] [43, 44, 52, 53, 54, 55] V V185 := agV173.up hV185 rfl
                refine lv_aload_n hx hb dX1_readExtras_107 rfl (lv_at hl 0 rfl) ?_
                refine lv_iconst (v := 0) hx hb dX1_readExtras_108 (by decide) ?_
                refine lv_ldc (v := 999999999) hx hb hown (hg _ w905) dX1_readExtras_109 ?_
                have rl187 : RelC V185 L174 b gT (nx (nx (nx (nx gs 1) 1) 1) 1) := RelC.ag rl178 (show agr [] [54] V173 V185 from (agr.up agr.rf hV185 rfl)) (by decide) (show agL [] L174 L174 from agL.rf) (by decide)
                have r188 : Int32.toInt 999999999 = 999999999 := by decide
                refine gA_int (gA_runV (As := [.int 0, .int 999999999]) (rest := []) (ci := 1) (q0 := 1) hx hb hml hown hg hP hD hK hS hA hnw hgk (x_takeNumber2 l D ks H.size ad kk V185 L174 Z 0 999999999 (((nx (nx (nx (nx gs 1) 1) 1) 1).1 0)) hMV185 (rl187).1 (rl187).2.1.1 (show 0 ≤ (Int32.toInt 0) from by first | omega | ((try (have i_t123 := Imp.go t123 (by omega))); (try (have i_t122 := Imp.go t122 (by omega))); (try (have i_t122 := Imp.go t122 (by omega))); (try (have i_t123 := Imp.go t123 (by omega))); omega)) (show (Int32.toInt 999999999) ≤ 999999999 from by first | omega | ((try (have i_t123 := Imp.go t123 (by omega))); (try (have i_t122 := Imp.go t122 (by omega))); (try (have i_t122 := Imp.go t122 (by omega))); (try (have i_t123 := Imp.go t123 (by omega))); omega))) w906 w908 w12 w162 w909 rfl xgReader hdV_yX1_takeNumber ⟨Nat.le_of_ble_eq_true rfl, Nat.le_of_ble_eq_true rfl⟩ rfl hl.1 rfl (Nat.le_of_ble_eq_true rfl) dX1_readExtras_111 ⟨Nat.le_of_ble_eq_true rfl, Nat.le_of_ble_eq_true rfl⟩) hP hD hK hS hA (fun z189 u190 H locs w191 hP hD hK hS => ?_)
                obtain ⟨V195, L196⟩ := u190
                obtain ⟨hMV195, ajV195, axL196, rgz189, t192, t193, t194⟩ := w191
                have alL196 : agL [6, 44] L L196 := agL.tr alL174 axL196 (by decide)
                have hP : va_P D vwCl (xw ad kk V195 L196 Z) H := hP
                have hD : va_D A (xw ad kk V195 L196 Z) := hD
                have hMV195 : rgd bX V195 := hMV195
                have ajV195 : agr [(1, 3), (1, 8), (6, 8), (6, 9), (6, 10)] [] V185 V195 := ajV195
                have agV195 : agr [(1, 3), (1, 6), (1, 8), (6, 8), (6, 9), (6, 10)] [43, 44, 52, 53, 54, 55] V V195 := agV185.tr ajV195 (by decide) (by decide)
                have rgz189 : 0 ≤ z189.toInt ∧ z189.toInt ≤ 1 := rgz189
                have t192 : Imp (z189.toInt = 1) ((Int32.toInt 0) ≤ (V195 1 8).toInt ∧ (V195 1 8).toInt ≤ (Int32.toInt 999999999)) := t192
                have t193 : Imp (z189.toInt = 0) (1 ≤ (V195 1 3).toInt) := t193
                have t194 : (z189.toInt = 1 ∧ (V185 12 ((nx (nx (nx (nx gs 1) 1) 1) 1).1 0)).toInt = 2 ∧ (Int32.toInt 0) ≤ (L174 14 ((nx (nx (nx (nx gs 1) 1) 1) 1).1 0)).toInt ∧ (L174 14 ((nx (nx (nx (nx gs 1) 1) 1) 1).1 0)).toInt ≤ (Int32.toInt 999999999) ∧ CUR V195 L196 (((nx (nx (nx (nx gs 1) 1) 1) 1).1 0) + 1) ∧ (V195 1 8).toInt = (L174 14 ((nx (nx (nx (nx gs 1) 1) 1) 1).1 0)).toInt ∧ V195 1 3 = V185 1 3) ∨ (z189.toInt = 0 ∧ (((V185 12 ((nx (nx (nx (nx gs 1) 1) 1) 1).1 0)).toInt ≠ 2 ∧ (V195 1 3).toInt = 1 + 16 * (V185 13 ((nx (nx (nx (nx gs 1) 1) 1) 1).1 0)).toInt) ∨ ((V185 12 ((nx (nx (nx (nx gs 1) 1) 1) 1).1 0)).toInt = 2 ∧ ((L174 14 ((nx (nx (nx (nx gs 1) 1) 1) 1).1 0)).toInt < (Int32.toInt 0) ∨ (Int32.toInt 999999999) < (L174 14 ((nx (nx (nx (nx gs 1) 1) 1) 1).1 0)).toInt) ∧ (V195 1 3).toInt = 4 + 16 * (V185 13 ((nx (nx (nx (nx gs 1) 1) 1) 1).1 0)).toInt))) := t194
                have r197 : 0 ≤ ((V195 1 8)).toInt ∧ ((V195 1 8)).toInt ≤ 999999999 := hMV195 1 8
                have nv205 := congrArg Int64.toInt rl187.tok.2.1
                rcases t194 with ⟨q198, h199, h200, h201, k202, k203, k204⟩ | ⟨q198, ⟨h199, k202⟩ | ⟨h199, h200, k202⟩⟩
                · skip
                  have rl206 : RelC V195 L196 b gT (nx (nx (nx (nx (nx gs 1) 1) 1) 1) 1) := RelC.nx1 rl187 ajV195 (by decide) axL196 (by decide) k202 k204
                  have hr207 : ∀ k, Rc gT (Crun gs (Icalled :: Irank :: IwhenI :: k)) (Crun (nx (nx (nx (nx (nx gs 1) 1) 1) 1) 1) (k)) := fun k => Rc.go1 (hr181 k) (nm_y (rl187.tok.1.trans h199) (by omega) (by omega))
                  refine lv_if_ne (tgt := 119) hx hb dX1_readExtras_114 (by decide) (fun c208 => ?_) (fun c208 => ?_)
                  · skip
                    have f209 : z189.toInt ≠ 0 := b_neq rfl (by decide) c208
                    refine lv_aload_n hx hb dX1_readExtras_119 rfl (lv_at hl 1 rfl) ?_
                    refine lv_aload_n hx hb dX1_readExtras_120 rfl (lv_at hl 0 rfl) ?_
                    refine va_get (D := D) (ci := 1) (v := .int (V195 1 8)) (fs := (xfReader ad V195 L196 Z)) (C := RX1) (T := TX1) (N := 9) hx hb hg inX1 hown hK hP 1 xgReader rfl 8 (by decide) (hg _ w312) (fun _ h9 => h9) rfl dX1_readExtras_121 ?_
                    refine va_putN (D := D) (ci := 3) (v := .int (V195 1 8)) (ty := tyX3 10) (fs := (xfComp ad V195 gi)) (C := RX3) (T := TX3) (N := 13) hx hb hg inX3 tyX3 tyX3_ok nmX3 hown hK hP hD hS (72 + gi) (xgComp hgi) rfl 10 (by decide) (hnw.use 536 n536 rfl) (fun _ h9 => h9) rfl (tyX3_ok 10 (by decide)) rfl rfl (Nat.le_of_ble_eq_true rfl) dX1_readExtras_124 (fun H locs hP hD hS => ?_)
                    obtain ⟨V210, hV210⟩ : ∃ z, z = up2 V195 55 gi (V195 1 8) := ⟨_, rfl⟩
                    have ew211 : (xw ad kk V195 L196 Z).set (72 + gi) ((ad (72 + gi)), .inr (3, (xfComp ad V195 gi).set 10 (.int (V195 1 8)))) = xw ad kk V210 L196 Z := by rw [hV210]; exact xpComp_whenValue hgi
                    have hP : va_P D vwCl (xw ad kk V210 L196 Z) H := by rw [← ew211]; exact hP
                    have hD : va_D A (xw ad kk V210 L196 Z) := by rw [← ew211]; exact hD
                    have hMV210 : rgd bX V210 := hMV195.put hV210 (i_full _)
                    have agV210 : agr [(1, 3), (1, 6), (1, 8), (6, 8), (6, 9), (6, 10)] [43, 44, 52, 53, 54, 55] V V210 := agV195.up hV210 rfl
                    refine lv_iconst (v := 1) hx hb dX1_readExtras_127 (by decide) ?_
                    have rl212 : RelC V210 L196 b gT (nx (nx (nx (nx (nx gs 1) 1) 1) 1) 1) := RelC.ag rl206 (show agr [] [55] V195 V210 from (agr.up agr.rf hV210 rfl)) (by decide) (show agL [] L196 L196 from agL.rf) (by decide)
                    have rw213 : ROWL b L L196 := (fun k hk => ((axL196 44 k rfl).trans ((axL174 44 k rfl).trans ((axL164 44 k rfl).trans ((axL126 44 k rfl).trans ((axL113 44 k rfl).trans rfl))))))
                    exact W.zret (v := 1) hx hb hr rfl (fun t ht hW => ⟨⟨1, (V210, L196), rfl, ⟨hMV210, agV210, alL196, (by decide), (Or.inl ⟨rfl, (nx (nx (nx (nx (nx gs 1) 1) 1) 1) 1), hr207, rl212, keepS.le (keepS.tr (keepS.tr (keepS.tr (keepS.tr (keepS.tr (keepS.rf : keepS gs 0 gs) (keepS.n1 1)) (keepS.n1 1)) (keepS.n1 1)) (keepS.n1 1)) (keepS.n1 1)) (by decide)⟩), rw213⟩, by rw [ht]; exact hP, va_K.moved hW.alike hK, hD⟩, hS.F ht⟩) hS.2.2 dX1_readExtras_128
                  · skip
                    have f214 : z189.toInt = 0 := b_eq rfl (by decide) c208
                    exfalso; first | omega | ((try (have i_t193 := Imp.go t193 (by omega))); (try (have i_t192 := Imp.go t192 (by omega))); (try (have i_t123 := Imp.go t123 (by omega))); (try (have i_t122 := Imp.go t122 (by omega))); (try (have i_t122 := Imp.go t122 (by omega))); (try (have i_t123 := Imp.go t123 (by omega))); (try (have i_t192 := Imp.go t192 (by omega))); (try (have i_t193 := Imp.go t193 (by omega))); omega)
                · skip
                  have hb215 : ∀ k, Rc gT (Crun gs (Icalled :: Irank :: IwhenI :: k)) (Cbad (V195 1 3).toInt) := fun k => Rc.go1 (hr181 k) ((nm_1 (fun h9 => h199 (rl187.tok.1.symm.trans h9))).trans (fl_eq rl187.tok.2.2 k202))
                  refine lv_if_ne (tgt := 119) hx hb dX1_readExtras_114 (by decide) (fun c216 => ?_) (fun c216 => ?_)
                  · skip
                    have f217 : z189.toInt ≠ 0 := b_neq rfl (by decide) c216
                    exfalso; first | omega | ((try (have i_t193 := Imp.go t193 (by omega))); (try (have i_t192 := Imp.go t192 (by omega))); (try (have i_t123 := Imp.go t123 (by omega))); (try (have i_t122 := Imp.go t122 (by omega))); (try (have i_t122 := Imp.go t122 (by omega))); (try (have i_t123 := Imp.go t123 (by omega))); (try (have i_t192 := Imp.go t192 (by omega))); (try (have i_t193 := Imp.go t193 (by omega))); omega)
                  · skip
                    have f218 : z189.toInt = 0 := b_eq rfl (by decide) c216
                    refine lv_iconst (v := 0) hx hb dX1_readExtras_117 (by decide) ?_
                    have rw219 : ROWL b L L196 := (fun k hk => ((axL196 44 k rfl).trans ((axL174 44 k rfl).trans ((axL164 44 k rfl).trans ((axL126 44 k rfl).trans ((axL113 44 k rfl).trans rfl))))))
                    exact W.zret (v := 0) hx hb hr rfl (fun t ht hW => ⟨⟨0, (V195, L196), rfl, ⟨hMV195, agV195, alL196, (by decide), (Or.inr ⟨rfl, hb215⟩), rw219⟩, by rw [ht]; exact hP, va_K.moved hW.alike hK, hD⟩, hS.F ht⟩) hS.2.2 dX1_readExtras_118
                · skip
                  have hb220 : ∀ k, Rc gT (Crun gs (Icalled :: Irank :: IwhenI :: k)) (Cbad (V195 1 3).toInt) := fun k => Rc.go1 (hr181 k) ((nm_4 (rl187.tok.1.trans h199) (by omega)).trans (fl_eq rl187.tok.2.2 k202))
                  refine lv_if_ne (tgt := 119) hx hb dX1_readExtras_114 (by decide) (fun c221 => ?_) (fun c221 => ?_)
                  · skip
                    have f222 : z189.toInt ≠ 0 := b_neq rfl (by decide) c221
                    exfalso; first | omega | ((try (have i_t193 := Imp.go t193 (by omega))); (try (have i_t192 := Imp.go t192 (by omega))); (try (have i_t123 := Imp.go t123 (by omega))); (try (have i_t122 := Imp.go t122 (by omega))); (try (have i_t122 := Imp.go t122 (by omega))); (try (have i_t123 := Imp.go t123 (by omega))); (try (have i_t192 := Imp.go t192 (by omega))); (try (have i_t193 := Imp.go t193 (by omega))); omega)
                  · skip
                    have f223 : z189.toInt = 0 := b_eq rfl (by decide) c221
                    refine lv_iconst (v := 0) hx hb dX1_readExtras_117 (by decide) ?_
                    have rw224 : ROWL b L L196 := (fun k hk => ((axL196 44 k rfl).trans ((axL174 44 k rfl).trans ((axL164 44 k rfl).trans ((axL126 44 k rfl).trans ((axL113 44 k rfl).trans rfl))))))
                    exact W.zret (v := 0) hx hb hr rfl (fun t ht hW => ⟨⟨0, (V195, L196), rfl, ⟨hMV195, agV195, alL196, (by decide), (Or.inr ⟨rfl, hb220⟩), rw224⟩, by rw [ht]; exact hP, va_K.moved hW.alike hK, hD⟩, hS.F ht⟩) hS.2.2 dX1_readExtras_118
              · skip
                have f225 : z169.toInt = 0 := b_eq rfl (by decide) c182
                exfalso; first | omega | ((try (have i_t123 := Imp.go t123 (by omega))); (try (have i_t122 := Imp.go t122 (by omega))); (try (have i_t122 := Imp.go t122 (by omega))); (try (have i_t123 := Imp.go t123 (by omega))); omega)
            · skip
              have hb226 : ∀ k, Rc gT (Crun gs (Icalled :: Irank :: IwhenI :: k)) (Cbad (V173 1 3).toInt) := fun k => Rc.go1 (hr151 k) (se_b h177)
              refine lv_if_ne (tgt := 99) hx hb dX1_readExtras_94 (by decide) (fun c227 => ?_) (fun c227 => ?_)
              · skip
                have f228 : z169.toInt ≠ 0 := b_neq rfl (by decide) c227
                exfalso; first | omega | ((try (have i_t123 := Imp.go t123 (by omega))); (try (have i_t122 := Imp.go t122 (by omega))); (try (have i_t122 := Imp.go t122 (by omega))); (try (have i_t123 := Imp.go t123 (by omega))); omega)
              · skip
                have f229 : z169.toInt = 0 := b_eq rfl (by decide) c227
                refine lv_iconst (v := 0) hx hb dX1_readExtras_97 (by decide) ?_
                have rw230 : ROWL b L L174 := (fun k hk => ((axL174 44 k rfl).trans ((axL164 44 k rfl).trans ((axL126 44 k rfl).trans ((axL113 44 k rfl).trans rfl)))))
                exact W.zret (v := 0) hx hb hr rfl (fun t ht hW => ⟨⟨0, (V173, L174), rfl, ⟨hMV173, agV173, alL174, (by decide), (Or.inr ⟨rfl, hb226⟩), rw230⟩, by rw [ht]; exact hP, va_K.moved hW.alike hK, hD⟩, hS.F ht⟩) hS.2.2 dX1_readExtras_98
        · skip
          have f231 : z119.toInt = 0 := b_eq rfl (by decide) c138
          exfalso; first | omega | ((try (have i_t123 := Imp.go t123 (by omega))); (try (have i_t122 := Imp.go t122 (by omega))); (try (have i_t122 := Imp.go t122 (by omega))); (try (have i_t123 := Imp.go t123 (by omega))); omega)
      · skip
        have hb232 : ∀ k, Rc gT (Crun gs (Icalled :: Irank :: IwhenI :: k)) (Cbad (V125 1 3).toInt) := fun k => Rc.go1 (hr102 k) ((nm_1 (fun h9 => h129 (rl116.tok.1.symm.trans h9))).trans (fl_eq rl116.tok.2.2 k132))
        refine lv_if_ne (tgt := 62) hx hb dX1_readExtras_57 (by decide) (fun c233 => ?_) (fun c233 => ?_)
        · skip
          have f234 : z119.toInt ≠ 0 := b_neq rfl (by decide) c233
          exfalso; first | omega | ((try (have i_t123 := Imp.go t123 (by omega))); (try (have i_t122 := Imp.go t122 (by omega))); (try (have i_t122 := Imp.go t122 (by omega))); (try (have i_t123 := Imp.go t123 (by omega))); omega)
        · skip
          have f235 : z119.toInt = 0 := b_eq rfl (by decide) c233
          refine lv_iconst (v := 0) hx hb dX1_readExtras_60 (by decide) ?_
          have rw236 : ROWL b L L126 := (fun k hk => ((axL126 44 k rfl).trans ((axL113 44 k rfl).trans rfl)))
          exact W.zret (v := 0) hx hb hr rfl (fun t ht hW => ⟨⟨0, (V125, L126), rfl, ⟨hMV125, agV125, alL126, (by decide), (Or.inr ⟨rfl, hb232⟩), rw236⟩, by rw [ht]; exact hP, va_K.moved hW.alike hK, hD⟩, hS.F ht⟩) hS.2.2 dX1_readExtras_61
      · skip
        have hb237 : ∀ k, Rc gT (Crun gs (Icalled :: Irank :: IwhenI :: k)) (Cbad (V125 1 3).toInt) := fun k => Rc.go1 (hr102 k) ((nm_4 (rl116.tok.1.trans h129) (by omega)).trans (fl_eq rl116.tok.2.2 k132))
        refine lv_if_ne (tgt := 62) hx hb dX1_readExtras_57 (by decide) (fun c238 => ?_) (fun c238 => ?_)
        · skip
          have f239 : z119.toInt ≠ 0 := b_neq rfl (by decide) c238
          exfalso; first | omega | ((try (have i_t123 := Imp.go t123 (by omega))); (try (have i_t122 := Imp.go t122 (by omega))); (try (have i_t122 := Imp.go t122 (by omega))); (try (have i_t123 := Imp.go t123 (by omega))); omega)
        · skip
          have f240 : z119.toInt = 0 := b_eq rfl (by decide) c238
          refine lv_iconst (v := 0) hx hb dX1_readExtras_60 (by decide) ?_
          have rw241 : ROWL b L L126 := (fun k hk => ((axL126 44 k rfl).trans ((axL113 44 k rfl).trans rfl)))
          exact W.zret (v := 0) hx hb hr rfl (fun t ht hW => ⟨⟨0, (V125, L126), rfl, ⟨hMV125, agV125, alL126, (by decide), (Or.inr ⟨rfl, hb237⟩), rw241⟩, by rw [ht]; exact hP, va_K.moved hW.alike hK, hD⟩, hS.F ht⟩) hS.2.2 dX1_readExtras_61
  · skip
    have f242 : ((V 6 9)).toInt = 133 := b_eq rfl (by decide) c2
    refine lv_aload_n hx hb dX1_readExtras_13 rfl (lv_at hl 0 rfl) ?_
    have hr243 : ∀ k, Rc gT (Crun gs (Icalled :: Irank :: IwhenI :: k)) (Crun gs (Icalled :: Irank :: IwhenI :: k)) := fun k => Rc.rf
    have kd244 : gT.1 (gs.1 0) = ((V 6 9)).toInt := RelC.kd rel
    have hr245 : ∀ k, Rc gT (Crun gs (Icalled :: Irank :: IwhenI :: k)) (Crun (nx gs 1) (Iword :: Irank :: IwhenI :: k)) := fun k => Rc.go1 (hr243 k) (called_y  (kd244.trans f242))
    refine gA_int (gA_runV (As := []) (rest := []) (ci := 1) (q0 := 1) hx hb hml hown hg hP hD hK hS hA hnw hgk (x_takeCalled3 l D ks H.size ad kk V L Z (b) (gT) (gs) hMV (show b < 2 from by omega) (show (V 1 1).toInt = (b : Int) from by omega) rel (show (V 6 9).toInt = 133 from by omega)) w923 w925 w15 w162 w926 rfl xgReader hdV_yX1_takeCalled ⟨Nat.le_of_ble_eq_true rfl, Nat.le_of_ble_eq_true rfl⟩ rfl hl.1 rfl (Nat.le_of_ble_eq_true rfl) dX1_readExtras_14 ⟨Nat.le_of_ble_eq_true rfl, Nat.le_of_ble_eq_true rfl⟩) hP hD hK hS hA (fun z246 u247 H locs w248 hP hD hK hS => ?_)
    obtain ⟨V251, L252⟩ := u247
    obtain ⟨hMV251, ajV251, axL252, rgz246, t249, t250⟩ := w248
    have alL252 : agL [6, 44] L L252 := agL.tr alL axL252 (by decide)
    have hP : va_P D vwCl (xw ad kk V251 L252 Z) H := hP
    have hD : va_D A (xw ad kk V251 L252 Z) := hD
    have hMV251 : rgd bX V251 := hMV251
    have ajV251 : agr [(1, 3), (1, 6), (6, 8), (6, 9), (6, 10)] [43, 44] V V251 := ajV251
    have agV251 : agr [(1, 3), (1, 6), (1, 8), (6, 8), (6, 9), (6, 10)] [43, 44, 52, 53, 54, 55] V V251 := agV.tr ajV251 (by decide) (by decide)
    have rgz246 : 0 ≤ z246.toInt ∧ z246.toInt ≤ 1 := rgz246
    have t249 : KcS (mthW gT (nx gs 1) 4) z246.toInt (V251 1 3).toInt (fun x9 => RelC V251 L252 b gT x9.2 ∧ (V251 1 6).toInt = ((x9.1 : Nat) : Int) ∧ x9.1 < 20 ∧ keepS gs 2 x9.2) := t249
    have t250 : ROWL b L L252 := t250
    rcases t249 with ⟨q253, mx254, h255, rl256, hf257, hb258, kp259⟩ | ⟨q253, h255⟩
    · skip
      have hr260 : ∀ k, Rc gT (Crun gs (Icalled :: Irank :: IwhenI :: k)) (Crun mx254.2 (Irank :: IwhenI :: k)) := fun k => Rc.go1 (hr245 k) (wo_y h255)
      refine lv_if_ne (tgt := 22) hx hb dX1_readExtras_17 (by decide) (fun c261 => ?_) (fun c261 => ?_)
      · skip
        have f262 : z246.toInt ≠ 0 := b_neq rfl (by decide) c261
        refine lv_aload_n hx hb dX1_readExtras_22 rfl (lv_at hl 1 rfl) ?_
        refine lv_aload_n hx hb dX1_readExtras_23 rfl (lv_at hl 0 rfl) ?_
        refine va_get (D := D) (ci := 1) (v := .int (V251 1 6)) (fs := (xfReader ad V251 L252 Z)) (C := RX1) (T := TX1) (N := 9) hx hb hg inX1 hown hK hP 1 xgReader rfl 6 (by decide) (hg _ w310) (fun _ h9 => h9) rfl dX1_readExtras_24 ?_
        have r263 : (-1) ≤ ((V251 1 6)).toInt ∧ ((V251 1 6)).toInt ≤ 23 := hMV251 1 6
        refine va_putN (D := D) (ci := 3) (v := .int (V251 1 6)) (ty := tyX3 7) (fs := (xfComp ad V251 gi)) (C := RX3) (T := TX3) (N := 13) hx hb hg inX3 tyX3 tyX3_ok nmX3 hown hK hP hD hS (72 + gi) (xgComp hgi) rfl 7 (by decide) (hnw.use 524 n524 rfl) (fun _ h9 => h9) rfl (tyX3_ok 7 (by decide)) rfl rfl (Nat.le_of_ble_eq_true rfl) dX1_readExtras_27 (fun H locs hP hD hS => ?_)
        obtain ⟨V264, hV264⟩ : ∃ z, z = up2 V251 52 gi (V251 1 6) := ⟨_, rfl⟩
        have ew265 : (xw ad kk V251 L252 Z).set (72 + gi) ((ad (72 + gi)), .inr (3, (xfComp ad V251 gi).set 7 (.int (V251 1 6)))) = xw ad kk V264 L252 Z := by rw [hV264]; exact xpComp_calledWord hgi
        have hP : va_P D vwCl (xw ad kk V264 L252 Z) H := by rw [← ew265]; exact hP
        have hD : va_D A (xw ad kk V264 L252 Z) := by rw [← ew265]; exact hD
        have hMV264 : rgd bX V264 := hMV251.put hV264 (i_full _)
        have agV264 : agr [(1, 3), (1, 6), (1, 8), (6, 8), (6, 9), (6, 10)] [43, 44, 52, 53, 54, 55] V V264 := agV251.up hV264 rfl
        refine lv_aload_n hx hb dX1_readExtras_30 rfl (lv_at hl 0 rfl) ?_
        refine va_get (D := D) (ci := 1) (v := .ref (ad 6)) (fs := (xfReader ad V264 L252 Z)) (C := RX1) (T := TX1) (N := 9) hx hb hg inX1 hown hK hP 1 xgReader rfl 0 (by decide) (hg _ w304) (fun _ h9 => h9) rfl dX1_readExtras_31 ?_
        refine va_getN (D := D) (ci := 9) (v := .int (V264 6 9)) (fs := (xfTape ad V264 L252 Z)) (C := RX9) (T := TX9) (N := 12) hx hb hg inX9 hown hK hP 6 xgTape rfl 9 (by decide) (hnw.use 262 n262 rfl) (fun _ h9 => h9) rfl dX1_readExtras_34 ?_
        refine g_top (v := (V251 6 9)) (up2_o hV264 (by decide)) ?_
        refine lv_sipush (v := 134) hx hb dX1_readExtras_37 (by decide) ?_
        refine lv_icmp_ne (tgt := 70) hx hb dX1_readExtras_40 (by decide) (fun c266 => ?_) (fun c266 => ?_)
        · skip
          have f267 : ((V251 6 9)).toInt ≠ 134 := b_neq rfl (by decide) c266
          refine lv_aload_n hx hb dX1_readExtras_70 rfl (lv_at hl 0 rfl) ?_
          refine va_get (D := D) (ci := 1) (v := .ref (ad 6)) (fs := (xfReader ad V264 L252 Z)) (C := RX1) (T := TX1) (N := 9) hx hb hg inX1 hown hK hP 1 xgReader rfl 0 (by decide) (hg _ w304) (fun _ h9 => h9) rfl dX1_readExtras_71 ?_
          refine va_getN (D := D) (ci := 9) (v := .int (V264 6 9)) (fs := (xfTape ad V264 L252 Z)) (C := RX9) (T := TX9) (N := 12) hx hb hg inX9 hown hK hP 6 xgTape rfl 9 (by decide) (hnw.use 262 n262 rfl) (fun _ h9 => h9) rfl dX1_readExtras_74 ?_
          refine g_top (v := (V251 6 9)) (up2_o hV264 (by decide)) ?_
          refine lv_sipush (v := 135) hx hb dX1_readExtras_77 (by decide) ?_
          refine lv_icmp_ne (tgt := 127) hx hb dX1_readExtras_80 (by decide) (fun c268 => ?_) (fun c268 => ?_)
          · skip
            have f269 : ((V251 6 9)).toInt ≠ 135 := b_neq rfl (by decide) c268
            refine lv_iconst (v := 1) hx hb dX1_readExtras_127 (by decide) ?_
            have rl270 : RelC V264 L252 b gT mx254.2 := RelC.ag rl256 (show agr [] [52] V251 V264 from (agr.up agr.rf hV264 rfl)) (by decide) (show agL [] L252 L252 from agL.rf) (by decide)
            have kd271 : gT.1 (mx254.2.1 0) = ((V251 6 9)).toInt := (RelC.kd rl270).trans (congrArg Int32.toInt (up2_o hV264 (by decide)))
            have hr272 : ∀ k, Rc gT (Crun gs (Icalled :: Irank :: IwhenI :: k)) (Crun mx254.2 (IwhenI :: k)) := fun k => Rc.go1 (hr260 k) (rank_n  (fun h9 => f267 (kd271.symm.trans h9)))
            have hr273 : ∀ k, Rc gT (Crun gs (Icalled :: Irank :: IwhenI :: k)) (Crun mx254.2 (k)) := fun k => Rc.go1 (hr272 k) (when_n  (fun h9 => f269 (kd271.symm.trans h9)))
            have rw274 : ROWL b L L252 := (fun k hk => ((t250 k hk).trans rfl))
            exact W.zret (v := 1) hx hb hr rfl (fun t ht hW => ⟨⟨1, (V264, L252), rfl, ⟨hMV264, agV264, alL252, (by decide), (Or.inl ⟨rfl, mx254.2, hr273, rl270, keepS.le (keepS.tr (keepS.rf : keepS gs 0 gs) kp259) (by decide)⟩), rw274⟩, by rw [ht]; exact hP, va_K.moved hW.alike hK, hD⟩, hS.F ht⟩) hS.2.2 dX1_readExtras_128
          · skip
            have f275 : ((V251 6 9)).toInt = 135 := b_eq rfl (by decide) c268
            refine lv_aload_n hx hb dX1_readExtras_83 rfl (lv_at hl 0 rfl) ?_
            refine va_get (D := D) (ci := 1) (v := .ref (ad 6)) (fs := (xfReader ad V264 L252 Z)) (C := RX1) (T := TX1) (N := 9) hx hb hg inX1 hown hK hP 1 xgReader rfl 0 (by decide) (hg _ w304) (fun _ h9 => h9) rfl dX1_readExtras_84 ?_
            have rl276 : RelC V264 L252 b gT mx254.2 := RelC.ag rl256 (show agr [] [52] V251 V264 from (agr.up agr.rf hV264 rfl)) (by decide) (show agL [] L252 L252 from agL.rf) (by decide)
            have kd277 : gT.1 (mx254.2.1 0) = ((V251 6 9)).toInt := (RelC.kd rl276).trans (congrArg Int32.toInt (up2_o hV264 (by decide)))
            have hr278 : ∀ k, Rc gT (Crun gs (Icalled :: Irank :: IwhenI :: k)) (Crun mx254.2 (IwhenI :: k)) := fun k => Rc.go1 (hr260 k) (rank_n  (fun h9 => absurd (h9.symm.trans (kd277.trans f275)) (by decide)))
            have hr279 : ∀ k, Rc gT (Crun gs (Icalled :: Irank :: IwhenI :: k)) (Crun (nx mx254.2 1) (Isetting :: Inum 0 999999999 :: k)) := fun k => Rc.go1 (hr278 k) (when_y  (kd277.trans f275))
            have l8280 := RelC.l8 rl276
            have pq281 : (V264 6 8).toInt = ((V251 6 8)).toInt := congrArg Int32.toInt (up2_o hV264 (by decide))
            have r282 : 0 ≤ ((V251 6 8)).toInt ∧ ((V251 6 8)).toInt ≤ 4000 := hMV251 6 8
            have pq283 : (V264 6 7).toInt = ((V 6 7)).toInt := congrArg Int32.toInt ((up2_o hV264 (by decide)).trans (ajV251 6 7 rfl))
            have r284 : 0 ≤ ((V 6 7)).toInt ∧ ((V 6 7)).toInt ≤ 4000 := hMV 6 7
            have pq285 : (V264 6 9).toInt = ((V251 6 9)).toInt := congrArg Int32.toInt (up2_o hV264 (by decide))
            have lk286 := RelC.lk rl276 (show (V264 6 9).toInt ≠ 0 from by omega)
            refine gA_void (gA_runV (As := []) (rest := []) (ci := 9) (q0 := 6) hx hb hml hown hg hP hD hK hS hA hnw hgk (x_next2 l D ks H.size ad kk V264 L252 Z  hMV264 (show (V264 6 8).toInt ≤ (V264 6 7).toInt from by omega)) w871 w852 w853 w157 w854 rfl xgTape hdV_yX9_next ⟨Nat.le_of_ble_eq_true rfl, Nat.le_of_ble_eq_true rfl⟩ rfl hl.1 rfl (Nat.le_of_ble_eq_true rfl) dX1_readExtras_87 ⟨Nat.le_of_ble_eq_true rfl, Nat.le_of_ble_eq_true rfl⟩) hP hD hK hS hA (fun u288 H locs w289 hP hD hK hS => ?_)
            obtain ⟨V292, L293⟩ := u288
            obtain ⟨hMV292, ajV292, axL293, t290, t291⟩ := w289
            have alL293 : agL [6, 44] L L293 := agL.tr alL252 axL293 (by decide)
            have hP : va_P D vwCl (xw ad kk V292 L293 Z) H := hP
            have hD : va_D A (xw ad kk V292 L293 Z) := hD
            have hMV292 : rgd bX V292 := hMV292
            have ajV292 : agr [(6, 8), (6, 9), (6, 10)] [] V264 V292 := ajV292
            have agV292 : agr [(1, 3), (1, 6), (1, 8), (6, 8), (6, 9), (6, 10)] [43, 44, 52, 53, 54, 55] V V292 := agV264.tr ajV292 (by decide) (by decide)
            have t290 : (V292 6 8).toInt ≤ (V292 6 7).toInt := t290
            have t291 : CUR V292 L293 (Int32.toNatClampNeg (V264 6 8)) := t291
            have r294 : 0 ≤ ((V292 6 8)).toInt ∧ ((V292 6 8)).toInt ≤ 4000 := hMV292 6 8
            have pq295 : (V292 6 7).toInt = ((V 6 7)).toInt := congrArg Int32.toInt ((ajV292 6 7 rfl).trans ((up2_o hV264 (by decide)).trans (ajV251 6 7 rfl)))
            have rl296 : RelC V292 L293 b gT (nx mx254.2 1) := RelC.nx1 rl276 ajV292 (by decide) axL293 (by decide) (by rw [← lk286]; exact t291) (ajV292 1 3 rfl)
            refine lv_aload_n hx hb dX1_readExtras_90 rfl (lv_at hl 0 rfl) ?_
            have pq297 : (V292 1 1).toInt = ((V 1 1)).toInt := congrArg Int32.toInt ((ajV292 1 1 rfl).trans ((up2_o hV264 (by decide)).trans (ajV251 1 1 rfl)))
            refine gA_int (gA_runV (As := []) (rest := []) (ci := 1) (q0 := 1) hx hb hml hown hg hP hD hK hS hA hnw hgk (x_takeSetting3 l D ks H.size ad kk V292 L293 Z (b) (gT) ((nx mx254.2 1)) hMV292 (show b < 2 from by omega) (show (V292 1 1).toInt = (b : Int) from by omega) rl296) w931 w933 w17 w162 w934 rfl xgReader hdV_yX1_takeSetting ⟨Nat.le_of_ble_eq_true rfl, Nat.le_of_ble_eq_true rfl⟩ rfl hl.1 rfl (Nat.le_of_ble_eq_true rfl) dX1_readExtras_91 ⟨Nat.le_of_ble_eq_true rfl, Nat.le_of_ble_eq_true rfl⟩) hP hD hK hS hA (fun z298 u299 H locs w300 hP hD hK hS => ?_)
            obtain ⟨V302, L303⟩ := u299
            obtain ⟨hMV302, ajV302, axL303, rgz298, t301⟩ := w300
            have alL303 : agL [6, 44] L L303 := agL.tr alL293 axL303 (by decide)
            have hP : va_P D vwCl (xw ad kk V302 L303 Z) H := hP
            have hD : va_D A (xw ad kk V302 L303 Z) := hD
            have hMV302 : rgd bX V302 := hMV302
            have ajV302 : agr [(1, 3), (1, 6), (6, 8), (6, 9), (6, 10)] [] V292 V302 := ajV302
            have agV302 : agr [(1, 3), (1, 6), (1, 8), (6, 8), (6, 9), (6, 10)] [43, 44, 52, 53, 54, 55] V V302 := agV292.tr ajV302 (by decide) (by decide)
            have rgz298 : 0 ≤ z298.toInt ∧ z298.toInt ≤ 1 := rgz298
            have t301 : KcN (look gT (nx mx254.2 1) ((nx mx254.2 1).2.1 1)) z298.toInt (V302 1 3).toInt (fun f9 => RelC V302 L303 b gT (nx (nx mx254.2 1) 1) ∧ (V302 1 6).toInt = ((f9 : Nat) : Int) ∧ f9 < 12) := t301
            rcases t301 with ⟨q304, fx305, h306, rl307, hf308, hb309⟩ | ⟨q304, h306⟩
            · skip
              have hr310 : ∀ k, Rc gT (Crun gs (Icalled :: Irank :: IwhenI :: k)) (Crun (nx (nx mx254.2 1) 1) (Inum 0 999999999 :: k)) := fun k => Rc.go1 (hr279 k) (se_y h306)
              refine lv_if_ne (tgt := 99) hx hb dX1_readExtras_94 (by decide) (fun c311 => ?_) (fun c311 => ?_)
              · skip
                have f312 : z298.toInt ≠ 0 := b_neq rfl (by decide) c311
                refine lv_aload_n hx hb dX1_readExtras_99 rfl (lv_at hl 1 rfl) ?_
                refine lv_aload_n hx hb dX1_readExtras_100 rfl (lv_at hl 0 rfl) ?_
                refine va_get (D := D) (ci := 1) (v := .int (V302 1 6)) (fs := (xfReader ad V302 L303 Z)) (C := RX1) (T := TX1) (N := 9) hx hb hg inX1 hown hK hP 1 xgReader rfl 6 (by decide) (hg _ w310) (fun _ h9 => h9) rfl dX1_readExtras_101 ?_
                have r313 : (-1) ≤ ((V302 1 6)).toInt ∧ ((V302 1 6)).toInt ≤ 23 := hMV302 1 6
                refine va_putN (D := D) (ci := 3) (v := .int (V302 1 6)) (ty := tyX3 9) (fs := (xfComp ad V302 gi)) (C := RX3) (T := TX3) (N := 13) hx hb hg inX3 tyX3 tyX3_ok nmX3 hown hK hP hD hS (72 + gi) (xgComp hgi) rfl 9 (by decide) (hnw.use 533 n533 rfl) (fun _ h9 => h9) rfl (tyX3_ok 9 (by decide)) rfl rfl (Nat.le_of_ble_eq_true rfl) dX1_readExtras_104 (fun H locs hP hD hS => ?_)
                obtain ⟨V314, hV314⟩ : ∃ z, z = up2 V302 54 gi (V302 1 6) := ⟨_, rfl⟩
                have ew315 : (xw ad kk V302 L303 Z).set (72 + gi) ((ad (72 + gi)), .inr (3, (xfComp ad V302 gi).set 9 (.int (V302 1 6)))) = xw ad kk V314 L303 Z := by rw [hV314]; exact xpComp_whenSetting hgi
                have hP : va_P D vwCl (xw ad kk V314 L303 Z) H := by rw [← ew315]; exact hP
                have hD : va_D A (xw ad kk V314 L303 Z) := by rw [← ew315]; exact hD
                have hMV314 : rgd bX V314 := hMV302.put hV314 (show (-1) ≤ ((V302 1 6)).toInt ∧ ((V302 1 6)).toInt ≤ 11 from by omega)
                have agV314 : agr [(1, 3), (1, 6), (1, 8), (6, 8), (6, 9), (6, 10)] [43, 44, 52, 53, 54, 55] V V314 := agV302.up hV314 rfl
                refine lv_aload_n hx hb dX1_readExtras_107 rfl (lv_at hl 0 rfl) ?_
                refine lv_iconst (v := 0) hx hb dX1_readExtras_108 (by decide) ?_
                refine lv_ldc (v := 999999999) hx hb hown (hg _ w905) dX1_readExtras_109 ?_
                have rl316 : RelC V314 L303 b gT (nx (nx mx254.2 1) 1) := RelC.ag rl307 (show agr [] [54] V302 V314 from (agr.up agr.rf hV314 rfl)) (by decide) (show agL [] L303 L303 from agL.rf) (by decide)
                have r317 : Int32.toInt 0 = 0 := by decide
                have r318 : Int32.toInt 999999999 = 999999999 := by decide
                refine gA_int (gA_runV (As := [.int 0, .int 999999999]) (rest := []) (ci := 1) (q0 := 1) hx hb hml hown hg hP hD hK hS hA hnw hgk (x_takeNumber2 l D ks H.size ad kk V314 L303 Z 0 999999999 (((nx (nx mx254.2 1) 1).1 0)) hMV314 (rl316).1 (rl316).2.1.1 (show 0 ≤ (Int32.toInt 0) from by omega) (show (Int32.toInt 999999999) ≤ 999999999 from by omega)) w906 w908 w12 w162 w909 rfl xgReader hdV_yX1_takeNumber ⟨Nat.le_of_ble_eq_true rfl, Nat.le_of_ble_eq_true rfl⟩ rfl hl.1 rfl (Nat.le_of_ble_eq_true rfl) dX1_readExtras_111 ⟨Nat.le_of_ble_eq_true rfl, Nat.le_of_ble_eq_true rfl⟩) hP hD hK hS hA (fun z319 u320 H locs w321 hP hD hK hS => ?_)
                obtain ⟨V325, L326⟩ := u320
                obtain ⟨hMV325, ajV325, axL326, rgz319, t322, t323, t324⟩ := w321
                have alL326 : agL [6, 44] L L326 := agL.tr alL303 axL326 (by decide)
                have hP : va_P D vwCl (xw ad kk V325 L326 Z) H := hP
                have hD : va_D A (xw ad kk V325 L326 Z) := hD
                have hMV325 : rgd bX V325 := hMV325
                have ajV325 : agr [(1, 3), (1, 8), (6, 8), (6, 9), (6, 10)] [] V314 V325 := ajV325
                have agV325 : agr [(1, 3), (1, 6), (1, 8), (6, 8), (6, 9), (6, 10)] [43, 44, 52, 53, 54, 55] V V325 := agV314.tr ajV325 (by decide) (by decide)
                have rgz319 : 0 ≤ z319.toInt ∧ z319.toInt ≤ 1 := rgz319
                have t322 : Imp (z319.toInt = 1) ((Int32.toInt 0) ≤ (V325 1 8).toInt ∧ (V325 1 8).toInt ≤ (Int32.toInt 999999999)) := t322
                have t323 : Imp (z319.toInt = 0) (1 ≤ (V325 1 3).toInt) := t323
                have t324 : (z319.toInt = 1 ∧ (V314 12 ((nx (nx mx254.2 1) 1).1 0)).toInt = 2 ∧ (Int32.toInt 0) ≤ (L303 14 ((nx (nx mx254.2 1) 1).1 0)).toInt ∧ (L303 14 ((nx (nx mx254.2 1) 1).1 0)).toInt ≤ (Int32.toInt 999999999) ∧ CUR V325 L326 (((nx (nx mx254.2 1) 1).1 0) + 1) ∧ (V325 1 8).toInt = (L303 14 ((nx (nx mx254.2 1) 1).1 0)).toInt ∧ V325 1 3 = V314 1 3) ∨ (z319.toInt = 0 ∧ (((V314 12 ((nx (nx mx254.2 1) 1).1 0)).toInt ≠ 2 ∧ (V325 1 3).toInt = 1 + 16 * (V314 13 ((nx (nx mx254.2 1) 1).1 0)).toInt) ∨ ((V314 12 ((nx (nx mx254.2 1) 1).1 0)).toInt = 2 ∧ ((L303 14 ((nx (nx mx254.2 1) 1).1 0)).toInt < (Int32.toInt 0) ∨ (Int32.toInt 999999999) < (L303 14 ((nx (nx mx254.2 1) 1).1 0)).toInt) ∧ (V325 1 3).toInt = 4 + 16 * (V314 13 ((nx (nx mx254.2 1) 1).1 0)).toInt))) := t324
                have r327 : 0 ≤ ((V325 1 8)).toInt ∧ ((V325 1 8)).toInt ≤ 999999999 := hMV325 1 8
                have nv335 := congrArg Int64.toInt rl316.tok.2.1
                rcases t324 with ⟨q328, h329, h330, h331, k332, k333, k334⟩ | ⟨q328, ⟨h329, k332⟩ | ⟨h329, h330, k332⟩⟩
                · skip
                  have rl336 : RelC V325 L326 b gT (nx (nx (nx mx254.2 1) 1) 1) := RelC.nx1 rl316 ajV325 (by decide) axL326 (by decide) k332 k334
                  have hr337 : ∀ k, Rc gT (Crun gs (Icalled :: Irank :: IwhenI :: k)) (Crun (nx (nx (nx mx254.2 1) 1) 1) (k)) := fun k => Rc.go1 (hr310 k) (nm_y (rl316.tok.1.trans h329) (by omega) (by omega))
                  refine lv_if_ne (tgt := 119) hx hb dX1_readExtras_114 (by decide) (fun c338 => ?_) (fun c338 => ?_)
                  · skip
                    have f339 : z319.toInt ≠ 0 := b_neq rfl (by decide) c338
                    refine lv_aload_n hx hb dX1_readExtras_119 rfl (lv_at hl 1 rfl) ?_
                    refine lv_aload_n hx hb dX1_readExtras_120 rfl (lv_at hl 0 rfl) ?_
                    refine va_get (D := D) (ci := 1) (v := .int (V325 1 8)) (fs := (xfReader ad V325 L326 Z)) (C := RX1) (T := TX1) (N := 9) hx hb hg inX1 hown hK hP 1 xgReader rfl 8 (by decide) (hg _ w312) (fun _ h9 => h9) rfl dX1_readExtras_121 ?_
                    refine va_putN (D := D) (ci := 3) (v := .int (V325 1 8)) (ty := tyX3 10) (fs := (xfComp ad V325 gi)) (C := RX3) (T := TX3) (N := 13) hx hb hg inX3 tyX3 tyX3_ok nmX3 hown hK hP hD hS (72 + gi) (xgComp hgi) rfl 10 (by decide) (hnw.use 536 n536 rfl) (fun _ h9 => h9) rfl (tyX3_ok 10 (by decide)) rfl rfl (Nat.le_of_ble_eq_true rfl) dX1_readExtras_124 (fun H locs hP hD hS => ?_)
                    obtain ⟨V340, hV340⟩ : ∃ z, z = up2 V325 55 gi (V325 1 8) := ⟨_, rfl⟩
                    have ew341 : (xw ad kk V325 L326 Z).set (72 + gi) ((ad (72 + gi)), .inr (3, (xfComp ad V325 gi).set 10 (.int (V325 1 8)))) = xw ad kk V340 L326 Z := by rw [hV340]; exact xpComp_whenValue hgi
                    have hP : va_P D vwCl (xw ad kk V340 L326 Z) H := by rw [← ew341]; exact hP
                    have hD : va_D A (xw ad kk V340 L326 Z) := by rw [← ew341]; exact hD
                    have hMV340 : rgd bX V340 := hMV325.put hV340 (i_full _)
                    have agV340 : agr [(1, 3), (1, 6), (1, 8), (6, 8), (6, 9), (6, 10)] [43, 44, 52, 53, 54, 55] V V340 := agV325.up hV340 rfl
                    refine lv_iconst (v := 1) hx hb dX1_readExtras_127 (by decide) ?_
                    have rl342 : RelC V340 L326 b gT (nx (nx (nx mx254.2 1) 1) 1) := RelC.ag rl336 (show agr [] [55] V325 V340 from (agr.up agr.rf hV340 rfl)) (by decide) (show agL [] L326 L326 from agL.rf) (by decide)
                    have rw343 : ROWL b L L326 := (fun k hk => ((axL326 44 k rfl).trans ((axL303 44 k rfl).trans ((axL293 44 k rfl).trans ((t250 k hk).trans rfl)))))
                    exact W.zret (v := 1) hx hb hr rfl (fun t ht hW => ⟨⟨1, (V340, L326), rfl, ⟨hMV340, agV340, alL326, (by decide), (Or.inl ⟨rfl, (nx (nx (nx mx254.2 1) 1) 1), hr337, rl342, keepS.le (keepS.tr (keepS.tr (keepS.tr (keepS.tr (keepS.rf : keepS gs 0 gs) kp259) (keepS.n1 1)) (keepS.n1 1)) (keepS.n1 1)) (by decide)⟩), rw343⟩, by rw [ht]; exact hP, va_K.moved hW.alike hK, hD⟩, hS.F ht⟩) hS.2.2 dX1_readExtras_128
                  · skip
                    have f344 : z319.toInt = 0 := b_eq rfl (by decide) c338
                    exfalso; first | omega | ((try (have i_t323 := Imp.go t323 (by omega))); (try (have i_t322 := Imp.go t322 (by omega))); (try (have i_t322 := Imp.go t322 (by omega))); (try (have i_t323 := Imp.go t323 (by omega))); omega)
                · skip
                  have hb345 : ∀ k, Rc gT (Crun gs (Icalled :: Irank :: IwhenI :: k)) (Cbad (V325 1 3).toInt) := fun k => Rc.go1 (hr310 k) ((nm_1 (fun h9 => h329 (rl316.tok.1.symm.trans h9))).trans (fl_eq rl316.tok.2.2 k332))
                  refine lv_if_ne (tgt := 119) hx hb dX1_readExtras_114 (by decide) (fun c346 => ?_) (fun c346 => ?_)
                  · skip
                    have f347 : z319.toInt ≠ 0 := b_neq rfl (by decide) c346
                    exfalso; first | omega | ((try (have i_t323 := Imp.go t323 (by omega))); (try (have i_t322 := Imp.go t322 (by omega))); (try (have i_t322 := Imp.go t322 (by omega))); (try (have i_t323 := Imp.go t323 (by omega))); omega)
                  · skip
                    have f348 : z319.toInt = 0 := b_eq rfl (by decide) c346
                    refine lv_iconst (v := 0) hx hb dX1_readExtras_117 (by decide) ?_
                    have rw349 : ROWL b L L326 := (fun k hk => ((axL326 44 k rfl).trans ((axL303 44 k rfl).trans ((axL293 44 k rfl).trans ((t250 k hk).trans rfl)))))
                    exact W.zret (v := 0) hx hb hr rfl (fun t ht hW => ⟨⟨0, (V325, L326), rfl, ⟨hMV325, agV325, alL326, (by decide), (Or.inr ⟨rfl, hb345⟩), rw349⟩, by rw [ht]; exact hP, va_K.moved hW.alike hK, hD⟩, hS.F ht⟩) hS.2.2 dX1_readExtras_118
                · skip
                  have hb350 : ∀ k, Rc gT (Crun gs (Icalled :: Irank :: IwhenI :: k)) (Cbad (V325 1 3).toInt) := fun k => Rc.go1 (hr310 k) ((nm_4 (rl316.tok.1.trans h329) (by omega)).trans (fl_eq rl316.tok.2.2 k332))
                  refine lv_if_ne (tgt := 119) hx hb dX1_readExtras_114 (by decide) (fun c351 => ?_) (fun c351 => ?_)
                  · skip
                    have f352 : z319.toInt ≠ 0 := b_neq rfl (by decide) c351
                    exfalso; first | omega | ((try (have i_t323 := Imp.go t323 (by omega))); (try (have i_t322 := Imp.go t322 (by omega))); (try (have i_t322 := Imp.go t322 (by omega))); (try (have i_t323 := Imp.go t323 (by omega))); omega)
                  · skip
                    have f353 : z319.toInt = 0 := b_eq rfl (by decide) c351
                    refine lv_iconst (v := 0) hx hb dX1_readExtras_117 (by decide) ?_
                    have rw354 : ROWL b L L326 := (fun k hk => ((axL326 44 k rfl).trans ((axL303 44 k rfl).trans ((axL293 44 k rfl).trans ((t250 k hk).trans rfl)))))
                    exact W.zret (v := 0) hx hb hr rfl (fun t ht hW => ⟨⟨0, (V325, L326), rfl, ⟨hMV325, agV325, alL326, (by decide), (Or.inr ⟨rfl, hb350⟩), rw354⟩, by rw [ht]; exact hP, va_K.moved hW.alike hK, hD⟩, hS.F ht⟩) hS.2.2 dX1_readExtras_118
              · skip
                have f355 : z298.toInt = 0 := b_eq rfl (by decide) c311
                exfalso; omega
            · skip
              have hb356 : ∀ k, Rc gT (Crun gs (Icalled :: Irank :: IwhenI :: k)) (Cbad (V302 1 3).toInt) := fun k => Rc.go1 (hr279 k) (se_b h306)
              refine lv_if_ne (tgt := 99) hx hb dX1_readExtras_94 (by decide) (fun c357 => ?_) (fun c357 => ?_)
              · skip
                have f358 : z298.toInt ≠ 0 := b_neq rfl (by decide) c357
                exfalso; omega
              · skip
                have f359 : z298.toInt = 0 := b_eq rfl (by decide) c357
                refine lv_iconst (v := 0) hx hb dX1_readExtras_97 (by decide) ?_
                have rw360 : ROWL b L L303 := (fun k hk => ((axL303 44 k rfl).trans ((axL293 44 k rfl).trans ((t250 k hk).trans rfl))))
                exact W.zret (v := 0) hx hb hr rfl (fun t ht hW => ⟨⟨0, (V302, L303), rfl, ⟨hMV302, agV302, alL303, (by decide), (Or.inr ⟨rfl, hb356⟩), rw360⟩, by rw [ht]; exact hP, va_K.moved hW.alike hK, hD⟩, hS.F ht⟩) hS.2.2 dX1_readExtras_98
        · skip
          have f361 : ((V251 6 9)).toInt = 134 := b_eq rfl (by decide) c266
          refine lv_aload_n hx hb dX1_readExtras_43 rfl (lv_at hl 0 rfl) ?_
          refine va_get (D := D) (ci := 1) (v := .ref (ad 6)) (fs := (xfReader ad V264 L252 Z)) (C := RX1) (T := TX1) (N := 9) hx hb hg inX1 hown hK hP 1 xgReader rfl 0 (by decide) (hg _ w304) (fun _ h9 => h9) rfl dX1_readExtras_44 ?_
          have rl362 : RelC V264 L252 b gT mx254.2 := RelC.ag rl256 (show agr [] [52] V251 V264 from (agr.up agr.rf hV264 rfl)) (by decide) (show agL [] L252 L252 from agL.rf) (by decide)
          have kd363 : gT.1 (mx254.2.1 0) = ((V251 6 9)).toInt := (RelC.kd rl362).trans (congrArg Int32.toInt (up2_o hV264 (by decide)))
          have hr364 : ∀ k, Rc gT (Crun gs (Icalled :: Irank :: IwhenI :: k)) (Crun (nx mx254.2 1) (Inum 0 9 :: IwhenI :: k)) := fun k => Rc.go1 (hr260 k) (rank_y  (kd363.trans f361))
          have l8365 := RelC.l8 rl362
          have pq366 : (V264 6 8).toInt = ((V251 6 8)).toInt := congrArg Int32.toInt (up2_o hV264 (by decide))
          have r367 : 0 ≤ ((V251 6 8)).toInt ∧ ((V251 6 8)).toInt ≤ 4000 := hMV251 6 8
          have pq368 : (V264 6 7).toInt = ((V 6 7)).toInt := congrArg Int32.toInt ((up2_o hV264 (by decide)).trans (ajV251 6 7 rfl))
          have r369 : 0 ≤ ((V 6 7)).toInt ∧ ((V 6 7)).toInt ≤ 4000 := hMV 6 7
          have pq370 : (V264 6 9).toInt = ((V251 6 9)).toInt := congrArg Int32.toInt (up2_o hV264 (by decide))
          have lk371 := RelC.lk rl362 (show (V264 6 9).toInt ≠ 0 from by omega)
          refine gA_void (gA_runV (As := []) (rest := []) (ci := 9) (q0 := 6) hx hb hml hown hg hP hD hK hS hA hnw hgk (x_next2 l D ks H.size ad kk V264 L252 Z  hMV264 (show (V264 6 8).toInt ≤ (V264 6 7).toInt from by omega)) w871 w852 w853 w157 w854 rfl xgTape hdV_yX9_next ⟨Nat.le_of_ble_eq_true rfl, Nat.le_of_ble_eq_true rfl⟩ rfl hl.1 rfl (Nat.le_of_ble_eq_true rfl) dX1_readExtras_47 ⟨Nat.le_of_ble_eq_true rfl, Nat.le_of_ble_eq_true rfl⟩) hP hD hK hS hA (fun u373 H locs w374 hP hD hK hS => ?_)
          obtain ⟨V377, L378⟩ := u373
          obtain ⟨hMV377, ajV377, axL378, t375, t376⟩ := w374
          have alL378 : agL [6, 44] L L378 := agL.tr alL252 axL378 (by decide)
          have hP : va_P D vwCl (xw ad kk V377 L378 Z) H := hP
          have hD : va_D A (xw ad kk V377 L378 Z) := hD
          have hMV377 : rgd bX V377 := hMV377
          have ajV377 : agr [(6, 8), (6, 9), (6, 10)] [] V264 V377 := ajV377
          have agV377 : agr [(1, 3), (1, 6), (1, 8), (6, 8), (6, 9), (6, 10)] [43, 44, 52, 53, 54, 55] V V377 := agV264.tr ajV377 (by decide) (by decide)
          have t375 : (V377 6 8).toInt ≤ (V377 6 7).toInt := t375
          have t376 : CUR V377 L378 (Int32.toNatClampNeg (V264 6 8)) := t376
          have r379 : 0 ≤ ((V377 6 8)).toInt ∧ ((V377 6 8)).toInt ≤ 4000 := hMV377 6 8
          have pq380 : (V377 6 7).toInt = ((V 6 7)).toInt := congrArg Int32.toInt ((ajV377 6 7 rfl).trans ((up2_o hV264 (by decide)).trans (ajV251 6 7 rfl)))
          have rl381 : RelC V377 L378 b gT (nx mx254.2 1) := RelC.nx1 rl362 ajV377 (by decide) axL378 (by decide) (by rw [← lk371]; exact t376) (ajV377 1 3 rfl)
          refine lv_aload_n hx hb dX1_readExtras_50 rfl (lv_at hl 0 rfl) ?_
          refine lv_iconst (v := 0) hx hb dX1_readExtras_51 (by decide) ?_
          refine lv_bipush (v := 9) hx hb dX1_readExtras_52 (by decide) ?_
          have r382 : Int32.toInt 0 = 0 := by decide
          have r383 : Int32.toInt 9 = 9 := by decide
          refine gA_int (gA_runV (As := [.int 0, .int 9]) (rest := []) (ci := 1) (q0 := 1) hx hb hml hown hg hP hD hK hS hA hnw hgk (x_takeNumber2 l D ks H.size ad kk V377 L378 Z 0 9 (((nx mx254.2 1).1 0)) hMV377 (rl381).1 (rl381).2.1.1 (show 0 ≤ (Int32.toInt 0) from by omega) (show (Int32.toInt 9) ≤ 999999999 from by omega)) w906 w908 w12 w162 w909 rfl xgReader hdV_yX1_takeNumber ⟨Nat.le_of_ble_eq_true rfl, Nat.le_of_ble_eq_true rfl⟩ rfl hl.1 rfl (Nat.le_of_ble_eq_true rfl) dX1_readExtras_54 ⟨Nat.le_of_ble_eq_true rfl, Nat.le_of_ble_eq_true rfl⟩) hP hD hK hS hA (fun z384 u385 H locs w386 hP hD hK hS => ?_)
          obtain ⟨V390, L391⟩ := u385
          obtain ⟨hMV390, ajV390, axL391, rgz384, t387, t388, t389⟩ := w386
          have alL391 : agL [6, 44] L L391 := agL.tr alL378 axL391 (by decide)
          have hP : va_P D vwCl (xw ad kk V390 L391 Z) H := hP
          have hD : va_D A (xw ad kk V390 L391 Z) := hD
          have hMV390 : rgd bX V390 := hMV390
          have ajV390 : agr [(1, 3), (1, 8), (6, 8), (6, 9), (6, 10)] [] V377 V390 := ajV390
          have agV390 : agr [(1, 3), (1, 6), (1, 8), (6, 8), (6, 9), (6, 10)] [43, 44, 52, 53, 54, 55] V V390 := agV377.tr ajV390 (by decide) (by decide)
          have rgz384 : 0 ≤ z384.toInt ∧ z384.toInt ≤ 1 := rgz384
          have t387 : Imp (z384.toInt = 1) ((Int32.toInt 0) ≤ (V390 1 8).toInt ∧ (V390 1 8).toInt ≤ (Int32.toInt 9)) := t387
          have t388 : Imp (z384.toInt = 0) (1 ≤ (V390 1 3).toInt) := t388
          have t389 : (z384.toInt = 1 ∧ (V377 12 ((nx mx254.2 1).1 0)).toInt = 2 ∧ (Int32.toInt 0) ≤ (L378 14 ((nx mx254.2 1).1 0)).toInt ∧ (L378 14 ((nx mx254.2 1).1 0)).toInt ≤ (Int32.toInt 9) ∧ CUR V390 L391 (((nx mx254.2 1).1 0) + 1) ∧ (V390 1 8).toInt = (L378 14 ((nx mx254.2 1).1 0)).toInt ∧ V390 1 3 = V377 1 3) ∨ (z384.toInt = 0 ∧ (((V377 12 ((nx mx254.2 1).1 0)).toInt ≠ 2 ∧ (V390 1 3).toInt = 1 + 16 * (V377 13 ((nx mx254.2 1).1 0)).toInt) ∨ ((V377 12 ((nx mx254.2 1).1 0)).toInt = 2 ∧ ((L378 14 ((nx mx254.2 1).1 0)).toInt < (Int32.toInt 0) ∨ (Int32.toInt 9) < (L378 14 ((nx mx254.2 1).1 0)).toInt) ∧ (V390 1 3).toInt = 4 + 16 * (V377 13 ((nx mx254.2 1).1 0)).toInt))) := t389
          have r392 : 0 ≤ ((V390 1 8)).toInt ∧ ((V390 1 8)).toInt ≤ 999999999 := hMV390 1 8
          have nv400 := congrArg Int64.toInt rl381.tok.2.1
          rcases t389 with ⟨q393, h394, h395, h396, k397, k398, k399⟩ | ⟨q393, ⟨h394, k397⟩ | ⟨h394, h395, k397⟩⟩
          · skip
            have rl401 : RelC V390 L391 b gT (nx (nx mx254.2 1) 1) := RelC.nx1 rl381 ajV390 (by decide) axL391 (by decide) k397 k399
            have hr402 : ∀ k, Rc gT (Crun gs (Icalled :: Irank :: IwhenI :: k)) (Crun (nx (nx mx254.2 1) 1) (IwhenI :: k)) := fun k => Rc.go1 (hr364 k) (nm_y (rl381.tok.1.trans h394) (by omega) (by omega))
            refine lv_if_ne (tgt := 62) hx hb dX1_readExtras_57 (by decide) (fun c403 => ?_) (fun c403 => ?_)
            · skip
              have f404 : z384.toInt ≠ 0 := b_neq rfl (by decide) c403
              refine lv_aload_n hx hb dX1_readExtras_62 rfl (lv_at hl 1 rfl) ?_
              refine lv_aload_n hx hb dX1_readExtras_63 rfl (lv_at hl 0 rfl) ?_
              refine va_get (D := D) (ci := 1) (v := .int (V390 1 8)) (fs := (xfReader ad V390 L391 Z)) (C := RX1) (T := TX1) (N := 9) hx hb hg inX1 hown hK hP 1 xgReader rfl 8 (by decide) (hg _ w312) (fun _ h9 => h9) rfl dX1_readExtras_64 ?_
              refine va_putN (D := D) (ci := 3) (v := .int (V390 1 8)) (ty := tyX3 8) (fs := (xfComp ad V390 gi)) (C := RX3) (T := TX3) (N := 13) hx hb hg inX3 tyX3 tyX3_ok nmX3 hown hK hP hD hS (72 + gi) (xgComp hgi) rfl 8 (by decide) (hnw.use 528 n528 rfl) (fun _ h9 => h9) rfl (tyX3_ok 8 (by decide)) rfl rfl (Nat.le_of_ble_eq_true rfl) dX1_readExtras_67 (fun H locs hP hD hS => ?_)
              obtain ⟨V405, hV405⟩ : ∃ z, z = up2 V390 53 gi (V390 1 8) := ⟨_, rfl⟩
              have ew406 : (xw ad kk V390 L391 Z).set (72 + gi) ((ad (72 + gi)), .inr (3, (xfComp ad V390 gi).set 8 (.int (V390 1 8)))) = xw ad kk V405 L391 Z := by rw [hV405]; exact xpComp_rank hgi
              have hP : va_P D vwCl (xw ad kk V405 L391 Z) H := by rw [← ew406]; exact hP
              have hD : va_D A (xw ad kk V405 L391 Z) := by rw [← ew406]; exact hD
              have hMV405 : rgd bX V405 := hMV390.put hV405 (i_full _)
              have agV405 : agr [(1, 3), (1, 6), (1, 8), (6, 8), (6, 9), (6, 10)] [43, 44, 52, 53, 54, 55] V V405 := agV390.up hV405 rfl
              refine lv_aload_n hx hb dX1_readExtras_70 rfl (lv_at hl 0 rfl) ?_
              refine va_get (D := D) (ci := 1) (v := .ref (ad 6)) (fs := (xfReader ad V405 L391 Z)) (C := RX1) (T := TX1) (N := 9) hx hb hg inX1 hown hK hP 1 xgReader rfl 0 (by decide) (hg _ w304) (fun _ h9 => h9) rfl dX1_readExtras_71 ?_
              refine va_getN (D := D) (ci := 9) (v := .int (V405 6 9)) (fs := (xfTape ad V405 L391 Z)) (C := RX9) (T := TX9) (N := 12) hx hb hg inX9 hown hK hP 6 xgTape rfl 9 (by decide) (hnw.use 262 n262 rfl) (fun _ h9 => h9) rfl dX1_readExtras_74 ?_
              refine g_top (v := (V390 6 9)) (up2_o hV405 (by decide)) ?_
              refine lv_sipush (v := 135) hx hb dX1_readExtras_77 (by decide) ?_
              refine lv_icmp_ne (tgt := 127) hx hb dX1_readExtras_80 (by decide) (fun c407 => ?_) (fun c407 => ?_)
              · skip
                have f408 : ((V390 6 9)).toInt ≠ 135 := b_neq rfl (by decide) c407
                refine lv_iconst (v := 1) hx hb dX1_readExtras_127 (by decide) ?_
                have rl409 : RelC V405 L391 b gT (nx (nx mx254.2 1) 1) := RelC.ag rl401 (show agr [] [53] V390 V405 from (agr.up agr.rf hV405 rfl)) (by decide) (show agL [] L391 L391 from agL.rf) (by decide)
                have kd410 : gT.1 ((nx (nx mx254.2 1) 1).1 0) = ((V390 6 9)).toInt := (RelC.kd rl409).trans (congrArg Int32.toInt (up2_o hV405 (by decide)))
                have hr411 : ∀ k, Rc gT (Crun gs (Icalled :: Irank :: IwhenI :: k)) (Crun (nx (nx mx254.2 1) 1) (k)) := fun k => Rc.go1 (hr402 k) (when_n  (fun h9 => f408 (kd410.symm.trans h9)))
                have rw412 : ROWL b L L391 := (fun k hk => ((axL391 44 k rfl).trans ((axL378 44 k rfl).trans ((t250 k hk).trans rfl))))
                exact W.zret (v := 1) hx hb hr rfl (fun t ht hW => ⟨⟨1, (V405, L391), rfl, ⟨hMV405, agV405, alL391, (by decide), (Or.inl ⟨rfl, (nx (nx mx254.2 1) 1), hr411, rl409, keepS.le (keepS.tr (keepS.tr (keepS.tr (keepS.rf : keepS gs 0 gs) kp259) (keepS.n1 1)) (keepS.n1 1)) (by decide)⟩), rw412⟩, by rw [ht]; exact hP, va_K.moved hW.alike hK, hD⟩, hS.F ht⟩) hS.2.2 dX1_readExtras_128
              · skip
                have f413 : ((V390 6 9)).toInt = 135 := b_eq rfl (by decide) c407
                refine lv_aload_n hx hb dX1_readExtras_83 rfl (lv_at hl 0 rfl) ?_
                refine va_get (D := D) (ci := 1) (v := .ref (ad 6)) (fs := (xfReader ad V405 L391 Z)) (C := RX1) (T := TX1) (N := 9) hx hb hg inX1 hown hK hP 1 xgReader rfl 0 (by decide) (hg _ w304) (fun _ h9 => h9) rfl dX1_readExtras_84 ?_
                have rl414 : RelC V405 L391 b gT (nx (nx mx254.2 1) 1) := RelC.ag rl401 (show agr [] [53] V390 V405 from (agr.up agr.rf hV405 rfl)) (by decide) (show agL [] L391 L391 from agL.rf) (by decide)
                have kd415 : gT.1 ((nx (nx mx254.2 1) 1).1 0) = ((V390 6 9)).toInt := (RelC.kd rl414).trans (congrArg Int32.toInt (up2_o hV405 (by decide)))
                have hr416 : ∀ k, Rc gT (Crun gs (Icalled :: Irank :: IwhenI :: k)) (Crun (nx (nx (nx mx254.2 1) 1) 1) (Isetting :: Inum 0 999999999 :: k)) := fun k => Rc.go1 (hr402 k) (when_y  (kd415.trans f413))
                have l8417 := RelC.l8 rl414
                have pq418 : (V405 6 8).toInt = ((V390 6 8)).toInt := congrArg Int32.toInt (up2_o hV405 (by decide))
                have r419 : 0 ≤ ((V390 6 8)).toInt ∧ ((V390 6 8)).toInt ≤ 4000 := hMV390 6 8
                have pq420 : (V405 6 7).toInt = ((V 6 7)).toInt := congrArg Int32.toInt ((up2_o hV405 (by decide)).trans ((ajV390 6 7 rfl).trans ((ajV377 6 7 rfl).trans ((up2_o hV264 (by decide)).trans (ajV251 6 7 rfl)))))
                have pq421 : (V405 6 9).toInt = ((V390 6 9)).toInt := congrArg Int32.toInt (up2_o hV405 (by decide))
                have lk422 := RelC.lk rl414 (show (V405 6 9).toInt ≠ 0 from by omega)
                refine gA_void (gA_runV (As := []) (rest := []) (ci := 9) (q0 := 6) hx hb hml hown hg hP hD hK hS hA hnw hgk (x_next2 l D ks H.size ad kk V405 L391 Z  hMV405 (show (V405 6 8).toInt ≤ (V405 6 7).toInt from by first | omega | ((try (have i_t388 := Imp.go t388 (by omega))); (try (have i_t387 := Imp.go t387 (by omega))); (try (have i_t387 := Imp.go t387 (by omega))); (try (have i_t388 := Imp.go t388 (by omega))); omega))) w871 w852 w853 w157 w854 rfl xgTape hdV_yX9_next ⟨Nat.le_of_ble_eq_true rfl, Nat.le_of_ble_eq_true rfl⟩ rfl hl.1 rfl (Nat.le_of_ble_eq_true rfl) dX1_readExtras_87 ⟨Nat.le_of_ble_eq_true rfl, Nat.le_of_ble_eq_true rfl⟩) hP hD hK hS hA (fun u424 H locs w425 hP hD hK hS => ?_)
                obtain ⟨V428, L429⟩ := u424
                obtain ⟨hMV428, ajV428, axL429, t426, t427⟩ := w425
                have alL429 : agL [6, 44] L L429 := agL.tr alL391 axL429 (by decide)
                have hP : va_P D vwCl (xw ad kk V428 L429 Z) H := hP
                have hD : va_D A (xw ad kk V428 L429 Z) := hD
                have hMV428 : rgd bX V428 := hMV428
                have ajV428 : agr [(6, 8), (6, 9), (6, 10)] [] V405 V428 := ajV428
                have agV428 : agr [(1, 3), (1, 6), (1, 8), (6, 8), (6, 9), (6, 10)] [43, 44, 52, 53, 54, 55] V V428 := agV405.tr ajV428 (by decide) (by decide)
                have t426 : (V428 6 8).toInt ≤ (V428 6 7).toInt := t426
                have t427 : CUR V428 L429 (Int32.toNatClampNeg (V405 6 8)) := t427
                have r430 : 0 ≤ ((V428 6 8)).toInt ∧ ((V428 6 8)).toInt ≤ 4000 := hMV428 6 8
                have pq431 : (V428 6 7).toInt = ((V 6 7)).toInt := congrArg Int32.toInt ((ajV428 6 7 rfl).trans ((up2_o hV405 (by decide)).trans ((ajV390 6 7 rfl).trans ((ajV377 6 7 rfl).trans ((up2_o hV264 (by decide)).trans (ajV251 6 7 rfl))))))
                have rl432 : RelC V428 L429 b gT (nx (nx (nx mx254.2 1) 1) 1) := RelC.nx1 rl414 ajV428 (by decide) axL429 (by decide) (by rw [← lk422]; exact t427) (ajV428 1 3 rfl)
                refine lv_aload_n hx hb dX1_readExtras_90 rfl (lv_at hl 0 rfl) ?_
                have pq433 : (V428 1 1).toInt = ((V 1 1)).toInt := congrArg Int32.toInt ((ajV428 1 1 rfl).trans ((up2_o hV405 (by decide)).trans ((ajV390 1 1 rfl).trans ((ajV377 1 1 rfl).trans ((up2_o hV264 (by decide)).trans (ajV251 1 1 rfl))))))
                refine gA_int (gA_runV (As := []) (rest := []) (ci := 1) (q0 := 1) hx hb hml hown hg hP hD hK hS hA hnw hgk (x_takeSetting3 l D ks H.size ad kk V428 L429 Z (b) (gT) ((nx (nx (nx mx254.2 1) 1) 1)) hMV428 (show b < 2 from by first | omega | ((try (have i_t388 := Imp.go t388 (by omega))); (try (have i_t387 := Imp.go t387 (by omega))); (try (have i_t387 := Imp.go t387 (by omega))); (try (have i_t388 := Imp.go t388 (by omega))); omega)) (show (V428 1 1).toInt = (b : Int) from by first | omega | ((try (have i_t388 := Imp.go t388 (by omega))); (try (have i_t387 := Imp.go t387 (by omega))); (try (have i_t387 := Imp.go t387 (by omega))); (try (have i_t388 := Imp.go t388 (by omega))); omega)) rl432) w931 w933 w17 w162 w934 rfl xgReader hdV_yX1_takeSetting ⟨Nat.le_of_ble_eq_true rfl, Nat.le_of_ble_eq_true rfl⟩ rfl hl.1 rfl (Nat.le_of_ble_eq_true rfl) dX1_readExtras_91 ⟨Nat.le_of_ble_eq_true rfl, Nat.le_of_ble_eq_true rfl⟩) hP hD hK hS hA (fun z434 u435 H locs w436 hP hD hK hS => ?_)
                obtain ⟨V438, L439⟩ := u435
                obtain ⟨hMV438, ajV438, axL439, rgz434, t437⟩ := w436
                have alL439 : agL [6, 44] L L439 := agL.tr alL429 axL439 (by decide)
                have hP : va_P D vwCl (xw ad kk V438 L439 Z) H := hP
                have hD : va_D A (xw ad kk V438 L439 Z) := hD
                have hMV438 : rgd bX V438 := hMV438
                have ajV438 : agr [(1, 3), (1, 6), (6, 8), (6, 9), (6, 10)] [] V428 V438 := ajV438
                have agV438 : agr [(1, 3), (1, 6), (1, 8), (6, 8), (6, 9), (6, 10)] [43, 44, 52, 53, 54, 55] V V438 := agV428.tr ajV438 (by decide) (by decide)
                have rgz434 : 0 ≤ z434.toInt ∧ z434.toInt ≤ 1 := rgz434
                have t437 : KcN (look gT (nx (nx (nx mx254.2 1) 1) 1) ((nx (nx (nx mx254.2 1) 1) 1).2.1 1)) z434.toInt (V438 1 3).toInt (fun f9 => RelC V438 L439 b gT (nx (nx (nx (nx mx254.2 1) 1) 1) 1) ∧ (V438 1 6).toInt = ((f9 : Nat) : Int) ∧ f9 < 12) := t437
                rcases t437 with ⟨q440, fx441, h442, rl443, hf444, hb445⟩ | ⟨q440, h442⟩
                · skip
                  have hr446 : ∀ k, Rc gT (Crun gs (Icalled :: Irank :: IwhenI :: k)) (Crun (nx (nx (nx (nx mx254.2 1) 1) 1) 1) (Inum 0 999999999 :: k)) := fun k => Rc.go1 (hr416 k) (se_y h442)
                  refine lv_if_ne (tgt := 99) hx hb dX1_readExtras_94 (by decide) (fun c447 => ?_) (fun c447 => ?_)
                  · skip
                    have f448 : z434.toInt ≠ 0 := b_neq rfl (by decide) c447
                    refine lv_aload_n hx hb dX1_readExtras_99 rfl (lv_at hl 1 rfl) ?_
                    refine lv_aload_n hx hb dX1_readExtras_100 rfl (lv_at hl 0 rfl) ?_
                    refine va_get (D := D) (ci := 1) (v := .int (V438 1 6)) (fs := (xfReader ad V438 L439 Z)) (C := RX1) (T := TX1) (N := 9) hx hb hg inX1 hown hK hP 1 xgReader rfl 6 (by decide) (hg _ w310) (fun _ h9 => h9) rfl dX1_readExtras_101 ?_
                    have r449 : (-1) ≤ ((V438 1 6)).toInt ∧ ((V438 1 6)).toInt ≤ 23 := hMV438 1 6
                    refine va_putN (D := D) (ci := 3) (v := .int (V438 1 6)) (ty := tyX3 9) (fs := (xfComp ad V438 gi)) (C := RX3) (T := TX3) (N := 13) hx hb hg inX3 tyX3 tyX3_ok nmX3 hown hK hP hD hS (72 + gi) (xgComp hgi) rfl 9 (by decide) (hnw.use 533 n533 rfl) (fun _ h9 => h9) rfl (tyX3_ok 9 (by decide)) rfl rfl (Nat.le_of_ble_eq_true rfl) dX1_readExtras_104 (fun H locs hP hD hS => ?_)
                    obtain ⟨V450, hV450⟩ : ∃ z, z = up2 V438 54 gi (V438 1 6) := ⟨_, rfl⟩
                    have ew451 : (xw ad kk V438 L439 Z).set (72 + gi) ((ad (72 + gi)), .inr (3, (xfComp ad V438 gi).set 9 (.int (V438 1 6)))) = xw ad kk V450 L439 Z := by rw [hV450]; exact xpComp_whenSetting hgi
                    have hP : va_P D vwCl (xw ad kk V450 L439 Z) H := by rw [← ew451]; exact hP
                    have hD : va_D A (xw ad kk V450 L439 Z) := by rw [← ew451]; exact hD
                    have hMV450 : rgd bX V450 := hMV438.put hV450 (show (-1) ≤ ((V438 1 6)).toInt ∧ ((V438 1 6)).toInt ≤ 11 from by first | omega | ((try (have i_t388 := Imp.go t388 (by omega))); (try (have i_t387 := Imp.go t387 (by omega))); (try (have i_t387 := Imp.go t387 (by omega))); (try (have i_t388 := Imp.go t388 (by omega))); omega))
                    have agV450 : agr [(1, 3), (1, 6), (1, 8), (6, 8), (6, 9), (6, 10)] [43, 44, 52, 53, 54, 55] V V450 := agV438.up hV450 rfl
                    refine lv_aload_n hx hb dX1_readExtras_107 rfl (lv_at hl 0 rfl) ?_
                    refine lv_iconst (v := 0) hx hb dX1_readExtras_108 (by decide) ?_
                    refine lv_ldc (v := 999999999) hx hb hown (hg _ w905) dX1_readExtras_109 ?_
                    have rl452 : RelC V450 L439 b gT (nx (nx (nx (nx mx254.2 1) 1) 1) 1) := RelC.ag rl443 (show agr [] [54] V438 V450 from (agr.up agr.rf hV450 rfl)) (by decide) (show agL [] L439 L439 from agL.rf) (by decide)
                    have r453 : Int32.toInt 999999999 = 999999999 := by decide
                    refine gA_int (gA_runV (As := [.int 0, .int 999999999]) (rest := []) (ci := 1) (q0 := 1) hx hb hml hown hg hP hD hK hS hA hnw hgk (x_takeNumber2 l D ks H.size ad kk V450 L439 Z 0 999999999 (((nx (nx (nx (nx mx254.2 1) 1) 1) 1).1 0)) hMV450 (rl452).1 (rl452).2.1.1 (show 0 ≤ (Int32.toInt 0) from by first | omega | ((try (have i_t388 := Imp.go t388 (by omega))); (try (have i_t387 := Imp.go t387 (by omega))); (try (have i_t387 := Imp.go t387 (by omega))); (try (have i_t388 := Imp.go t388 (by omega))); omega)) (show (Int32.toInt 999999999) ≤ 999999999 from by first | omega | ((try (have i_t388 := Imp.go t388 (by omega))); (try (have i_t387 := Imp.go t387 (by omega))); (try (have i_t387 := Imp.go t387 (by omega))); (try (have i_t388 := Imp.go t388 (by omega))); omega))) w906 w908 w12 w162 w909 rfl xgReader hdV_yX1_takeNumber ⟨Nat.le_of_ble_eq_true rfl, Nat.le_of_ble_eq_true rfl⟩ rfl hl.1 rfl (Nat.le_of_ble_eq_true rfl) dX1_readExtras_111 ⟨Nat.le_of_ble_eq_true rfl, Nat.le_of_ble_eq_true rfl⟩) hP hD hK hS hA (fun z454 u455 H locs w456 hP hD hK hS => ?_)
                    obtain ⟨V460, L461⟩ := u455
                    obtain ⟨hMV460, ajV460, axL461, rgz454, t457, t458, t459⟩ := w456
                    have alL461 : agL [6, 44] L L461 := agL.tr alL439 axL461 (by decide)
                    have hP : va_P D vwCl (xw ad kk V460 L461 Z) H := hP
                    have hD : va_D A (xw ad kk V460 L461 Z) := hD
                    have hMV460 : rgd bX V460 := hMV460
                    have ajV460 : agr [(1, 3), (1, 8), (6, 8), (6, 9), (6, 10)] [] V450 V460 := ajV460
                    have agV460 : agr [(1, 3), (1, 6), (1, 8), (6, 8), (6, 9), (6, 10)] [43, 44, 52, 53, 54, 55] V V460 := agV450.tr ajV460 (by decide) (by decide)
                    have rgz454 : 0 ≤ z454.toInt ∧ z454.toInt ≤ 1 := rgz454
                    have t457 : Imp (z454.toInt = 1) ((Int32.toInt 0) ≤ (V460 1 8).toInt ∧ (V460 1 8).toInt ≤ (Int32.toInt 999999999)) := t457
                    have t458 : Imp (z454.toInt = 0) (1 ≤ (V460 1 3).toInt) := t458
                    have t459 : (z454.toInt = 1 ∧ (V450 12 ((nx (nx (nx (nx mx254.2 1) 1) 1) 1).1 0)).toInt = 2 ∧ (Int32.toInt 0) ≤ (L439 14 ((nx (nx (nx (nx mx254.2 1) 1) 1) 1).1 0)).toInt ∧ (L439 14 ((nx (nx (nx (nx mx254.2 1) 1) 1) 1).1 0)).toInt ≤ (Int32.toInt 999999999) ∧ CUR V460 L461 (((nx (nx (nx (nx mx254.2 1) 1) 1) 1).1 0) + 1) ∧ (V460 1 8).toInt = (L439 14 ((nx (nx (nx (nx mx254.2 1) 1) 1) 1).1 0)).toInt ∧ V460 1 3 = V450 1 3) ∨ (z454.toInt = 0 ∧ (((V450 12 ((nx (nx (nx (nx mx254.2 1) 1) 1) 1).1 0)).toInt ≠ 2 ∧ (V460 1 3).toInt = 1 + 16 * (V450 13 ((nx (nx (nx (nx mx254.2 1) 1) 1) 1).1 0)).toInt) ∨ ((V450 12 ((nx (nx (nx (nx mx254.2 1) 1) 1) 1).1 0)).toInt = 2 ∧ ((L439 14 ((nx (nx (nx (nx mx254.2 1) 1) 1) 1).1 0)).toInt < (Int32.toInt 0) ∨ (Int32.toInt 999999999) < (L439 14 ((nx (nx (nx (nx mx254.2 1) 1) 1) 1).1 0)).toInt) ∧ (V460 1 3).toInt = 4 + 16 * (V450 13 ((nx (nx (nx (nx mx254.2 1) 1) 1) 1).1 0)).toInt))) := t459
                    have r462 : 0 ≤ ((V460 1 8)).toInt ∧ ((V460 1 8)).toInt ≤ 999999999 := hMV460 1 8
                    have nv470 := congrArg Int64.toInt rl452.tok.2.1
                    rcases t459 with ⟨q463, h464, h465, h466, k467, k468, k469⟩ | ⟨q463, ⟨h464, k467⟩ | ⟨h464, h465, k467⟩⟩
                    · skip
                      have rl471 : RelC V460 L461 b gT (nx (nx (nx (nx (nx mx254.2 1) 1) 1) 1) 1) := RelC.nx1 rl452 ajV460 (by decide) axL461 (by decide) k467 k469
                      have hr472 : ∀ k, Rc gT (Crun gs (Icalled :: Irank :: IwhenI :: k)) (Crun (nx (nx (nx (nx (nx mx254.2 1) 1) 1) 1) 1) (k)) := fun k => Rc.go1 (hr446 k) (nm_y (rl452.tok.1.trans h464) (by omega) (by omega))
                      refine lv_if_ne (tgt := 119) hx hb dX1_readExtras_114 (by decide) (fun c473 => ?_) (fun c473 => ?_)
                      · skip
                        have f474 : z454.toInt ≠ 0 := b_neq rfl (by decide) c473
                        refine lv_aload_n hx hb dX1_readExtras_119 rfl (lv_at hl 1 rfl) ?_
                        refine lv_aload_n hx hb dX1_readExtras_120 rfl (lv_at hl 0 rfl) ?_
                        refine va_get (D := D) (ci := 1) (v := .int (V460 1 8)) (fs := (xfReader ad V460 L461 Z)) (C := RX1) (T := TX1) (N := 9) hx hb hg inX1 hown hK hP 1 xgReader rfl 8 (by decide) (hg _ w312) (fun _ h9 => h9) rfl dX1_readExtras_121 ?_
                        refine va_putN (D := D) (ci := 3) (v := .int (V460 1 8)) (ty := tyX3 10) (fs := (xfComp ad V460 gi)) (C := RX3) (T := TX3) (N := 13) hx hb hg inX3 tyX3 tyX3_ok nmX3 hown hK hP hD hS (72 + gi) (xgComp hgi) rfl 10 (by decide) (hnw.use 536 n536 rfl) (fun _ h9 => h9) rfl (tyX3_ok 10 (by decide)) rfl rfl (Nat.le_of_ble_eq_true rfl) dX1_readExtras_124 (fun H locs hP hD hS => ?_)
                        obtain ⟨V475, hV475⟩ : ∃ z, z = up2 V460 55 gi (V460 1 8) := ⟨_, rfl⟩
                        have ew476 : (xw ad kk V460 L461 Z).set (72 + gi) ((ad (72 + gi)), .inr (3, (xfComp ad V460 gi).set 10 (.int (V460 1 8)))) = xw ad kk V475 L461 Z := by rw [hV475]; exact xpComp_whenValue hgi
                        have hP : va_P D vwCl (xw ad kk V475 L461 Z) H := by rw [← ew476]; exact hP
                        have hD : va_D A (xw ad kk V475 L461 Z) := by rw [← ew476]; exact hD
                        have hMV475 : rgd bX V475 := hMV460.put hV475 (i_full _)
                        have agV475 : agr [(1, 3), (1, 6), (1, 8), (6, 8), (6, 9), (6, 10)] [43, 44, 52, 53, 54, 55] V V475 := agV460.up hV475 rfl
                        refine lv_iconst (v := 1) hx hb dX1_readExtras_127 (by decide) ?_
                        have rl477 : RelC V475 L461 b gT (nx (nx (nx (nx (nx mx254.2 1) 1) 1) 1) 1) := RelC.ag rl471 (show agr [] [55] V460 V475 from (agr.up agr.rf hV475 rfl)) (by decide) (show agL [] L461 L461 from agL.rf) (by decide)
                        have rw478 : ROWL b L L461 := (fun k hk => ((axL461 44 k rfl).trans ((axL439 44 k rfl).trans ((axL429 44 k rfl).trans ((axL391 44 k rfl).trans ((axL378 44 k rfl).trans ((t250 k hk).trans rfl)))))))
                        exact W.zret (v := 1) hx hb hr rfl (fun t ht hW => ⟨⟨1, (V475, L461), rfl, ⟨hMV475, agV475, alL461, (by decide), (Or.inl ⟨rfl, (nx (nx (nx (nx (nx mx254.2 1) 1) 1) 1) 1), hr472, rl477, keepS.le (keepS.tr (keepS.tr (keepS.tr (keepS.tr (keepS.tr (keepS.tr (keepS.rf : keepS gs 0 gs) kp259) (keepS.n1 1)) (keepS.n1 1)) (keepS.n1 1)) (keepS.n1 1)) (keepS.n1 1)) (by decide)⟩), rw478⟩, by rw [ht]; exact hP, va_K.moved hW.alike hK, hD⟩, hS.F ht⟩) hS.2.2 dX1_readExtras_128
                      · skip
                        have f479 : z454.toInt = 0 := b_eq rfl (by decide) c473
                        exfalso; first | omega | ((try (have i_t458 := Imp.go t458 (by omega))); (try (have i_t457 := Imp.go t457 (by omega))); (try (have i_t388 := Imp.go t388 (by omega))); (try (have i_t387 := Imp.go t387 (by omega))); (try (have i_t387 := Imp.go t387 (by omega))); (try (have i_t388 := Imp.go t388 (by omega))); (try (have i_t457 := Imp.go t457 (by omega))); (try (have i_t458 := Imp.go t458 (by omega))); omega)
                    · skip
                      have hb480 : ∀ k, Rc gT (Crun gs (Icalled :: Irank :: IwhenI :: k)) (Cbad (V460 1 3).toInt) := fun k => Rc.go1 (hr446 k) ((nm_1 (fun h9 => h464 (rl452.tok.1.symm.trans h9))).trans (fl_eq rl452.tok.2.2 k467))
                      refine lv_if_ne (tgt := 119) hx hb dX1_readExtras_114 (by decide) (fun c481 => ?_) (fun c481 => ?_)
                      · skip
                        have f482 : z454.toInt ≠ 0 := b_neq rfl (by decide) c481
                        exfalso; first | omega | ((try (have i_t458 := Imp.go t458 (by omega))); (try (have i_t457 := Imp.go t457 (by omega))); (try (have i_t388 := Imp.go t388 (by omega))); (try (have i_t387 := Imp.go t387 (by omega))); (try (have i_t387 := Imp.go t387 (by omega))); (try (have i_t388 := Imp.go t388 (by omega))); (try (have i_t457 := Imp.go t457 (by omega))); (try (have i_t458 := Imp.go t458 (by omega))); omega)
                      · skip
                        have f483 : z454.toInt = 0 := b_eq rfl (by decide) c481
                        refine lv_iconst (v := 0) hx hb dX1_readExtras_117 (by decide) ?_
                        have rw484 : ROWL b L L461 := (fun k hk => ((axL461 44 k rfl).trans ((axL439 44 k rfl).trans ((axL429 44 k rfl).trans ((axL391 44 k rfl).trans ((axL378 44 k rfl).trans ((t250 k hk).trans rfl)))))))
                        exact W.zret (v := 0) hx hb hr rfl (fun t ht hW => ⟨⟨0, (V460, L461), rfl, ⟨hMV460, agV460, alL461, (by decide), (Or.inr ⟨rfl, hb480⟩), rw484⟩, by rw [ht]; exact hP, va_K.moved hW.alike hK, hD⟩, hS.F ht⟩) hS.2.2 dX1_readExtras_118
                    · skip
                      have hb485 : ∀ k, Rc gT (Crun gs (Icalled :: Irank :: IwhenI :: k)) (Cbad (V460 1 3).toInt) := fun k => Rc.go1 (hr446 k) ((nm_4 (rl452.tok.1.trans h464) (by omega)).trans (fl_eq rl452.tok.2.2 k467))
                      refine lv_if_ne (tgt := 119) hx hb dX1_readExtras_114 (by decide) (fun c486 => ?_) (fun c486 => ?_)
                      · skip
                        have f487 : z454.toInt ≠ 0 := b_neq rfl (by decide) c486
                        exfalso; first | omega | ((try (have i_t458 := Imp.go t458 (by omega))); (try (have i_t457 := Imp.go t457 (by omega))); (try (have i_t388 := Imp.go t388 (by omega))); (try (have i_t387 := Imp.go t387 (by omega))); (try (have i_t387 := Imp.go t387 (by omega))); (try (have i_t388 := Imp.go t388 (by omega))); (try (have i_t457 := Imp.go t457 (by omega))); (try (have i_t458 := Imp.go t458 (by omega))); omega)
                      · skip
                        have f488 : z454.toInt = 0 := b_eq rfl (by decide) c486
                        refine lv_iconst (v := 0) hx hb dX1_readExtras_117 (by decide) ?_
                        have rw489 : ROWL b L L461 := (fun k hk => ((axL461 44 k rfl).trans ((axL439 44 k rfl).trans ((axL429 44 k rfl).trans ((axL391 44 k rfl).trans ((axL378 44 k rfl).trans ((t250 k hk).trans rfl)))))))
                        exact W.zret (v := 0) hx hb hr rfl (fun t ht hW => ⟨⟨0, (V460, L461), rfl, ⟨hMV460, agV460, alL461, (by decide), (Or.inr ⟨rfl, hb485⟩), rw489⟩, by rw [ht]; exact hP, va_K.moved hW.alike hK, hD⟩, hS.F ht⟩) hS.2.2 dX1_readExtras_118
                  · skip
                    have f490 : z434.toInt = 0 := b_eq rfl (by decide) c447
                    exfalso; first | omega | ((try (have i_t388 := Imp.go t388 (by omega))); (try (have i_t387 := Imp.go t387 (by omega))); (try (have i_t387 := Imp.go t387 (by omega))); (try (have i_t388 := Imp.go t388 (by omega))); omega)
                · skip
                  have hb491 : ∀ k, Rc gT (Crun gs (Icalled :: Irank :: IwhenI :: k)) (Cbad (V438 1 3).toInt) := fun k => Rc.go1 (hr416 k) (se_b h442)
                  refine lv_if_ne (tgt := 99) hx hb dX1_readExtras_94 (by decide) (fun c492 => ?_) (fun c492 => ?_)
                  · skip
                    have f493 : z434.toInt ≠ 0 := b_neq rfl (by decide) c492
                    exfalso; first | omega | ((try (have i_t388 := Imp.go t388 (by omega))); (try (have i_t387 := Imp.go t387 (by omega))); (try (have i_t387 := Imp.go t387 (by omega))); (try (have i_t388 := Imp.go t388 (by omega))); omega)
                  · skip
                    have f494 : z434.toInt = 0 := b_eq rfl (by decide) c492
                    refine lv_iconst (v := 0) hx hb dX1_readExtras_97 (by decide) ?_
                    have rw495 : ROWL b L L439 := (fun k hk => ((axL439 44 k rfl).trans ((axL429 44 k rfl).trans ((axL391 44 k rfl).trans ((axL378 44 k rfl).trans ((t250 k hk).trans rfl))))))
                    exact W.zret (v := 0) hx hb hr rfl (fun t ht hW => ⟨⟨0, (V438, L439), rfl, ⟨hMV438, agV438, alL439, (by decide), (Or.inr ⟨rfl, hb491⟩), rw495⟩, by rw [ht]; exact hP, va_K.moved hW.alike hK, hD⟩, hS.F ht⟩) hS.2.2 dX1_readExtras_98
            · skip
              have f496 : z384.toInt = 0 := b_eq rfl (by decide) c403
              exfalso; first | omega | ((try (have i_t388 := Imp.go t388 (by omega))); (try (have i_t387 := Imp.go t387 (by omega))); (try (have i_t387 := Imp.go t387 (by omega))); (try (have i_t388 := Imp.go t388 (by omega))); omega)
          · skip
            have hb497 : ∀ k, Rc gT (Crun gs (Icalled :: Irank :: IwhenI :: k)) (Cbad (V390 1 3).toInt) := fun k => Rc.go1 (hr364 k) ((nm_1 (fun h9 => h394 (rl381.tok.1.symm.trans h9))).trans (fl_eq rl381.tok.2.2 k397))
            refine lv_if_ne (tgt := 62) hx hb dX1_readExtras_57 (by decide) (fun c498 => ?_) (fun c498 => ?_)
            · skip
              have f499 : z384.toInt ≠ 0 := b_neq rfl (by decide) c498
              exfalso; first | omega | ((try (have i_t388 := Imp.go t388 (by omega))); (try (have i_t387 := Imp.go t387 (by omega))); (try (have i_t387 := Imp.go t387 (by omega))); (try (have i_t388 := Imp.go t388 (by omega))); omega)
            · skip
              have f500 : z384.toInt = 0 := b_eq rfl (by decide) c498
              refine lv_iconst (v := 0) hx hb dX1_readExtras_60 (by decide) ?_
              have rw501 : ROWL b L L391 := (fun k hk => ((axL391 44 k rfl).trans ((axL378 44 k rfl).trans ((t250 k hk).trans rfl))))
              exact W.zret (v := 0) hx hb hr rfl (fun t ht hW => ⟨⟨0, (V390, L391), rfl, ⟨hMV390, agV390, alL391, (by decide), (Or.inr ⟨rfl, hb497⟩), rw501⟩, by rw [ht]; exact hP, va_K.moved hW.alike hK, hD⟩, hS.F ht⟩) hS.2.2 dX1_readExtras_61
          · skip
            have hb502 : ∀ k, Rc gT (Crun gs (Icalled :: Irank :: IwhenI :: k)) (Cbad (V390 1 3).toInt) := fun k => Rc.go1 (hr364 k) ((nm_4 (rl381.tok.1.trans h394) (by omega)).trans (fl_eq rl381.tok.2.2 k397))
            refine lv_if_ne (tgt := 62) hx hb dX1_readExtras_57 (by decide) (fun c503 => ?_) (fun c503 => ?_)
            · skip
              have f504 : z384.toInt ≠ 0 := b_neq rfl (by decide) c503
              exfalso; first | omega | ((try (have i_t388 := Imp.go t388 (by omega))); (try (have i_t387 := Imp.go t387 (by omega))); (try (have i_t387 := Imp.go t387 (by omega))); (try (have i_t388 := Imp.go t388 (by omega))); omega)
            · skip
              have f505 : z384.toInt = 0 := b_eq rfl (by decide) c503
              refine lv_iconst (v := 0) hx hb dX1_readExtras_60 (by decide) ?_
              have rw506 : ROWL b L L391 := (fun k hk => ((axL391 44 k rfl).trans ((axL378 44 k rfl).trans ((t250 k hk).trans rfl))))
              exact W.zret (v := 0) hx hb hr rfl (fun t ht hW => ⟨⟨0, (V390, L391), rfl, ⟨hMV390, agV390, alL391, (by decide), (Or.inr ⟨rfl, hb502⟩), rw506⟩, by rw [ht]; exact hP, va_K.moved hW.alike hK, hD⟩, hS.F ht⟩) hS.2.2 dX1_readExtras_61
      · skip
        have f507 : z246.toInt = 0 := b_eq rfl (by decide) c261
        exfalso; omega
    · skip
      have hb508 : ∀ k, Rc gT (Crun gs (Icalled :: Irank :: IwhenI :: k)) (Cbad (V251 1 3).toInt) := fun k => Rc.go1 (hr245 k) (wo_b h255)
      refine lv_if_ne (tgt := 22) hx hb dX1_readExtras_17 (by decide) (fun c509 => ?_) (fun c509 => ?_)
      · skip
        have f510 : z246.toInt ≠ 0 := b_neq rfl (by decide) c509
        exfalso; omega
      · skip
        have f511 : z246.toInt = 0 := b_eq rfl (by decide) c509
        refine lv_iconst (v := 0) hx hb dX1_readExtras_20 (by decide) ?_
        have rw512 : ROWL b L L252 := (fun k hk => ((t250 k hk).trans rfl))
        exact W.zret (v := 0) hx hb hr rfl (fun t ht hW => ⟨⟨0, (V251, L252), rfl, ⟨hMV251, agV251, alL252, (by decide), (Or.inr ⟨rfl, hb508⟩), rw512⟩, by rw [ht]; exact hP, va_K.moved hW.alike hK, hD⟩, hS.F ht⟩) hS.2.2 dX1_readExtras_21
abbrev r_x_readType3 : Room := { frames := 3, cells := 0, slots := 0, locals := 65 }
abbrev q_x_readType3 (D : va_G) (ks : KS) (ad : Nat → Nat) (kk : Nat → ClassId) (V : Vf) (L : Lf) (Z : XZ) (b : Nat) (gT : Tk) (gs : St) (A : Nat → Prop) : Array Value → State → Outcome → State → Prop := va_Qi (fun (r : Int32) (u : Vf × Lf) => rgd bX u.1 ∧ agr [(1, 3), (1, 6), (1, 7), (6, 8), (6, 9), (6, 10)] [43, 44, 45] V u.1 ∧ agL [1, 6, 44] L u.2 ∧ (0 ≤ r.toInt ∧ r.toInt ≤ 1) ∧ (Rd gT gs (fun k => Istmt :: k) (fun k => Istmt :: k) r.toInt (u.1 1 3).toInt (fun s9 => RelC u.1 u.2 b gT s9 ∧ gs.1 0 + 1 ≤ s9.1 0)) ∧ (ROWL b L u.2)) (fun u t => gq D A (xw ad kk u.1 u.2 Z) (xty kk Z) t) A
set_option maxHeartbeats 4000000 in
set_option maxRecDepth 100000 in
theorem x_readType3 (l : Launch) (D : va_G) (ks : KS) (sz : Nat) (ad : Nat → Nat) (kk : Nat → ClassId) (V : Vf) (L : Lf) (Z : XZ) (b : Nat) (gT : Tk) (gs : St) (hMV : rgd bX V) (hb2 : b < 2) (rbk : (V 1 1).toInt = (b : Int)) (own : (V 1 2).toInt = -1) (rel : RelC V L b gT gs) (kd9 : (V 6 9).toInt = 128)  : Met l yX1_readType (Cond.code yX1_readType cX1_readType 4 (some .boolean) :: GW) r_x_readType3 (va_Pc [.ref (ad 1)] (gp D ks (xw ad kk V L Z) (xty kk Z) sz)) (q_x_readType3 D ks ad kk V L Z  b gT gs (va_A (xw ad kk V L Z) sz)) 0 0 (va_A (xw ad kk V L Z) sz) := by
  refine g_met (q_x_readType3 D ks ad kk V L Z  b gT gs) (by decide) (Nat.le_of_ble_eq_true rfl) ?_
  intro p e s m below meth c A ls H locs hx hb hr hml hown hg hlocks hin hnw hgk hP hK hD hS hA hl
  have hown : s.vm.findClass RX1 = some m.cls := hown
  have hl : lv_has ls 4 [(0, .ref (ad 1))] := hl
  have hP : va_P D vwCl (xw ad kk V L Z) H := hP
  have hD : va_D A (xw ad kk V L Z) := hD
  have hK : va_K D vwCl (xty kk Z) s := hK
  have agV : agr [(1, 3), (1, 6), (1, 7), (6, 8), (6, 9), (6, 10)] [43, 44, 45] V V := agr.rf
  have alL : agL [1, 6, 44] L L := agL.rf
  have r1 : (-1) ≤ ((V 1 1)).toInt ∧ ((V 1 1)).toInt ≤ 1 := hMV 1 1
  have r2 : (-1) ≤ ((V 1 2)).toInt ∧ ((V 1 2)).toInt ≤ 47 := hMV 1 2
  have ln0 := (rel.2.2.1 0 (by decide)).1
  have r3 : xcap (5 * b + 0) = 24 := xcap_0
  refine lv_aload_n hx hb dX1_readType_0 rfl (lv_at hl 0 rfl) ?_
  refine va_get (D := D) (ci := 1) (v := rfN ad 38 (V 1 1)) (fs := (xfReader ad V L Z)) (C := RX1) (T := TX1) (N := 9) hx hb hg inX1 hown hK hP 1 xgReader rfl 1 (by decide) (hg _ w305) (fun _ h9 => h9) rfl dX1_readType_1 ?_
  refine g_topv (v := .ref (ad (38 + b))) (rfN_r (by omega)) ?_
  refine va_getN (D := D) (ci := 0) (v := .ref (ad (40 + (5 * b + 0)))) (fs := (xfBook ad V b)) (C := RX0) (T := TX0) (N := 13) hx hb hg inX0 hown hK hP (38 + b) (xgBook hb2) rfl 0 (by decide) (hnw.use 594 n594 rfl) (fun _ h9 => h9) rfl dX1_readType_4 ?_
  have il4 : (5 * b + 0) < 10 := by omega
  refine gA_int (gA_runV (As := []) (rest := []) (ci := 6) (q0 := (40 + (5 * b + 0))) hx hb hml hown hg hP hD hK hS hA hnw hgk (x_isFull2 l D ks H.size ad kk V L Z ((5 * b + 0)) hMV (show (5 * b + 0) < 10 from by omega)) w863 w864 w865 w168 w866 rfl (xgNames il4) hdV_yX6_isFull ⟨Nat.le_of_ble_eq_true rfl, Nat.le_of_ble_eq_true rfl⟩ rfl hl.1 rfl (Nat.le_of_ble_eq_true rfl) dX1_readType_7 ⟨Nat.le_of_ble_eq_true rfl, Nat.le_of_ble_eq_true rfl⟩) hP hD hK hS hA (fun z5 u6 H locs w7 hP hD hK hS => ?_)
  obtain ⟨rgz5, t8, t9⟩ := w7
  have rgz5 : 0 ≤ z5.toInt ∧ z5.toInt ≤ 1 := rgz5
  have t8 : Imp (z5.toInt = 0) ((V 43 (5 * b + 0)).toInt < ((xcap (5 * b + 0) : Nat) : Int)) := t8
  have t9 : Imp (z5.toInt = 1) (((xcap (5 * b + 0) : Nat) : Int) ≤ (V 43 (5 * b + 0)).toInt) := t9
  refine lv_if_eq (tgt := 19) hx hb dX1_readType_10 (by decide) (fun c10 => ?_) (fun c10 => ?_)
  · skip
    have f11 : z5.toInt = 0 := b_eq rfl (by decide) c10
    refine lv_aload_n hx hb dX1_readType_19 rfl (lv_at hl 0 rfl) ?_
    refine va_get (D := D) (ci := 1) (v := .ref (ad 6)) (fs := (xfReader ad V L Z)) (C := RX1) (T := TX1) (N := 9) hx hb hg inX1 hown hK hP 1 xgReader rfl 0 (by decide) (hg _ w304) (fun _ h9 => h9) rfl dX1_readType_20 ?_
    have hr12 : ∀ k, Rc gT (Crun gs (Istmt :: k)) (Crun gs (Istmt :: k)) := fun k => Rc.rf
    have kd13 : gT.1 (gs.1 0) = ((V 6 9)).toInt := RelC.kd rel
    have hr14 : ∀ k, Rc gT (Crun gs (Istmt :: k)) (Crun (nx gs 1) (InewType :: k)) := fun k => Rc.go1 (hr12 k) (st_128 (kd13.trans kd9) (by first | omega | ((try (have i_t9 := Imp.go t9 (by omega))); (try (have i_t8 := Imp.go t8 (by omega))); (try (have i_t8 := Imp.go t8 (by omega))); (try (have i_t9 := Imp.go t9 (by omega))); omega)))
    have l815 := RelC.l8 rel
    have r16 : 0 ≤ ((V 6 8)).toInt ∧ ((V 6 8)).toInt ≤ 4000 := hMV 6 8
    have r17 : 0 ≤ ((V 6 7)).toInt ∧ ((V 6 7)).toInt ≤ 4000 := hMV 6 7
    have lk18 := RelC.lk rel (show (V 6 9).toInt ≠ 0 from by omega)
    refine gA_void (gA_runV (As := []) (rest := []) (ci := 9) (q0 := 6) hx hb hml hown hg hP hD hK hS hA hnw hgk (x_next2 l D ks H.size ad kk V L Z  hMV (show (V 6 8).toInt ≤ (V 6 7).toInt from by first | omega | ((try (have i_t9 := Imp.go t9 (by omega))); (try (have i_t8 := Imp.go t8 (by omega))); (try (have i_t8 := Imp.go t8 (by omega))); (try (have i_t9 := Imp.go t9 (by omega))); omega))) w871 w852 w853 w157 w854 rfl xgTape hdV_yX9_next ⟨Nat.le_of_ble_eq_true rfl, Nat.le_of_ble_eq_true rfl⟩ rfl hl.1 rfl (Nat.le_of_ble_eq_true rfl) dX1_readType_23 ⟨Nat.le_of_ble_eq_true rfl, Nat.le_of_ble_eq_true rfl⟩) hP hD hK hS hA (fun u20 H locs w21 hP hD hK hS => ?_)
    obtain ⟨V24, L25⟩ := u20
    obtain ⟨hMV24, ajV24, axL25, t22, t23⟩ := w21
    have alL25 : agL [1, 6, 44] L L25 := agL.tr alL axL25 (by decide)
    have hP : va_P D vwCl (xw ad kk V24 L25 Z) H := hP
    have hD : va_D A (xw ad kk V24 L25 Z) := hD
    have hMV24 : rgd bX V24 := hMV24
    have ajV24 : agr [(6, 8), (6, 9), (6, 10)] [] V V24 := ajV24
    have agV24 : agr [(1, 3), (1, 6), (1, 7), (6, 8), (6, 9), (6, 10)] [43, 44, 45] V V24 := agV.tr ajV24 (by decide) (by decide)
    have t22 : (V24 6 8).toInt ≤ (V24 6 7).toInt := t22
    have t23 : CUR V24 L25 (Int32.toNatClampNeg (V 6 8)) := t23
    have r26 : 0 ≤ ((V24 6 8)).toInt ∧ ((V24 6 8)).toInt ≤ 4000 := hMV24 6 8
    have pq27 : (V24 6 7).toInt = ((V 6 7)).toInt := congrArg Int32.toInt (ajV24 6 7 rfl)
    have rl28 : RelC V24 L25 b gT (nx gs 1) := RelC.nx1 rel ajV24 (by decide) axL25 (by decide) (by rw [← lk18]; exact t23) (ajV24 1 3 rfl)
    refine lv_aload_n hx hb dX1_readType_26 rfl (lv_at hl 0 rfl) ?_
    have pq29 : (V24 1 1).toInt = ((V 1 1)).toInt := congrArg Int32.toInt (ajV24 1 1 rfl)
    refine gA_int (gA_runV (As := []) (rest := []) (ci := 1) (q0 := 1) hx hb hml hown hg hP hD hK hS hA hnw hgk (x_takeNewName3 l D ks H.size ad kk V24 L25 Z (b) (gT) ((nx gs 1)) hMV24 (show b < 2 from by first | omega | ((try (have i_t9 := Imp.go t9 (by omega))); (try (have i_t8 := Imp.go t8 (by omega))); (try (have i_t8 := Imp.go t8 (by omega))); (try (have i_t9 := Imp.go t9 (by omega))); omega)) (show (V24 1 1).toInt = (b : Int) from by first | omega | ((try (have i_t9 := Imp.go t9 (by omega))); (try (have i_t8 := Imp.go t8 (by omega))); (try (have i_t8 := Imp.go t8 (by omega))); (try (have i_t9 := Imp.go t9 (by omega))); omega)) rl28) w872 w874 w7 w162 w875 rfl xgReader hdV_yX1_takeNewName ⟨Nat.le_of_ble_eq_true rfl, Nat.le_of_ble_eq_true rfl⟩ rfl hl.1 rfl (Nat.le_of_ble_eq_true rfl) dX1_readType_27 ⟨Nat.le_of_ble_eq_true rfl, Nat.le_of_ble_eq_true rfl⟩) hP hD hK hS hA (fun z30 u31 H locs w32 hP hD hK hS => ?_)
    obtain ⟨V34, L35⟩ := u31
    obtain ⟨hMV34, ajV34, axL35, rgz30, t33⟩ := w32
    have alL35 : agL [1, 6, 44] L L35 := agL.tr alL25 axL35 (by decide)
    have hP : va_P D vwCl (xw ad kk V34 L35 Z) H := hP
    have hD : va_D A (xw ad kk V34 L35 Z) := hD
    have hMV34 : rgd bX V34 := hMV34
    have ajV34 : agr [(1, 3), (6, 8), (6, 9), (6, 10)] [] V24 V34 := ajV34
    have agV34 : agr [(1, 3), (1, 6), (1, 7), (6, 8), (6, 9), (6, 10)] [43, 44, 45] V V34 := agV24.tr ajV34 (by decide) (by decide)
    have rgz30 : 0 ≤ z30.toInt ∧ z30.toInt ≤ 1 := rgz30
    have t33 : KcW (newN gT (nx gs 1)) z30.toInt (V34 1 3).toInt (fun w9 => RelC V34 L35 b gT (nx (nx gs 1) 1) ∧ L35 1 5 = w9) := t33
    rcases t33 with ⟨q36, wx37, h38, rl39, hw40⟩ | ⟨q36, h38⟩
    · skip
      have hr41 : ∀ k, Rc gT (Crun gs (Istmt :: k)) (Crun (nx (nx gs 1) 1) (Ilike wx37 :: k)) := fun k => Rc.go1 (hr14 k) (nt_y h38)
      refine lv_if_ne (tgt := 35) hx hb dX1_readType_30 (by decide) (fun c42 => ?_) (fun c42 => ?_)
      · skip
        have f43 : z30.toInt ≠ 0 := b_neq rfl (by decide) c42
        refine lv_aload_n hx hb dX1_readType_35 rfl (lv_at hl 0 rfl) ?_
        refine va_get (D := D) (ci := 1) (v := .long (L35 1 5)) (fs := (xfReader ad V34 L35 Z)) (C := RX1) (T := TX1) (N := 9) hx hb hg inX1 hown hK hP 1 xgReader rfl 5 (by decide) (hg _ w309) (fun _ h9 => h9) rfl dX1_readType_36 ?_
        refine lv_lstore_n (lv' := [(1, .long (L35 1 5)), (0, .ref (ad 1))]) hx hb dX1_readType_39 rfl hl (by decide) rfl (fun ls hl => ?_)
        refine lv_aload_n hx hb dX1_readType_40 rfl (lv_at hl 1 rfl) ?_
        refine lv_iconst (v := 0) hx hb dX1_readType_41 (by decide) ?_
        refine va_put (D := D) (ci := 1) (v := .int 0) (ty := tyX1 7) (fs := (xfReader ad V34 L35 Z)) (C := RX1) (T := TX1) (N := 9) hx hb hg inX1 tyX1 tyX1_ok nmX1 hown hK hP hD hS 1 xgReader rfl 7 (by decide) (hg _ w311) (fun _ h9 => h9) rfl (tyX1_ok 7 (by decide)) rfl rfl (Nat.le_of_ble_eq_true rfl) dX1_readType_42 (fun H locs hP hD hS => ?_)
        obtain ⟨V44, hV44⟩ : ∃ z, z = up2 V34 1 7 0 := ⟨_, rfl⟩
        have ew45 : (xw ad kk V34 L35 Z).set 1 ((ad 1), .inr (1, (xfReader ad V34 L35 Z).set 7 (.int 0))) = xw ad kk V44 L35 Z := by rw [hV44]; exact xw_ss (by decide) rfl (xb_si (by decide))
        have hP : va_P D vwCl (xw ad kk V44 L35 Z) H := by rw [← ew45]; exact hP
        have hD : va_D A (xw ad kk V44 L35 Z) := by rw [← ew45]; exact hD
        have hMV44 : rgd bX V44 := hMV34.put hV44 (i_full _)
        have agV44 : agr [(1, 3), (1, 6), (1, 7), (6, 8), (6, 9), (6, 10)] [43, 44, 45] V V44 := agV34.up hV44 rfl
        refine lv_aload_n hx hb dX1_readType_45 rfl (lv_at hl 1 rfl) ?_
        refine va_get (D := D) (ci := 1) (v := .ref (ad 6)) (fs := (xfReader ad V44 L35 Z)) (C := RX1) (T := TX1) (N := 9) hx hb hg inX1 hown hK hP 1 xgReader rfl 0 (by decide) (hg _ w304) (fun _ h9 => h9) rfl dX1_readType_46 ?_
        refine va_getN (D := D) (ci := 9) (v := .int (V44 6 9)) (fs := (xfTape ad V44 L35 Z)) (C := RX9) (T := TX9) (N := 12) hx hb hg inX9 hown hK hP 6 xgTape rfl 9 (by decide) (hnw.use 262 n262 rfl) (fun _ h9 => h9) rfl dX1_readType_49 ?_
        refine g_top (v := (V34 6 9)) (up2_o hV44 (by decide)) ?_
        refine lv_sipush (v := 129) hx hb dX1_readType_52 (by decide) ?_
        refine lv_icmp_ne (tgt := 74) hx hb dX1_readType_55 (by decide) (fun c46 => ?_) (fun c46 => ?_)
        · skip
          have f47 : ((V34 6 9)).toInt ≠ 129 := b_neq rfl (by decide) c46
          refine lv_aload_n hx hb dX1_readType_74 rfl (lv_at hl 1 rfl) ?_
          refine lv_bipush (v := 59) hx hb dX1_readType_75 (by decide) ?_
          have rl48 : RelC V44 L35 b gT (nx (nx gs 1) 1) := RelC.ag rl39 (show agr [(1, 7)] [] V34 V44 from (agr.up agr.rf hV44 rfl)) (by decide) (show agL [] L35 L35 from agL.rf) (by decide)
          have kd49 : gT.1 ((nx (nx gs 1) 1).1 0) = ((V34 6 9)).toInt := (RelC.kd rl48).trans (congrArg Int32.toInt (up2_o hV44 (by decide)))
          have hr50 : ∀ k, Rc gT (Crun gs (Istmt :: k)) (Crun (nx (nx gs 1) 1) (Itake 59 :: IaddTy wx37 :: Istmt :: k)) := fun k => Rc.go1 (hr41 k) (like_n wx37 (fun h9 => f47 (kd49.symm.trans h9)))
          have r51 : Int32.toInt 59 = 59 := by decide
          refine gA_int (gA_runV (As := [.int 59]) (rest := []) (ci := 1) (q0 := 1) hx hb hml hown hg hP hD hK hS hA hnw hgk (x_take2 l D ks H.size ad kk V44 L35 Z 59 (((nx (nx gs 1) 1).1 0)) hMV44 (rl48).1 (rl48).2.1.1 (show 1 ≤ (Int32.toInt 59) from by first | omega | ((try (have i_t9 := Imp.go t9 (by omega))); (try (have i_t8 := Imp.go t8 (by omega))); (try (have i_t8 := Imp.go t8 (by omega))); (try (have i_t9 := Imp.go t9 (by omega))); omega))) w893 w895 w10 w162 w896 rfl xgReader hdV_yX1_take ⟨Nat.le_of_ble_eq_true rfl, Nat.le_of_ble_eq_true rfl⟩ rfl hl.1 rfl (Nat.le_of_ble_eq_true rfl) dX1_readType_77 ⟨Nat.le_of_ble_eq_true rfl, Nat.le_of_ble_eq_true rfl⟩) hP hD hK hS hA (fun z52 u53 H locs w54 hP hD hK hS => ?_)
          obtain ⟨V57, L58⟩ := u53
          obtain ⟨hMV57, ajV57, axL58, rgz52, t55, t56⟩ := w54
          have alL58 : agL [1, 6, 44] L L58 := agL.tr alL35 axL58 (by decide)
          have hP : va_P D vwCl (xw ad kk V57 L58 Z) H := hP
          have hD : va_D A (xw ad kk V57 L58 Z) := hD
          have hMV57 : rgd bX V57 := hMV57
          have ajV57 : agr [(1, 3), (6, 8), (6, 9), (6, 10)] [] V44 V57 := ajV57
          have agV57 : agr [(1, 3), (1, 6), (1, 7), (6, 8), (6, 9), (6, 10)] [43, 44, 45] V V57 := agV44.tr ajV57 (by decide) (by decide)
          have rgz52 : 0 ≤ z52.toInt ∧ z52.toInt ≤ 1 := rgz52
          have t55 : Imp (z52.toInt = 0) (1 ≤ (V57 1 3).toInt) := t55
          have t56 : (z52.toInt = 1 ∧ (V44 12 ((nx (nx gs 1) 1).1 0)).toInt = (Int32.toInt 59) ∧ CUR V57 L58 (((nx (nx gs 1) 1).1 0) + 1) ∧ V57 1 3 = V44 1 3) ∨ (z52.toInt = 0 ∧ (V44 12 ((nx (nx gs 1) 1).1 0)).toInt ≠ (Int32.toInt 59) ∧ (V57 1 3).toInt = 1 + 16 * (V44 13 ((nx (nx gs 1) 1).1 0)).toInt) := t56
          rcases t56 with ⟨q59, h60, k61, k62⟩ | ⟨q59, h60, k61⟩
          · skip
            have rl63 : RelC V57 L58 b gT (nx (nx (nx gs 1) 1) 1) := RelC.nx1 rl48 ajV57 (by decide) axL58 (by decide) k61 k62
            have hr64 : ∀ k, Rc gT (Crun gs (Istmt :: k)) (Crun (nx (nx (nx gs 1) 1) 1) (IaddTy wx37 :: Istmt :: k)) := fun k => Rc.go1 (hr50 k) (tk_y (rl48.tok.1.trans (h60.trans (by decide))))
            refine lv_if_ne (tgt := 85) hx hb dX1_readType_80 (by decide) (fun c65 => ?_) (fun c65 => ?_)
            · skip
              have f66 : z52.toInt ≠ 0 := b_neq rfl (by decide) c65
              refine lv_aload_n hx hb dX1_readType_85 rfl (lv_at hl 1 rfl) ?_
              refine va_get (D := D) (ci := 1) (v := rfN ad 38 (V57 1 1)) (fs := (xfReader ad V57 L58 Z)) (C := RX1) (T := TX1) (N := 9) hx hb hg inX1 hown hK hP 1 xgReader rfl 1 (by decide) (hg _ w305) (fun _ h9 => h9) rfl dX1_readType_86 ?_
              have pq67 : (V57 1 1).toInt = ((V 1 1)).toInt := congrArg Int32.toInt ((ajV57 1 1 rfl).trans ((up2_k hV44 (by decide)).trans ((ajV34 1 1 rfl).trans (ajV24 1 1 rfl))))
              refine g_topv (v := .ref (ad (38 + b))) (rfN_r (by first | omega | ((try (have i_t55 := Imp.go t55 (by omega))); (try (have i_t9 := Imp.go t9 (by omega))); (try (have i_t8 := Imp.go t8 (by omega))); (try (have i_t8 := Imp.go t8 (by omega))); (try (have i_t9 := Imp.go t9 (by omega))); (try (have i_t55 := Imp.go t55 (by omega))); omega))) ?_
              refine va_getN (D := D) (ci := 0) (v := .ref (ad (40 + (5 * b + 0)))) (fs := (xfBook ad V57 b)) (C := RX0) (T := TX0) (N := 13) hx hb hg inX0 hown hK hP (38 + b) (xgBook hb2) rfl 0 (by decide) (hnw.use 594 n594 rfl) (fun _ h9 => h9) rfl dX1_readType_89 ?_
              refine lv_lload_n hx hb dX1_readType_92 rfl (lv_at hl 0 rfl) ?_
              have ad1 := (rl63.2.2.1 0 (by decide)).1
              have ad2 := congrArg List.length (((keepS.tr (keepS.tr (keepS.tr (keepS.rf : keepS gs 0 gs) (keepS.n1 1)) (keepS.n1 1)) (keepS.n1 1))).2.2.1 0 (by decide))
              have ad3 := ln0
              refine gA_int (gA_runV (As := [.long (L35 1 5)]) (rest := []) (ci := 6) (q0 := (40 + (5 * b + 0))) hx hb hml hown hg hP hD hK hS hA hnw hgk (x_add2 l D ks H.size ad kk V57 L58 Z (L35 1 5) ((5 * b + 0)) hMV57 (show (5 * b + 0) < 10 from by first | omega | ((try (have i_t55 := Imp.go t55 (by omega))); (try (have i_t9 := Imp.go t9 (by omega))); (try (have i_t8 := Imp.go t8 (by omega))); (try (have i_t8 := Imp.go t8 (by omega))); (try (have i_t9 := Imp.go t9 (by omega))); (try (have i_t55 := Imp.go t55 (by omega))); omega))) w897 w898 w899 w168 w900 rfl (xgNames il4) hdV_yX6_add ⟨Nat.le_of_ble_eq_true rfl, Nat.le_of_ble_eq_true rfl⟩ rfl hl.1 rfl (Nat.le_of_ble_eq_true rfl) dX1_readType_93 ⟨Nat.le_of_ble_eq_true rfl, Nat.le_of_ble_eq_true rfl⟩) hP hD hK hS hA (fun z68 u69 H locs w70 hP hD hK hS => ?_)
              obtain ⟨V76, L77⟩ := u69
              obtain ⟨hMV76, ajV76, axL77, fyV76, rgz68, t71, t72, t73, t74, t75⟩ := w70
              have alL77 : agL [1, 6, 44] L L77 := agL.tr alL58 axL77 (by decide)
              have hP : va_P D vwCl (xw ad kk V76 L77 Z) H := hP
              have hD : va_D A (xw ad kk V76 L77 Z) := hD
              have hMV76 : rgd bX V76 := hMV76
              have ajV76 : agr [] [43, 44] V57 V76 := ajV76
              have agV76 : agr [(1, 3), (1, 6), (1, 7), (6, 8), (6, 9), (6, 10)] [43, 44, 45] V V76 := agV57.tr ajV76 (by decide) (by decide)
              have rgz68 : (-1) ≤ z68.toInt ∧ z68.toInt ≤ 23 := rgz68
              have t71 : z68.toInt < (V76 43 (5 * b + 0)).toInt := t71
              have t72 : Imp ((V57 43 (5 * b + 0)).toInt < ((xcap (5 * b + 0) : Nat) : Int)) (z68.toInt = (V57 43 (5 * b + 0)).toInt ∧ (V76 43 (5 * b + 0)).toInt = (V57 43 (5 * b + 0)).toInt + 1) := t72
              have t73 : Imp (((xcap (5 * b + 0) : Nat) : Int) ≤ (V57 43 (5 * b + 0)).toInt) (z68.toInt = -1 ∧ (V76 43 (5 * b + 0)).toInt = (V57 43 (5 * b + 0)).toInt) := t73
              have t74 : ∀ n : Nat, ¬ n = (5 * b + 0) → V76 43 n = V57 43 n := t74
              have t75 : (z68.toInt = -1 ∧ L77 = L58) ∨ (0 ≤ z68.toInt ∧ L77 = upL L58 44 (24 * (5 * b + 0) + Int32.toNatClampNeg (V57 43 (5 * b + 0))) (L35 1 5)) := t75
              have ig80 := Imp.go t72 (by first | omega | ((try (have i_t55 := Imp.go t55 (by omega))); (try (have i_t9 := Imp.go t9 (by omega))); (try (have i_t8 := Imp.go t8 (by omega))); (try (have i_t8 := Imp.go t8 (by omega))); (try (have i_t9 := Imp.go t9 (by omega))); (try (have i_t55 := Imp.go t55 (by omega))); omega))
              rcases t75 with ⟨q78, h79⟩ | ⟨q78, h79⟩
              · exfalso; omega
              · skip
                have rl81 : RelC V76 L77 b gT (sA (nx (nx (nx gs 1) 1) 1) 0 wx37) := RelC.add rl63 (by decide) ajV76 (by decide) t74 ig80.2 (by rw [← hw40]; exact h79) (sz24 hMV57) (by omega)
                have hr82 : ∀ k, Rc gT (Crun gs (Istmt :: k)) (Crun (sA (nx (nx (nx gs 1) 1) 1) 0 wx37) (Istmt :: k)) := fun k => Rc.go1 (hr64 k) (m_addTy wx37)
                refine lv_istore_n (lv' := [(3, .int z68), (1, .long (L35 1 5)), (0, .ref (ad 1))]) hx hb dX1_readType_96 rfl hl (by decide) rfl (fun ls hl => ?_)
                refine lv_iload_n hx hb dX1_readType_97 rfl (lv_at hl 0 rfl) ?_
                refine lv_iconst (v := (-1)) hx hb dX1_readType_98 (by decide) ?_
                refine lv_icmp_eq (tgt := 119) hx hb dX1_readType_99 (by decide) (fun c83 => ?_) (fun c83 => ?_)
                · skip
                  have f84 : z68.toInt = (-1) := b_eq rfl (by decide) c83
                  exfalso; first | omega | ((try (have i_t73 := Imp.go t73 (by omega))); (try (have i_t72 := Imp.go t72 (by omega))); (try (have i_t55 := Imp.go t55 (by omega))); (try (have i_t9 := Imp.go t9 (by omega))); (try (have i_t8 := Imp.go t8 (by omega))); (try (have i_t8 := Imp.go t8 (by omega))); (try (have i_t9 := Imp.go t9 (by omega))); (try (have i_t55 := Imp.go t55 (by omega))); (try (have i_t72 := Imp.go t72 (by omega))); (try (have i_t73 := Imp.go t73 (by omega))); omega)
                · skip
                  have f85 : z68.toInt ≠ (-1) := b_neq rfl (by decide) c83
                  refine lv_aload_n hx hb dX1_readType_102 rfl (lv_at hl 2 rfl) ?_
                  refine va_get (D := D) (ci := 1) (v := rfN ad 38 (V76 1 1)) (fs := (xfReader ad V76 L77 Z)) (C := RX1) (T := TX1) (N := 9) hx hb hg inX1 hown hK hP 1 xgReader rfl 1 (by decide) (hg _ w305) (fun _ h9 => h9) rfl dX1_readType_103 ?_
                  have pq86 : (V76 1 1).toInt = ((V 1 1)).toInt := congrArg Int32.toInt ((ajV76 1 1 rfl).trans ((ajV57 1 1 rfl).trans ((up2_k hV44 (by decide)).trans ((ajV34 1 1 rfl).trans (ajV24 1 1 rfl)))))
                  refine g_topv (v := .ref (ad (38 + b))) (rfN_r (by first | omega | ((try (have i_t73 := Imp.go t73 (by omega))); (try (have i_t72 := Imp.go t72 (by omega))); (try (have i_t55 := Imp.go t55 (by omega))); (try (have i_t9 := Imp.go t9 (by omega))); (try (have i_t8 := Imp.go t8 (by omega))); (try (have i_t8 := Imp.go t8 (by omega))); (try (have i_t9 := Imp.go t9 (by omega))); (try (have i_t55 := Imp.go t55 (by omega))); (try (have i_t72 := Imp.go t72 (by omega))); (try (have i_t73 := Imp.go t73 (by omega))); omega))) ?_
                  refine va_getN (D := D) (ci := 0) (v := .ref (ad (60 + b))) (fs := (xfBook ad V76 b)) (C := RX0) (T := TX0) (N := 13) hx hb hg inX0 hown hK hP (38 + b) (xgBook hb2) rfl 5 (by decide) (hnw.use 609 n609 rfl) (fun _ h9 => h9) rfl dX1_readType_106 ?_
                  refine lv_iload_n hx hb dX1_readType_109 rfl (lv_at hl 0 rfl) ?_
                  refine lv_aload_n hx hb dX1_readType_110 rfl (lv_at hl 2 rfl) ?_
                  refine va_get (D := D) (ci := 1) (v := .int (V76 1 7)) (fs := (xfReader ad V76 L77 Z)) (C := RX1) (T := TX1) (N := 9) hx hb hg inX1 hown hK hP 1 xgReader rfl 7 (by decide) (hg _ w311) (fun _ h9 => h9) rfl dX1_readType_111 ?_
                  refine g_top (v := 0) ((ajV76 1 7 rfl).trans ((ajV57 1 7 rfl).trans (up2_s hV44))) ?_
                  refine lv_iconst (v := 1) hx hb dX1_readType_114 (by decide) ?_
                  refine lv_iload_n hx hb dX1_readType_115 rfl (lv_at hl 0 rfl) ?_
                  refine lv_ishl hx hb dX1_readType_116 ?_
                  refine lv_topi (fun z87 ez87 => ?_)
                  have hz87 : 0 ≤ z87.toInt ∧ z87.toInt < 16777216 := shl1 ez87 (by first | omega | ((try (have i_t73 := Imp.go t73 (by omega))); (try (have i_t72 := Imp.go t72 (by omega))); (try (have i_t55 := Imp.go t55 (by omega))); (try (have i_t9 := Imp.go t9 (by omega))); (try (have i_t8 := Imp.go t8 (by omega))); (try (have i_t8 := Imp.go t8 (by omega))); (try (have i_t9 := Imp.go t9 (by omega))); (try (have i_t55 := Imp.go t55 (by omega))); (try (have i_t72 := Imp.go t72 (by omega))); (try (have i_t73 := Imp.go t73 (by omega))); omega))
                  refine lv_ior hx hb dX1_readType_117 ?_
                  refine lv_topi (fun z88 ez88 => ?_)
                  have hz88 : 0 ≤ z88.toInt ∧ z88.toInt < 16777216 := or24 ez88 (by decide) (by first | omega | ((try (have i_t73 := Imp.go t73 (by omega))); (try (have i_t72 := Imp.go t72 (by omega))); (try (have i_t55 := Imp.go t55 (by omega))); (try (have i_t9 := Imp.go t9 (by omega))); (try (have i_t8 := Imp.go t8 (by omega))); (try (have i_t8 := Imp.go t8 (by omega))); (try (have i_t9 := Imp.go t9 (by omega))); (try (have i_t55 := Imp.go t55 (by omega))); (try (have i_t72 := Imp.go t72 (by omega))); (try (have i_t73 := Imp.go t73 (by omega))); omega))
                  have il89 : b < 2 := by first | omega | ((try (have i_t73 := Imp.go t73 (by omega))); (try (have i_t72 := Imp.go t72 (by omega))); (try (have i_t55 := Imp.go t55 (by omega))); (try (have i_t9 := Imp.go t9 (by omega))); (try (have i_t8 := Imp.go t8 (by omega))); (try (have i_t8 := Imp.go t8 (by omega))); (try (have i_t9 := Imp.go t9 (by omega))); (try (have i_t55 := Imp.go t55 (by omega))); (try (have i_t72 := Imp.go t72 (by omega))); (try (have i_t73 := Imp.go t73 (by omega))); omega)
                  refine va_iast (D := D) (i := z68) (x := z88) hx hb hK hP hD hS (60 + b) (53 + b) (xgtypeUnder il89) (xttypeUnder il89) (i_in (a := z68.toInt) rfl (by first | omega | ((try (have i_t73 := Imp.go t73 (by omega))); (try (have i_t72 := Imp.go t72 (by omega))); (try (have i_t55 := Imp.go t55 (by omega))); (try (have i_t9 := Imp.go t9 (by omega))); (try (have i_t8 := Imp.go t8 (by omega))); (try (have i_t8 := Imp.go t8 (by omega))); (try (have i_t9 := Imp.go t9 (by omega))); (try (have i_t55 := Imp.go t55 (by omega))); (try (have i_t72 := Imp.go t72 (by omega))); (try (have i_t73 := Imp.go t73 (by omega))); omega))) dX1_readType_118 (fun H locs hP hD hS => ?_)
                  have kc90 := i_clamp (x := z68) rfl (by first | omega | ((try (have i_t73 := Imp.go t73 (by omega))); (try (have i_t72 := Imp.go t72 (by omega))); (try (have i_t55 := Imp.go t55 (by omega))); (try (have i_t9 := Imp.go t9 (by omega))); (try (have i_t8 := Imp.go t8 (by omega))); (try (have i_t8 := Imp.go t8 (by omega))); (try (have i_t9 := Imp.go t9 (by omega))); (try (have i_t55 := Imp.go t55 (by omega))); (try (have i_t72 := Imp.go t72 (by omega))); (try (have i_t73 := Imp.go t73 (by omega))); omega))
                  have kl91 : (Int32.toNatClampNeg z68) < 24 := by first | omega | ((try (have i_t73 := Imp.go t73 (by omega))); (try (have i_t72 := Imp.go t72 (by omega))); (try (have i_t55 := Imp.go t55 (by omega))); (try (have i_t9 := Imp.go t9 (by omega))); (try (have i_t8 := Imp.go t8 (by omega))); (try (have i_t8 := Imp.go t8 (by omega))); (try (have i_t9 := Imp.go t9 (by omega))); (try (have i_t55 := Imp.go t55 (by omega))); (try (have i_t72 := Imp.go t72 (by omega))); (try (have i_t73 := Imp.go t73 (by omega))); omega)
                  obtain ⟨V92, hV92⟩ : ∃ z, z = up2 V76 45 (24 * b + (Int32.toNatClampNeg z68)) z88 := ⟨_, rfl⟩
                  have ew93 : (xw ad kk V76 L77 Z).set (60 + b) ((ad (60 + b)), .inl ((kk (60 + b)), 24, .inl (upd (fun q => if q < 24 then V76 45 (24 * b + q) else 0) (Int32.toNatClampNeg z68) z88))) = xw ad kk V92 L77 Z := by rw [hV92]; exact xptypeUnder il89 kl91
                  have hP : va_P D vwCl (xw ad kk V92 L77 Z) H := by rw [← ew93]; exact hP
                  have hD : va_D A (xw ad kk V92 L77 Z) := by rw [← ew93]; exact hD
                  have hMV92 : rgd bX V92 := hMV76.put hV92 (i_full _)
                  have agV92 : agr [(1, 3), (1, 6), (1, 7), (6, 8), (6, 9), (6, 10)] [43, 44, 45] V V92 := agV76.up hV92 rfl
                  refine lv_iconst (v := 1) hx hb dX1_readType_119 (by decide) ?_
                  have rl94 : RelC V92 L77 b gT (sA (nx (nx (nx gs 1) 1) 1) 0 wx37) := RelC.ag rl81 (show agr [] [45] V76 V92 from (agr.up agr.rf hV92 rfl)) (by decide) (show agL [] L77 L77 from agL.rf) (by decide)
                  have ps95 : gs.1 0 + 1 ≤ (nx gs 1).1 0 := ((keepS.n1 1)).1
                  have ps96 : (nx gs 1).1 0 + 1 ≤ (nx (nx gs 1) 1).1 0 := ((keepS.n1 1)).1
                  have ps97 : (nx (nx gs 1) 1).1 0 + 1 ≤ (nx (nx (nx gs 1) 1) 1).1 0 := ((keepS.n1 1)).1
                  have ps98 : (sA (nx (nx (nx gs 1) 1) 1) 0 wx37).1 0 = (nx (nx (nx gs 1) 1) 1).1 0 := rfl
                  have rw99 : ROWL b L L77 := (fun k hk => ((ROWL.ad t75 t73 (hMV57 43 _).1 (by omega) hk).trans ((axL58 44 k rfl).trans ((axL35 44 k rfl).trans ((axL25 44 k rfl).trans rfl)))))
                  exact W.zret (v := 1) hx hb hr rfl (fun t ht hW => ⟨⟨1, (V92, L77), rfl, ⟨hMV92, agV92, alL77, (by decide), (Or.inl ⟨rfl, (sA (nx (nx (nx gs 1) 1) 1) 0 wx37), hr82, rl94, (by omega)⟩), rw99⟩, by rw [ht]; exact hP, va_K.moved hW.alike hK, hD⟩, hS.F ht⟩) hS.2.2 dX1_readType_120
            · skip
              have f100 : z52.toInt = 0 := b_eq rfl (by decide) c65
              exfalso; first | omega | ((try (have i_t55 := Imp.go t55 (by omega))); (try (have i_t9 := Imp.go t9 (by omega))); (try (have i_t8 := Imp.go t8 (by omega))); (try (have i_t8 := Imp.go t8 (by omega))); (try (have i_t9 := Imp.go t9 (by omega))); (try (have i_t55 := Imp.go t55 (by omega))); omega)
          · skip
            have hb101 : ∀ k, Rc gT (Crun gs (Istmt :: k)) (Cbad (V57 1 3).toInt) := fun k => Rc.go1 (hr50 k) ((tk_n (fun h9 => h60 (rl48.tok.1.symm.trans (h9.trans (by decide))))).trans (fl_eq rl48.tok.2.2 k61))
            refine lv_if_ne (tgt := 85) hx hb dX1_readType_80 (by decide) (fun c102 => ?_) (fun c102 => ?_)
            · skip
              have f103 : z52.toInt ≠ 0 := b_neq rfl (by decide) c102
              exfalso; first | omega | ((try (have i_t55 := Imp.go t55 (by omega))); (try (have i_t9 := Imp.go t9 (by omega))); (try (have i_t8 := Imp.go t8 (by omega))); (try (have i_t8 := Imp.go t8 (by omega))); (try (have i_t9 := Imp.go t9 (by omega))); (try (have i_t55 := Imp.go t55 (by omega))); omega)
            · skip
              have f104 : z52.toInt = 0 := b_eq rfl (by decide) c102
              refine lv_iconst (v := 0) hx hb dX1_readType_83 (by decide) ?_
              have rw105 : ROWL b L L58 := (fun k hk => ((axL58 44 k rfl).trans ((axL35 44 k rfl).trans ((axL25 44 k rfl).trans rfl))))
              exact W.zret (v := 0) hx hb hr rfl (fun t ht hW => ⟨⟨0, (V57, L58), rfl, ⟨hMV57, agV57, alL58, (by decide), (Or.inr ⟨rfl, hb101⟩), rw105⟩, by rw [ht]; exact hP, va_K.moved hW.alike hK, hD⟩, hS.F ht⟩) hS.2.2 dX1_readType_84
        · skip
          have f106 : ((V34 6 9)).toInt = 129 := b_eq rfl (by decide) c46
          refine lv_aload_n hx hb dX1_readType_58 rfl (lv_at hl 1 rfl) ?_
          refine va_get (D := D) (ci := 1) (v := .ref (ad 6)) (fs := (xfReader ad V44 L35 Z)) (C := RX1) (T := TX1) (N := 9) hx hb hg inX1 hown hK hP 1 xgReader rfl 0 (by decide) (hg _ w304) (fun _ h9 => h9) rfl dX1_readType_59 ?_
          have rl107 : RelC V44 L35 b gT (nx (nx gs 1) 1) := RelC.ag rl39 (show agr [(1, 7)] [] V34 V44 from (agr.up agr.rf hV44 rfl)) (by decide) (show agL [] L35 L35 from agL.rf) (by decide)
          have kd108 : gT.1 ((nx (nx gs 1) 1).1 0) = ((V34 6 9)).toInt := (RelC.kd rl107).trans (congrArg Int32.toInt (up2_o hV44 (by decide)))
          have hr109 : ∀ k, Rc gT (Crun gs (Istmt :: k)) (Crun (nx (nx (nx gs 1) 1) 1) (Itypes 0 [] :: Itake 59 :: IaddTy wx37 :: Istmt :: k)) := fun k => Rc.go1 (hr41 k) (like_y wx37 (kd108.trans f106))
          have l8110 := RelC.l8 rl107
          have pq111 : (V44 6 8).toInt = ((V34 6 8)).toInt := congrArg Int32.toInt (up2_o hV44 (by decide))
          have r112 : 0 ≤ ((V34 6 8)).toInt ∧ ((V34 6 8)).toInt ≤ 4000 := hMV34 6 8
          have pq113 : (V44 6 7).toInt = ((V 6 7)).toInt := congrArg Int32.toInt ((up2_o hV44 (by decide)).trans ((ajV34 6 7 rfl).trans (ajV24 6 7 rfl)))
          have pq114 : (V44 6 9).toInt = ((V34 6 9)).toInt := congrArg Int32.toInt (up2_o hV44 (by decide))
          have lk115 := RelC.lk rl107 (show (V44 6 9).toInt ≠ 0 from by omega)
          refine gA_void (gA_runV (As := []) (rest := []) (ci := 9) (q0 := 6) hx hb hml hown hg hP hD hK hS hA hnw hgk (x_next2 l D ks H.size ad kk V44 L35 Z  hMV44 (show (V44 6 8).toInt ≤ (V44 6 7).toInt from by first | omega | ((try (have i_t9 := Imp.go t9 (by omega))); (try (have i_t8 := Imp.go t8 (by omega))); (try (have i_t8 := Imp.go t8 (by omega))); (try (have i_t9 := Imp.go t9 (by omega))); omega))) w871 w852 w853 w157 w854 rfl xgTape hdV_yX9_next ⟨Nat.le_of_ble_eq_true rfl, Nat.le_of_ble_eq_true rfl⟩ rfl hl.1 rfl (Nat.le_of_ble_eq_true rfl) dX1_readType_62 ⟨Nat.le_of_ble_eq_true rfl, Nat.le_of_ble_eq_true rfl⟩) hP hD hK hS hA (fun u117 H locs w118 hP hD hK hS => ?_)
          obtain ⟨V121, L122⟩ := u117
          obtain ⟨hMV121, ajV121, axL122, t119, t120⟩ := w118
          have alL122 : agL [1, 6, 44] L L122 := agL.tr alL35 axL122 (by decide)
          have hP : va_P D vwCl (xw ad kk V121 L122 Z) H := hP
          have hD : va_D A (xw ad kk V121 L122 Z) := hD
          have hMV121 : rgd bX V121 := hMV121
          have ajV121 : agr [(6, 8), (6, 9), (6, 10)] [] V44 V121 := ajV121
          have agV121 : agr [(1, 3), (1, 6), (1, 7), (6, 8), (6, 9), (6, 10)] [43, 44, 45] V V121 := agV44.tr ajV121 (by decide) (by decide)
          have t119 : (V121 6 8).toInt ≤ (V121 6 7).toInt := t119
          have t120 : CUR V121 L122 (Int32.toNatClampNeg (V44 6 8)) := t120
          have r123 : 0 ≤ ((V121 6 8)).toInt ∧ ((V121 6 8)).toInt ≤ 4000 := hMV121 6 8
          have pq124 : (V121 6 7).toInt = ((V 6 7)).toInt := congrArg Int32.toInt ((ajV121 6 7 rfl).trans ((up2_o hV44 (by decide)).trans ((ajV34 6 7 rfl).trans (ajV24 6 7 rfl))))
          have rl125 : RelC V121 L122 b gT (nx (nx (nx gs 1) 1) 1) := RelC.nx1 rl107 ajV121 (by decide) axL122 (by decide) (by rw [← lk115]; exact t120) (ajV121 1 3 rfl)
          refine lv_aload_n hx hb dX1_readType_65 rfl (lv_at hl 1 rfl) ?_
          have pq126 : (V121 1 1).toInt = ((V 1 1)).toInt := congrArg Int32.toInt ((ajV121 1 1 rfl).trans ((up2_k hV44 (by decide)).trans ((ajV34 1 1 rfl).trans (ajV24 1 1 rfl))))
          refine gA_int (gA_runV (As := []) (rest := []) (ci := 1) (q0 := 1) hx hb hml hown hg hP hD hK hS hA hnw hgk (x_takeTypes3 l D ks H.size ad kk V121 L122 Z (b) (gT) ((nx (nx (nx gs 1) 1) 1)) hMV121 (show b < 2 from by first | omega | ((try (have i_t9 := Imp.go t9 (by omega))); (try (have i_t8 := Imp.go t8 (by omega))); (try (have i_t8 := Imp.go t8 (by omega))); (try (have i_t9 := Imp.go t9 (by omega))); omega)) (show (V121 1 1).toInt = (b : Int) from by first | omega | ((try (have i_t9 := Imp.go t9 (by omega))); (try (have i_t8 := Imp.go t8 (by omega))); (try (have i_t8 := Imp.go t8 (by omega))); (try (have i_t9 := Imp.go t9 (by omega))); omega)) rl125) w884 w886 w8 w162 w887 rfl xgReader hdV_yX1_takeTypes ⟨Nat.le_of_ble_eq_true rfl, Nat.le_of_ble_eq_true rfl⟩ rfl hl.1 rfl (Nat.le_of_ble_eq_true rfl) dX1_readType_66 ⟨Nat.le_of_ble_eq_true rfl, Nat.le_of_ble_eq_true rfl⟩) hP hD hK hS hA (fun z127 u128 H locs w129 hP hD hK hS => ?_)
          obtain ⟨V131, L132⟩ := u128
          obtain ⟨hMV131, ajV131, axL132, rgz127, t130⟩ := w129
          have alL132 : agL [1, 6, 44] L L132 := agL.tr alL122 axL132 (by decide)
          have hP : va_P D vwCl (xw ad kk V131 L132 Z) H := hP
          have hD : va_D A (xw ad kk V131 L132 Z) := hD
          have hMV131 : rgd bX V131 := hMV131
          have ajV131 : agr [(1, 3), (1, 6), (1, 7), (6, 8), (6, 9), (6, 10)] [] V121 V131 := ajV131
          have agV131 : agr [(1, 3), (1, 6), (1, 7), (6, 8), (6, 9), (6, 10)] [43, 44, 45] V V131 := agV121.tr ajV131 (by decide) (by decide)
          have rgz127 : 0 ≤ z127.toInt ∧ z127.toInt ≤ 1 := rgz127
          have t130 : Rd gT (nx (nx (nx gs 1) 1) 1) (fun k => Itypes 0 [] :: k) (fun k => k) z127.toInt (V131 1 3).toInt (fun s9 => RelC V131 L132 b gT s9 ∧ keepS (nx (nx (nx gs 1) 1) 1) 1 s9) := t130
          rcases t130 with ⟨q133, sx134, h135, rl136, kp137⟩ | ⟨q133, h135⟩
          · skip
            have hr138 : ∀ k, Rc gT (Crun gs (Istmt :: k)) (Crun sx134 (Itake 59 :: IaddTy wx37 :: Istmt :: k)) := fun k => (hr109 k).tr (h135 (Itake 59 :: IaddTy wx37 :: Istmt :: k))
            refine lv_if_ne (tgt := 74) hx hb dX1_readType_69 (by decide) (fun c139 => ?_) (fun c139 => ?_)
            · skip
              have f140 : z127.toInt ≠ 0 := b_neq rfl (by decide) c139
              refine lv_aload_n hx hb dX1_readType_74 rfl (lv_at hl 1 rfl) ?_
              refine lv_bipush (v := 59) hx hb dX1_readType_75 (by decide) ?_
              have r141 : Int32.toInt 59 = 59 := by decide
              refine gA_int (gA_runV (As := [.int 59]) (rest := []) (ci := 1) (q0 := 1) hx hb hml hown hg hP hD hK hS hA hnw hgk (x_take2 l D ks H.size ad kk V131 L132 Z 59 ((sx134.1 0)) hMV131 (rl136).1 (rl136).2.1.1 (show 1 ≤ (Int32.toInt 59) from by first | omega | ((try (have i_t9 := Imp.go t9 (by omega))); (try (have i_t8 := Imp.go t8 (by omega))); (try (have i_t8 := Imp.go t8 (by omega))); (try (have i_t9 := Imp.go t9 (by omega))); omega))) w893 w895 w10 w162 w896 rfl xgReader hdV_yX1_take ⟨Nat.le_of_ble_eq_true rfl, Nat.le_of_ble_eq_true rfl⟩ rfl hl.1 rfl (Nat.le_of_ble_eq_true rfl) dX1_readType_77 ⟨Nat.le_of_ble_eq_true rfl, Nat.le_of_ble_eq_true rfl⟩) hP hD hK hS hA (fun z142 u143 H locs w144 hP hD hK hS => ?_)
              obtain ⟨V147, L148⟩ := u143
              obtain ⟨hMV147, ajV147, axL148, rgz142, t145, t146⟩ := w144
              have alL148 : agL [1, 6, 44] L L148 := agL.tr alL132 axL148 (by decide)
              have hP : va_P D vwCl (xw ad kk V147 L148 Z) H := hP
              have hD : va_D A (xw ad kk V147 L148 Z) := hD
              have hMV147 : rgd bX V147 := hMV147
              have ajV147 : agr [(1, 3), (6, 8), (6, 9), (6, 10)] [] V131 V147 := ajV147
              have agV147 : agr [(1, 3), (1, 6), (1, 7), (6, 8), (6, 9), (6, 10)] [43, 44, 45] V V147 := agV131.tr ajV147 (by decide) (by decide)
              have rgz142 : 0 ≤ z142.toInt ∧ z142.toInt ≤ 1 := rgz142
              have t145 : Imp (z142.toInt = 0) (1 ≤ (V147 1 3).toInt) := t145
              have t146 : (z142.toInt = 1 ∧ (V131 12 (sx134.1 0)).toInt = (Int32.toInt 59) ∧ CUR V147 L148 ((sx134.1 0) + 1) ∧ V147 1 3 = V131 1 3) ∨ (z142.toInt = 0 ∧ (V131 12 (sx134.1 0)).toInt ≠ (Int32.toInt 59) ∧ (V147 1 3).toInt = 1 + 16 * (V131 13 (sx134.1 0)).toInt) := t146
              rcases t146 with ⟨q149, h150, k151, k152⟩ | ⟨q149, h150, k151⟩
              · skip
                have rl153 : RelC V147 L148 b gT (nx sx134 1) := RelC.nx1 rl136 ajV147 (by decide) axL148 (by decide) k151 k152
                have hr154 : ∀ k, Rc gT (Crun gs (Istmt :: k)) (Crun (nx sx134 1) (IaddTy wx37 :: Istmt :: k)) := fun k => Rc.go1 (hr138 k) (tk_y (rl136.tok.1.trans (h150.trans (by decide))))
                refine lv_if_ne (tgt := 85) hx hb dX1_readType_80 (by decide) (fun c155 => ?_) (fun c155 => ?_)
                · skip
                  have f156 : z142.toInt ≠ 0 := b_neq rfl (by decide) c155
                  refine lv_aload_n hx hb dX1_readType_85 rfl (lv_at hl 1 rfl) ?_
                  refine va_get (D := D) (ci := 1) (v := rfN ad 38 (V147 1 1)) (fs := (xfReader ad V147 L148 Z)) (C := RX1) (T := TX1) (N := 9) hx hb hg inX1 hown hK hP 1 xgReader rfl 1 (by decide) (hg _ w305) (fun _ h9 => h9) rfl dX1_readType_86 ?_
                  have pq157 : (V147 1 1).toInt = ((V 1 1)).toInt := congrArg Int32.toInt ((ajV147 1 1 rfl).trans ((ajV131 1 1 rfl).trans ((ajV121 1 1 rfl).trans ((up2_k hV44 (by decide)).trans ((ajV34 1 1 rfl).trans (ajV24 1 1 rfl))))))
                  refine g_topv (v := .ref (ad (38 + b))) (rfN_r (by first | omega | ((try (have i_t145 := Imp.go t145 (by omega))); (try (have i_t9 := Imp.go t9 (by omega))); (try (have i_t8 := Imp.go t8 (by omega))); (try (have i_t8 := Imp.go t8 (by omega))); (try (have i_t9 := Imp.go t9 (by omega))); (try (have i_t145 := Imp.go t145 (by omega))); omega))) ?_
                  refine va_getN (D := D) (ci := 0) (v := .ref (ad (40 + (5 * b + 0)))) (fs := (xfBook ad V147 b)) (C := RX0) (T := TX0) (N := 13) hx hb hg inX0 hown hK hP (38 + b) (xgBook hb2) rfl 0 (by decide) (hnw.use 594 n594 rfl) (fun _ h9 => h9) rfl dX1_readType_89 ?_
                  refine lv_lload_n hx hb dX1_readType_92 rfl (lv_at hl 0 rfl) ?_
                  have ad1 := (rl153.2.2.1 0 (by decide)).1
                  have ad2 := congrArg List.length (((keepS.tr (keepS.tr (keepS.tr (keepS.tr (keepS.tr (keepS.rf : keepS gs 0 gs) (keepS.n1 1)) (keepS.n1 1)) (keepS.n1 1)) kp137) (keepS.n1 1))).2.2.1 0 (by decide))
                  have ad3 := ln0
                  refine gA_int (gA_runV (As := [.long (L35 1 5)]) (rest := []) (ci := 6) (q0 := (40 + (5 * b + 0))) hx hb hml hown hg hP hD hK hS hA hnw hgk (x_add2 l D ks H.size ad kk V147 L148 Z (L35 1 5) ((5 * b + 0)) hMV147 (show (5 * b + 0) < 10 from by first | omega | ((try (have i_t145 := Imp.go t145 (by omega))); (try (have i_t9 := Imp.go t9 (by omega))); (try (have i_t8 := Imp.go t8 (by omega))); (try (have i_t8 := Imp.go t8 (by omega))); (try (have i_t9 := Imp.go t9 (by omega))); (try (have i_t145 := Imp.go t145 (by omega))); omega))) w897 w898 w899 w168 w900 rfl (xgNames il4) hdV_yX6_add ⟨Nat.le_of_ble_eq_true rfl, Nat.le_of_ble_eq_true rfl⟩ rfl hl.1 rfl (Nat.le_of_ble_eq_true rfl) dX1_readType_93 ⟨Nat.le_of_ble_eq_true rfl, Nat.le_of_ble_eq_true rfl⟩) hP hD hK hS hA (fun z158 u159 H locs w160 hP hD hK hS => ?_)
                  obtain ⟨V166, L167⟩ := u159
                  obtain ⟨hMV166, ajV166, axL167, fyV166, rgz158, t161, t162, t163, t164, t165⟩ := w160
                  have alL167 : agL [1, 6, 44] L L167 := agL.tr alL148 axL167 (by decide)
                  have hP : va_P D vwCl (xw ad kk V166 L167 Z) H := hP
                  have hD : va_D A (xw ad kk V166 L167 Z) := hD
                  have hMV166 : rgd bX V166 := hMV166
                  have ajV166 : agr [] [43, 44] V147 V166 := ajV166
                  have agV166 : agr [(1, 3), (1, 6), (1, 7), (6, 8), (6, 9), (6, 10)] [43, 44, 45] V V166 := agV147.tr ajV166 (by decide) (by decide)
                  have rgz158 : (-1) ≤ z158.toInt ∧ z158.toInt ≤ 23 := rgz158
                  have t161 : z158.toInt < (V166 43 (5 * b + 0)).toInt := t161
                  have t162 : Imp ((V147 43 (5 * b + 0)).toInt < ((xcap (5 * b + 0) : Nat) : Int)) (z158.toInt = (V147 43 (5 * b + 0)).toInt ∧ (V166 43 (5 * b + 0)).toInt = (V147 43 (5 * b + 0)).toInt + 1) := t162
                  have t163 : Imp (((xcap (5 * b + 0) : Nat) : Int) ≤ (V147 43 (5 * b + 0)).toInt) (z158.toInt = -1 ∧ (V166 43 (5 * b + 0)).toInt = (V147 43 (5 * b + 0)).toInt) := t163
                  have t164 : ∀ n : Nat, ¬ n = (5 * b + 0) → V166 43 n = V147 43 n := t164
                  have t165 : (z158.toInt = -1 ∧ L167 = L148) ∨ (0 ≤ z158.toInt ∧ L167 = upL L148 44 (24 * (5 * b + 0) + Int32.toNatClampNeg (V147 43 (5 * b + 0))) (L35 1 5)) := t165
                  have ig170 := Imp.go t162 (by first | omega | ((try (have i_t145 := Imp.go t145 (by omega))); (try (have i_t9 := Imp.go t9 (by omega))); (try (have i_t8 := Imp.go t8 (by omega))); (try (have i_t8 := Imp.go t8 (by omega))); (try (have i_t9 := Imp.go t9 (by omega))); (try (have i_t145 := Imp.go t145 (by omega))); omega))
                  rcases t165 with ⟨q168, h169⟩ | ⟨q168, h169⟩
                  · exfalso; omega
                  · skip
                    have rl171 : RelC V166 L167 b gT (sA (nx sx134 1) 0 wx37) := RelC.add rl153 (by decide) ajV166 (by decide) t164 ig170.2 (by rw [← hw40]; exact h169) (sz24 hMV147) (by omega)
                    have hr172 : ∀ k, Rc gT (Crun gs (Istmt :: k)) (Crun (sA (nx sx134 1) 0 wx37) (Istmt :: k)) := fun k => Rc.go1 (hr154 k) (m_addTy wx37)
                    refine lv_istore_n (lv' := [(3, .int z158), (1, .long (L35 1 5)), (0, .ref (ad 1))]) hx hb dX1_readType_96 rfl hl (by decide) rfl (fun ls hl => ?_)
                    refine lv_iload_n hx hb dX1_readType_97 rfl (lv_at hl 0 rfl) ?_
                    refine lv_iconst (v := (-1)) hx hb dX1_readType_98 (by decide) ?_
                    refine lv_icmp_eq (tgt := 119) hx hb dX1_readType_99 (by decide) (fun c173 => ?_) (fun c173 => ?_)
                    · skip
                      have f174 : z158.toInt = (-1) := b_eq rfl (by decide) c173
                      exfalso; first | omega | ((try (have i_t163 := Imp.go t163 (by omega))); (try (have i_t162 := Imp.go t162 (by omega))); (try (have i_t145 := Imp.go t145 (by omega))); (try (have i_t9 := Imp.go t9 (by omega))); (try (have i_t8 := Imp.go t8 (by omega))); (try (have i_t8 := Imp.go t8 (by omega))); (try (have i_t9 := Imp.go t9 (by omega))); (try (have i_t145 := Imp.go t145 (by omega))); (try (have i_t162 := Imp.go t162 (by omega))); (try (have i_t163 := Imp.go t163 (by omega))); omega)
                    · skip
                      have f175 : z158.toInt ≠ (-1) := b_neq rfl (by decide) c173
                      refine lv_aload_n hx hb dX1_readType_102 rfl (lv_at hl 2 rfl) ?_
                      refine va_get (D := D) (ci := 1) (v := rfN ad 38 (V166 1 1)) (fs := (xfReader ad V166 L167 Z)) (C := RX1) (T := TX1) (N := 9) hx hb hg inX1 hown hK hP 1 xgReader rfl 1 (by decide) (hg _ w305) (fun _ h9 => h9) rfl dX1_readType_103 ?_
                      have pq176 : (V166 1 1).toInt = ((V 1 1)).toInt := congrArg Int32.toInt ((ajV166 1 1 rfl).trans ((ajV147 1 1 rfl).trans ((ajV131 1 1 rfl).trans ((ajV121 1 1 rfl).trans ((up2_k hV44 (by decide)).trans ((ajV34 1 1 rfl).trans (ajV24 1 1 rfl)))))))
                      refine g_topv (v := .ref (ad (38 + b))) (rfN_r (by first | omega | ((try (have i_t163 := Imp.go t163 (by omega))); (try (have i_t162 := Imp.go t162 (by omega))); (try (have i_t145 := Imp.go t145 (by omega))); (try (have i_t9 := Imp.go t9 (by omega))); (try (have i_t8 := Imp.go t8 (by omega))); (try (have i_t8 := Imp.go t8 (by omega))); (try (have i_t9 := Imp.go t9 (by omega))); (try (have i_t145 := Imp.go t145 (by omega))); (try (have i_t162 := Imp.go t162 (by omega))); (try (have i_t163 := Imp.go t163 (by omega))); omega))) ?_
                      refine va_getN (D := D) (ci := 0) (v := .ref (ad (60 + b))) (fs := (xfBook ad V166 b)) (C := RX0) (T := TX0) (N := 13) hx hb hg inX0 hown hK hP (38 + b) (xgBook hb2) rfl 5 (by decide) (hnw.use 609 n609 rfl) (fun _ h9 => h9) rfl dX1_readType_106 ?_
                      refine lv_iload_n hx hb dX1_readType_109 rfl (lv_at hl 0 rfl) ?_
                      refine lv_aload_n hx hb dX1_readType_110 rfl (lv_at hl 2 rfl) ?_
                      refine va_get (D := D) (ci := 1) (v := .int (V166 1 7)) (fs := (xfReader ad V166 L167 Z)) (C := RX1) (T := TX1) (N := 9) hx hb hg inX1 hown hK hP 1 xgReader rfl 7 (by decide) (hg _ w311) (fun _ h9 => h9) rfl dX1_readType_111 ?_
                      refine g_top (v := (V131 1 7)) ((ajV166 1 7 rfl).trans (ajV147 1 7 rfl)) ?_
                      refine lv_iconst (v := 1) hx hb dX1_readType_114 (by decide) ?_
                      refine lv_iload_n hx hb dX1_readType_115 rfl (lv_at hl 0 rfl) ?_
                      refine lv_ishl hx hb dX1_readType_116 ?_
                      refine lv_topi (fun z177 ez177 => ?_)
                      have hz177 : 0 ≤ z177.toInt ∧ z177.toInt < 16777216 := shl1 ez177 (by first | omega | ((try (have i_t163 := Imp.go t163 (by omega))); (try (have i_t162 := Imp.go t162 (by omega))); (try (have i_t145 := Imp.go t145 (by omega))); (try (have i_t9 := Imp.go t9 (by omega))); (try (have i_t8 := Imp.go t8 (by omega))); (try (have i_t8 := Imp.go t8 (by omega))); (try (have i_t9 := Imp.go t9 (by omega))); (try (have i_t145 := Imp.go t145 (by omega))); (try (have i_t162 := Imp.go t162 (by omega))); (try (have i_t163 := Imp.go t163 (by omega))); omega))
                      refine lv_ior hx hb dX1_readType_117 ?_
                      refine lv_topi (fun z178 ez178 => ?_)
                      have il179 : b < 2 := by first | omega | ((try (have i_t163 := Imp.go t163 (by omega))); (try (have i_t162 := Imp.go t162 (by omega))); (try (have i_t145 := Imp.go t145 (by omega))); (try (have i_t9 := Imp.go t9 (by omega))); (try (have i_t8 := Imp.go t8 (by omega))); (try (have i_t8 := Imp.go t8 (by omega))); (try (have i_t9 := Imp.go t9 (by omega))); (try (have i_t145 := Imp.go t145 (by omega))); (try (have i_t162 := Imp.go t162 (by omega))); (try (have i_t163 := Imp.go t163 (by omega))); omega)
                      refine va_iast (D := D) (i := z158) (x := z178) hx hb hK hP hD hS (60 + b) (53 + b) (xgtypeUnder il179) (xttypeUnder il179) (i_in (a := z158.toInt) rfl (by first | omega | ((try (have i_t163 := Imp.go t163 (by omega))); (try (have i_t162 := Imp.go t162 (by omega))); (try (have i_t145 := Imp.go t145 (by omega))); (try (have i_t9 := Imp.go t9 (by omega))); (try (have i_t8 := Imp.go t8 (by omega))); (try (have i_t8 := Imp.go t8 (by omega))); (try (have i_t9 := Imp.go t9 (by omega))); (try (have i_t145 := Imp.go t145 (by omega))); (try (have i_t162 := Imp.go t162 (by omega))); (try (have i_t163 := Imp.go t163 (by omega))); omega))) dX1_readType_118 (fun H locs hP hD hS => ?_)
                      have kc180 := i_clamp (x := z158) rfl (by first | omega | ((try (have i_t163 := Imp.go t163 (by omega))); (try (have i_t162 := Imp.go t162 (by omega))); (try (have i_t145 := Imp.go t145 (by omega))); (try (have i_t9 := Imp.go t9 (by omega))); (try (have i_t8 := Imp.go t8 (by omega))); (try (have i_t8 := Imp.go t8 (by omega))); (try (have i_t9 := Imp.go t9 (by omega))); (try (have i_t145 := Imp.go t145 (by omega))); (try (have i_t162 := Imp.go t162 (by omega))); (try (have i_t163 := Imp.go t163 (by omega))); omega))
                      have kl181 : (Int32.toNatClampNeg z158) < 24 := by first | omega | ((try (have i_t163 := Imp.go t163 (by omega))); (try (have i_t162 := Imp.go t162 (by omega))); (try (have i_t145 := Imp.go t145 (by omega))); (try (have i_t9 := Imp.go t9 (by omega))); (try (have i_t8 := Imp.go t8 (by omega))); (try (have i_t8 := Imp.go t8 (by omega))); (try (have i_t9 := Imp.go t9 (by omega))); (try (have i_t145 := Imp.go t145 (by omega))); (try (have i_t162 := Imp.go t162 (by omega))); (try (have i_t163 := Imp.go t163 (by omega))); omega)
                      obtain ⟨V182, hV182⟩ : ∃ z, z = up2 V166 45 (24 * b + (Int32.toNatClampNeg z158)) z178 := ⟨_, rfl⟩
                      have ew183 : (xw ad kk V166 L167 Z).set (60 + b) ((ad (60 + b)), .inl ((kk (60 + b)), 24, .inl (upd (fun q => if q < 24 then V166 45 (24 * b + q) else 0) (Int32.toNatClampNeg z158) z178))) = xw ad kk V182 L167 Z := by rw [hV182]; exact xptypeUnder il179 kl181
                      have hP : va_P D vwCl (xw ad kk V182 L167 Z) H := by rw [← ew183]; exact hP
                      have hD : va_D A (xw ad kk V182 L167 Z) := by rw [← ew183]; exact hD
                      have hMV182 : rgd bX V182 := hMV166.put hV182 (i_full _)
                      have agV182 : agr [(1, 3), (1, 6), (1, 7), (6, 8), (6, 9), (6, 10)] [43, 44, 45] V V182 := agV166.up hV182 rfl
                      refine lv_iconst (v := 1) hx hb dX1_readType_119 (by decide) ?_
                      have rl184 : RelC V182 L167 b gT (sA (nx sx134 1) 0 wx37) := RelC.ag rl171 (show agr [] [45] V166 V182 from (agr.up agr.rf hV182 rfl)) (by decide) (show agL [] L167 L167 from agL.rf) (by decide)
                      have ps185 : gs.1 0 + 1 ≤ (nx gs 1).1 0 := ((keepS.n1 1)).1
                      have ps186 : (nx gs 1).1 0 + 1 ≤ (nx (nx gs 1) 1).1 0 := ((keepS.n1 1)).1
                      have ps187 : (nx (nx gs 1) 1).1 0 + 1 ≤ (nx (nx (nx gs 1) 1) 1).1 0 := ((keepS.n1 1)).1
                      have ps188 : (nx (nx (nx gs 1) 1) 1).1 0 + 1 ≤ sx134.1 0 := (kp137).1
                      have ps189 : sx134.1 0 + 1 ≤ (nx sx134 1).1 0 := ((keepS.n1 1)).1
                      have ps190 : (sA (nx sx134 1) 0 wx37).1 0 = (nx sx134 1).1 0 := rfl
                      have rw191 : ROWL b L L167 := (fun k hk => ((ROWL.ad t165 t163 (hMV147 43 _).1 (by omega) hk).trans ((axL148 44 k rfl).trans ((axL132 44 k rfl).trans ((axL122 44 k rfl).trans ((axL35 44 k rfl).trans ((axL25 44 k rfl).trans rfl)))))))
                      exact W.zret (v := 1) hx hb hr rfl (fun t ht hW => ⟨⟨1, (V182, L167), rfl, ⟨hMV182, agV182, alL167, (by decide), (Or.inl ⟨rfl, (sA (nx sx134 1) 0 wx37), hr172, rl184, (by omega)⟩), rw191⟩, by rw [ht]; exact hP, va_K.moved hW.alike hK, hD⟩, hS.F ht⟩) hS.2.2 dX1_readType_120
                · skip
                  have f192 : z142.toInt = 0 := b_eq rfl (by decide) c155
                  exfalso; first | omega | ((try (have i_t145 := Imp.go t145 (by omega))); (try (have i_t9 := Imp.go t9 (by omega))); (try (have i_t8 := Imp.go t8 (by omega))); (try (have i_t8 := Imp.go t8 (by omega))); (try (have i_t9 := Imp.go t9 (by omega))); (try (have i_t145 := Imp.go t145 (by omega))); omega)
              · skip
                have hb193 : ∀ k, Rc gT (Crun gs (Istmt :: k)) (Cbad (V147 1 3).toInt) := fun k => Rc.go1 (hr138 k) ((tk_n (fun h9 => h150 (rl136.tok.1.symm.trans (h9.trans (by decide))))).trans (fl_eq rl136.tok.2.2 k151))
                refine lv_if_ne (tgt := 85) hx hb dX1_readType_80 (by decide) (fun c194 => ?_) (fun c194 => ?_)
                · skip
                  have f195 : z142.toInt ≠ 0 := b_neq rfl (by decide) c194
                  exfalso; first | omega | ((try (have i_t145 := Imp.go t145 (by omega))); (try (have i_t9 := Imp.go t9 (by omega))); (try (have i_t8 := Imp.go t8 (by omega))); (try (have i_t8 := Imp.go t8 (by omega))); (try (have i_t9 := Imp.go t9 (by omega))); (try (have i_t145 := Imp.go t145 (by omega))); omega)
                · skip
                  have f196 : z142.toInt = 0 := b_eq rfl (by decide) c194
                  refine lv_iconst (v := 0) hx hb dX1_readType_83 (by decide) ?_
                  have rw197 : ROWL b L L148 := (fun k hk => ((axL148 44 k rfl).trans ((axL132 44 k rfl).trans ((axL122 44 k rfl).trans ((axL35 44 k rfl).trans ((axL25 44 k rfl).trans rfl))))))
                  exact W.zret (v := 0) hx hb hr rfl (fun t ht hW => ⟨⟨0, (V147, L148), rfl, ⟨hMV147, agV147, alL148, (by decide), (Or.inr ⟨rfl, hb193⟩), rw197⟩, by rw [ht]; exact hP, va_K.moved hW.alike hK, hD⟩, hS.F ht⟩) hS.2.2 dX1_readType_84
            · skip
              have f198 : z127.toInt = 0 := b_eq rfl (by decide) c139
              exfalso; first | omega | ((try (have i_t9 := Imp.go t9 (by omega))); (try (have i_t8 := Imp.go t8 (by omega))); (try (have i_t8 := Imp.go t8 (by omega))); (try (have i_t9 := Imp.go t9 (by omega))); omega)
          · skip
            have hb199 : ∀ k, Rc gT (Crun gs (Istmt :: k)) (Cbad (V131 1 3).toInt) := fun k => (hr109 k).tr (h135 (Itake 59 :: IaddTy wx37 :: Istmt :: k))
            refine lv_if_ne (tgt := 74) hx hb dX1_readType_69 (by decide) (fun c200 => ?_) (fun c200 => ?_)
            · skip
              have f201 : z127.toInt ≠ 0 := b_neq rfl (by decide) c200
              exfalso; first | omega | ((try (have i_t9 := Imp.go t9 (by omega))); (try (have i_t8 := Imp.go t8 (by omega))); (try (have i_t8 := Imp.go t8 (by omega))); (try (have i_t9 := Imp.go t9 (by omega))); omega)
            · skip
              have f202 : z127.toInt = 0 := b_eq rfl (by decide) c200
              refine lv_iconst (v := 0) hx hb dX1_readType_72 (by decide) ?_
              have rw203 : ROWL b L L132 := (fun k hk => ((axL132 44 k rfl).trans ((axL122 44 k rfl).trans ((axL35 44 k rfl).trans ((axL25 44 k rfl).trans rfl)))))
              exact W.zret (v := 0) hx hb hr rfl (fun t ht hW => ⟨⟨0, (V131, L132), rfl, ⟨hMV131, agV131, alL132, (by decide), (Or.inr ⟨rfl, hb199⟩), rw203⟩, by rw [ht]; exact hP, va_K.moved hW.alike hK, hD⟩, hS.F ht⟩) hS.2.2 dX1_readType_73
      · skip
        have f204 : z30.toInt = 0 := b_eq rfl (by decide) c42
        exfalso; first | omega | ((try (have i_t9 := Imp.go t9 (by omega))); (try (have i_t8 := Imp.go t8 (by omega))); (try (have i_t8 := Imp.go t8 (by omega))); (try (have i_t9 := Imp.go t9 (by omega))); omega)
    · skip
      have hb205 : ∀ k, Rc gT (Crun gs (Istmt :: k)) (Cbad (V34 1 3).toInt) := fun k => Rc.go1 (hr14 k) (nt_b h38)
      refine lv_if_ne (tgt := 35) hx hb dX1_readType_30 (by decide) (fun c206 => ?_) (fun c206 => ?_)
      · skip
        have f207 : z30.toInt ≠ 0 := b_neq rfl (by decide) c206
        exfalso; first | omega | ((try (have i_t9 := Imp.go t9 (by omega))); (try (have i_t8 := Imp.go t8 (by omega))); (try (have i_t8 := Imp.go t8 (by omega))); (try (have i_t9 := Imp.go t9 (by omega))); omega)
      · skip
        have f208 : z30.toInt = 0 := b_eq rfl (by decide) c206
        refine lv_iconst (v := 0) hx hb dX1_readType_33 (by decide) ?_
        have rw209 : ROWL b L L35 := (fun k hk => ((axL35 44 k rfl).trans ((axL25 44 k rfl).trans rfl)))
        exact W.zret (v := 0) hx hb hr rfl (fun t ht hW => ⟨⟨0, (V34, L35), rfl, ⟨hMV34, agV34, alL35, (by decide), (Or.inr ⟨rfl, hb205⟩), rw209⟩, by rw [ht]; exact hP, va_K.moved hW.alike hK, hD⟩, hS.F ht⟩) hS.2.2 dX1_readType_34
  · skip
    have f210 : z5.toInt ≠ 0 := b_neq rfl (by decide) c10
    refine lv_aload_n hx hb dX1_readType_13 rfl (lv_at hl 0 rfl) ?_
    refine lv_iconst (v := 5) hx hb dX1_readType_14 (by decide) ?_
    have kd211 : gT.1 (gs.1 0) = ((V 6 9)).toInt := RelC.kd rel
    have r212 : Int32.toInt 5 = 5 := by decide
    refine gA_int (gA_runV (As := [.int 5]) (rest := []) (ci := 1) (q0 := 1) hx hb hml hown hg hP hD hK hS hA hnw hgk (x_wrong2 l D ks H.size ad kk V L Z 5 hMV (by decide)) w867 w869 w6 w162 w870 rfl xgReader hdV_yX1_wrong ⟨Nat.le_of_ble_eq_true rfl, Nat.le_of_ble_eq_true rfl⟩ rfl hl.1 rfl (Nat.le_of_ble_eq_true rfl) dX1_readType_15 ⟨Nat.le_of_ble_eq_true rfl, Nat.le_of_ble_eq_true rfl⟩) hP hD hK hS hA (fun z213 u214 H locs w215 hP hD hK hS => ?_)
    obtain ⟨V218, L219⟩ := u214
    obtain ⟨hMV218, ajV218, axL219, rgz213, t216, t217⟩ := w215
    have axL219 : L = L219 := Eq.symm axL219
    subst axL219
    have hP : va_P D vwCl (xw ad kk V218 L Z) H := hP
    have hD : va_D A (xw ad kk V218 L Z) := hD
    have hMV218 : rgd bX V218 := hMV218
    have ajV218 : agr [(1, 3)] [] V V218 := ajV218
    have agV218 : agr [(1, 3), (1, 6), (1, 7), (6, 8), (6, 9), (6, 10)] [43, 44, 45] V V218 := agV.tr ajV218 (by decide) (by decide)
    have rgz213 : 0 ≤ z213.toInt ∧ z213.toInt ≤ 0 := rgz213
    have t216 : 1 ≤ (V218 1 3).toInt := t216
    have t217 : (V218 1 3).toInt = (Int32.toInt 5) + 16 * (V 6 10).toInt := t217
    have r220 : 0 ≤ ((V 6 10)).toInt ∧ ((V 6 10)).toInt ≤ 4000 := hMV 6 10
    have hr221 : ∀ k, Rc gT (Crun gs (Istmt :: k)) (Crun gs (Istmt :: k)) := fun k => Rc.rf
    have hb222 : ∀ k, Rc gT (Crun gs (Istmt :: k)) (Cbad (V218 1 3).toInt) := fun k => Rc.go1 (hr221 k) ((st_128f (kd211.trans kd9) (by first | omega | ((try (have i_t9 := Imp.go t9 (by omega))); (try (have i_t8 := Imp.go t8 (by omega))); (try (have i_t8 := Imp.go t8 (by omega))); (try (have i_t9 := Imp.go t9 (by omega))); omega))).trans (fl_eq (RelC.st rel) (show (V218 1 3).toInt = 5 + 16 * (V 6 10).toInt from by omega)))
    have rw223 : ROWL b L L := (fun k hk => rfl)
    exact W.zret (v := z213) hx hb hr (nb_ok (by omega)) (fun t ht hW => ⟨⟨z213, (V218, L), rfl, ⟨hMV218, agV218, alL, (show 0 ≤ z213.toInt ∧ z213.toInt ≤ 1 from by first | omega | ((try (have i_t9 := Imp.go t9 (by omega))); (try (have i_t8 := Imp.go t8 (by omega))); (try (have i_t8 := Imp.go t8 (by omega))); (try (have i_t9 := Imp.go t9 (by omega))); omega)), (Or.inr ⟨(by omega), hb222⟩), rw223⟩, by rw [ht]; exact hP, va_K.moved hW.alike hK, hD⟩, hS.F ht⟩) hS.2.2 dX1_readType_18
abbrev r_x_readSetting3 : Room := { frames := 3, cells := 0, slots := 0, locals := 65 }
abbrev q_x_readSetting3 (D : va_G) (ks : KS) (ad : Nat → Nat) (kk : Nat → ClassId) (V : Vf) (L : Lf) (Z : XZ) (b : Nat) (gT : Tk) (gs : St) (A : Nat → Prop) : Array Value → State → Outcome → State → Prop := va_Qi (fun (r : Int32) (u : Vf × Lf) => rgd bX u.1 ∧ agr [(1, 3), (1, 8), (6, 8), (6, 9), (6, 10)] [43, 44, 46] V u.1 ∧ agL [1, 6, 44] L u.2 ∧ (0 ≤ r.toInt ∧ r.toInt ≤ 1) ∧ (Rd gT gs (fun k => Istmt :: k) (fun k => Istmt :: k) r.toInt (u.1 1 3).toInt (fun s9 => RelC u.1 u.2 b gT s9 ∧ gs.1 0 + 1 ≤ s9.1 0)) ∧ (ROWL b L u.2)) (fun u t => gq D A (xw ad kk u.1 u.2 Z) (xty kk Z) t) A
set_option maxHeartbeats 4000000 in
set_option maxRecDepth 100000 in
theorem x_readSetting3 (l : Launch) (D : va_G) (ks : KS) (sz : Nat) (ad : Nat → Nat) (kk : Nat → ClassId) (V : Vf) (L : Lf) (Z : XZ) (b : Nat) (gT : Tk) (gs : St) (hMV : rgd bX V) (hb2 : b < 2) (rbk : (V 1 1).toInt = (b : Int)) (own : (V 1 2).toInt = -1) (rel : RelC V L b gT gs) (kd9 : (V 6 9).toInt = 130)  : Met l yX1_readSetting (Cond.code yX1_readSetting cX1_readSetting 4 (some .boolean) :: GW) r_x_readSetting3 (va_Pc [.ref (ad 1)] (gp D ks (xw ad kk V L Z) (xty kk Z) sz)) (q_x_readSetting3 D ks ad kk V L Z  b gT gs (va_A (xw ad kk V L Z) sz)) 0 0 (va_A (xw ad kk V L Z) sz) := by
  refine g_met (q_x_readSetting3 D ks ad kk V L Z  b gT gs) (by decide) (Nat.le_of_ble_eq_true rfl) ?_
  intro p e s m below meth c A ls H locs hx hb hr hml hown hg hlocks hin hnw hgk hP hK hD hS hA hl
  have hown : s.vm.findClass RX1 = some m.cls := hown
  have hl : lv_has ls 4 [(0, .ref (ad 1))] := hl
  have hP : va_P D vwCl (xw ad kk V L Z) H := hP
  have hD : va_D A (xw ad kk V L Z) := hD
  have hK : va_K D vwCl (xty kk Z) s := hK
  have agV : agr [(1, 3), (1, 8), (6, 8), (6, 9), (6, 10)] [43, 44, 46] V V := agr.rf
  have alL : agL [1, 6, 44] L L := agL.rf
  have r1 : (-1) ≤ ((V 1 1)).toInt ∧ ((V 1 1)).toInt ≤ 1 := hMV 1 1
  have r2 : (-1) ≤ ((V 1 2)).toInt ∧ ((V 1 2)).toInt ≤ 47 := hMV 1 2
  have ln0 := (rel.2.2.1 1 (by decide)).1
  have r3 : xcap (5 * b + 1) = 12 := xcap_1
  refine lv_aload_n hx hb dX1_readSetting_0 rfl (lv_at hl 0 rfl) ?_
  refine va_get (D := D) (ci := 1) (v := rfN ad 38 (V 1 1)) (fs := (xfReader ad V L Z)) (C := RX1) (T := TX1) (N := 9) hx hb hg inX1 hown hK hP 1 xgReader rfl 1 (by decide) (hg _ w305) (fun _ h9 => h9) rfl dX1_readSetting_1 ?_
  refine g_topv (v := .ref (ad (38 + b))) (rfN_r (by omega)) ?_
  refine va_getN (D := D) (ci := 0) (v := .ref (ad (40 + (5 * b + 1)))) (fs := (xfBook ad V b)) (C := RX0) (T := TX0) (N := 13) hx hb hg inX0 hown hK hP (38 + b) (xgBook hb2) rfl 1 (by decide) (hnw.use 597 n597 rfl) (fun _ h9 => h9) rfl dX1_readSetting_4 ?_
  have il4 : (5 * b + 1) < 10 := by omega
  refine gA_int (gA_runV (As := []) (rest := []) (ci := 6) (q0 := (40 + (5 * b + 1))) hx hb hml hown hg hP hD hK hS hA hnw hgk (x_isFull2 l D ks H.size ad kk V L Z ((5 * b + 1)) hMV (show (5 * b + 1) < 10 from by omega)) w863 w864 w865 w168 w866 rfl (xgNames il4) hdV_yX6_isFull ⟨Nat.le_of_ble_eq_true rfl, Nat.le_of_ble_eq_true rfl⟩ rfl hl.1 rfl (Nat.le_of_ble_eq_true rfl) dX1_readSetting_7 ⟨Nat.le_of_ble_eq_true rfl, Nat.le_of_ble_eq_true rfl⟩) hP hD hK hS hA (fun z5 u6 H locs w7 hP hD hK hS => ?_)
  obtain ⟨rgz5, t8, t9⟩ := w7
  have rgz5 : 0 ≤ z5.toInt ∧ z5.toInt ≤ 1 := rgz5
  have t8 : Imp (z5.toInt = 0) ((V 43 (5 * b + 1)).toInt < ((xcap (5 * b + 1) : Nat) : Int)) := t8
  have t9 : Imp (z5.toInt = 1) (((xcap (5 * b + 1) : Nat) : Int) ≤ (V 43 (5 * b + 1)).toInt) := t9
  refine lv_if_eq (tgt := 19) hx hb dX1_readSetting_10 (by decide) (fun c10 => ?_) (fun c10 => ?_)
  · skip
    have f11 : z5.toInt = 0 := b_eq rfl (by decide) c10
    refine lv_aload_n hx hb dX1_readSetting_19 rfl (lv_at hl 0 rfl) ?_
    refine va_get (D := D) (ci := 1) (v := .ref (ad 6)) (fs := (xfReader ad V L Z)) (C := RX1) (T := TX1) (N := 9) hx hb hg inX1 hown hK hP 1 xgReader rfl 0 (by decide) (hg _ w304) (fun _ h9 => h9) rfl dX1_readSetting_20 ?_
    have hr12 : ∀ k, Rc gT (Crun gs (Istmt :: k)) (Crun gs (Istmt :: k)) := fun k => Rc.rf
    have kd13 : gT.1 (gs.1 0) = ((V 6 9)).toInt := RelC.kd rel
    have hr14 : ∀ k, Rc gT (Crun gs (Istmt :: k)) (Crun (nx gs 1) (InewSet :: k)) := fun k => Rc.go1 (hr12 k) (st_130 (kd13.trans kd9) (by first | omega | ((try (have i_t9 := Imp.go t9 (by omega))); (try (have i_t8 := Imp.go t8 (by omega))); (try (have i_t8 := Imp.go t8 (by omega))); (try (have i_t9 := Imp.go t9 (by omega))); omega)))
    have l815 := RelC.l8 rel
    have r16 : 0 ≤ ((V 6 8)).toInt ∧ ((V 6 8)).toInt ≤ 4000 := hMV 6 8
    have r17 : 0 ≤ ((V 6 7)).toInt ∧ ((V 6 7)).toInt ≤ 4000 := hMV 6 7
    have lk18 := RelC.lk rel (show (V 6 9).toInt ≠ 0 from by omega)
    refine gA_void (gA_runV (As := []) (rest := []) (ci := 9) (q0 := 6) hx hb hml hown hg hP hD hK hS hA hnw hgk (x_next2 l D ks H.size ad kk V L Z  hMV (show (V 6 8).toInt ≤ (V 6 7).toInt from by first | omega | ((try (have i_t9 := Imp.go t9 (by omega))); (try (have i_t8 := Imp.go t8 (by omega))); (try (have i_t8 := Imp.go t8 (by omega))); (try (have i_t9 := Imp.go t9 (by omega))); omega))) w871 w852 w853 w157 w854 rfl xgTape hdV_yX9_next ⟨Nat.le_of_ble_eq_true rfl, Nat.le_of_ble_eq_true rfl⟩ rfl hl.1 rfl (Nat.le_of_ble_eq_true rfl) dX1_readSetting_23 ⟨Nat.le_of_ble_eq_true rfl, Nat.le_of_ble_eq_true rfl⟩) hP hD hK hS hA (fun u20 H locs w21 hP hD hK hS => ?_)
    obtain ⟨V24, L25⟩ := u20
    obtain ⟨hMV24, ajV24, axL25, t22, t23⟩ := w21
    have alL25 : agL [1, 6, 44] L L25 := agL.tr alL axL25 (by decide)
    have hP : va_P D vwCl (xw ad kk V24 L25 Z) H := hP
    have hD : va_D A (xw ad kk V24 L25 Z) := hD
    have hMV24 : rgd bX V24 := hMV24
    have ajV24 : agr [(6, 8), (6, 9), (6, 10)] [] V V24 := ajV24
    have agV24 : agr [(1, 3), (1, 8), (6, 8), (6, 9), (6, 10)] [43, 44, 46] V V24 := agV.tr ajV24 (by decide) (by decide)
    have t22 : (V24 6 8).toInt ≤ (V24 6 7).toInt := t22
    have t23 : CUR V24 L25 (Int32.toNatClampNeg (V 6 8)) := t23
    have r26 : 0 ≤ ((V24 6 8)).toInt ∧ ((V24 6 8)).toInt ≤ 4000 := hMV24 6 8
    have pq27 : (V24 6 7).toInt = ((V 6 7)).toInt := congrArg Int32.toInt (ajV24 6 7 rfl)
    have rl28 : RelC V24 L25 b gT (nx gs 1) := RelC.nx1 rel ajV24 (by decide) axL25 (by decide) (by rw [← lk18]; exact t23) (ajV24 1 3 rfl)
    refine lv_aload_n hx hb dX1_readSetting_26 rfl (lv_at hl 0 rfl) ?_
    have pq29 : (V24 1 1).toInt = ((V 1 1)).toInt := congrArg Int32.toInt (ajV24 1 1 rfl)
    refine gA_int (gA_runV (As := []) (rest := []) (ci := 1) (q0 := 1) hx hb hml hown hg hP hD hK hS hA hnw hgk (x_takeNewName3 l D ks H.size ad kk V24 L25 Z (b) (gT) ((nx gs 1)) hMV24 (show b < 2 from by first | omega | ((try (have i_t9 := Imp.go t9 (by omega))); (try (have i_t8 := Imp.go t8 (by omega))); (try (have i_t8 := Imp.go t8 (by omega))); (try (have i_t9 := Imp.go t9 (by omega))); omega)) (show (V24 1 1).toInt = (b : Int) from by first | omega | ((try (have i_t9 := Imp.go t9 (by omega))); (try (have i_t8 := Imp.go t8 (by omega))); (try (have i_t8 := Imp.go t8 (by omega))); (try (have i_t9 := Imp.go t9 (by omega))); omega)) rl28) w872 w874 w7 w162 w875 rfl xgReader hdV_yX1_takeNewName ⟨Nat.le_of_ble_eq_true rfl, Nat.le_of_ble_eq_true rfl⟩ rfl hl.1 rfl (Nat.le_of_ble_eq_true rfl) dX1_readSetting_27 ⟨Nat.le_of_ble_eq_true rfl, Nat.le_of_ble_eq_true rfl⟩) hP hD hK hS hA (fun z30 u31 H locs w32 hP hD hK hS => ?_)
    obtain ⟨V34, L35⟩ := u31
    obtain ⟨hMV34, ajV34, axL35, rgz30, t33⟩ := w32
    have alL35 : agL [1, 6, 44] L L35 := agL.tr alL25 axL35 (by decide)
    have hP : va_P D vwCl (xw ad kk V34 L35 Z) H := hP
    have hD : va_D A (xw ad kk V34 L35 Z) := hD
    have hMV34 : rgd bX V34 := hMV34
    have ajV34 : agr [(1, 3), (6, 8), (6, 9), (6, 10)] [] V24 V34 := ajV34
    have agV34 : agr [(1, 3), (1, 8), (6, 8), (6, 9), (6, 10)] [43, 44, 46] V V34 := agV24.tr ajV34 (by decide) (by decide)
    have rgz30 : 0 ≤ z30.toInt ∧ z30.toInt ≤ 1 := rgz30
    have t33 : KcW (newN gT (nx gs 1)) z30.toInt (V34 1 3).toInt (fun w9 => RelC V34 L35 b gT (nx (nx gs 1) 1) ∧ L35 1 5 = w9) := t33
    rcases t33 with ⟨q36, wx37, h38, rl39, hw40⟩ | ⟨q36, h38⟩
    · skip
      have hr41 : ∀ k, Rc gT (Crun gs (Istmt :: k)) (Crun (nx (nx gs 1) 1) (Inum 0 999999999 :: Itake 59 :: IaddSe wx37 :: Istmt :: k)) := fun k => Rc.go1 (hr14 k) (ns_y h38)
      refine lv_if_ne (tgt := 35) hx hb dX1_readSetting_30 (by decide) (fun c42 => ?_) (fun c42 => ?_)
      · skip
        have f43 : z30.toInt ≠ 0 := b_neq rfl (by decide) c42
        refine lv_aload_n hx hb dX1_readSetting_35 rfl (lv_at hl 0 rfl) ?_
        refine va_get (D := D) (ci := 1) (v := .long (L35 1 5)) (fs := (xfReader ad V34 L35 Z)) (C := RX1) (T := TX1) (N := 9) hx hb hg inX1 hown hK hP 1 xgReader rfl 5 (by decide) (hg _ w309) (fun _ h9 => h9) rfl dX1_readSetting_36 ?_
        refine lv_lstore_n (lv' := [(1, .long (L35 1 5)), (0, .ref (ad 1))]) hx hb dX1_readSetting_39 rfl hl (by decide) rfl (fun ls hl => ?_)
        refine lv_aload_n hx hb dX1_readSetting_40 rfl (lv_at hl 1 rfl) ?_
        refine lv_iconst (v := 0) hx hb dX1_readSetting_41 (by decide) ?_
        refine lv_ldc (v := 999999999) hx hb hown (hg _ w905) dX1_readSetting_42 ?_
        have r44 : Int32.toInt 0 = 0 := by decide
        have r45 : Int32.toInt 999999999 = 999999999 := by decide
        refine gA_int (gA_runV (As := [.int 0, .int 999999999]) (rest := []) (ci := 1) (q0 := 1) hx hb hml hown hg hP hD hK hS hA hnw hgk (x_takeNumber2 l D ks H.size ad kk V34 L35 Z 0 999999999 (((nx (nx gs 1) 1).1 0)) hMV34 (rl39).1 (rl39).2.1.1 (show 0 ≤ (Int32.toInt 0) from by first | omega | ((try (have i_t9 := Imp.go t9 (by omega))); (try (have i_t8 := Imp.go t8 (by omega))); (try (have i_t8 := Imp.go t8 (by omega))); (try (have i_t9 := Imp.go t9 (by omega))); omega)) (show (Int32.toInt 999999999) ≤ 999999999 from by first | omega | ((try (have i_t9 := Imp.go t9 (by omega))); (try (have i_t8 := Imp.go t8 (by omega))); (try (have i_t8 := Imp.go t8 (by omega))); (try (have i_t9 := Imp.go t9 (by omega))); omega))) w906 w908 w12 w162 w909 rfl xgReader hdV_yX1_takeNumber ⟨Nat.le_of_ble_eq_true rfl, Nat.le_of_ble_eq_true rfl⟩ rfl hl.1 rfl (Nat.le_of_ble_eq_true rfl) dX1_readSetting_44 ⟨Nat.le_of_ble_eq_true rfl, Nat.le_of_ble_eq_true rfl⟩) hP hD hK hS hA (fun z46 u47 H locs w48 hP hD hK hS => ?_)
        obtain ⟨V52, L53⟩ := u47
        obtain ⟨hMV52, ajV52, axL53, rgz46, t49, t50, t51⟩ := w48
        have alL53 : agL [1, 6, 44] L L53 := agL.tr alL35 axL53 (by decide)
        have hP : va_P D vwCl (xw ad kk V52 L53 Z) H := hP
        have hD : va_D A (xw ad kk V52 L53 Z) := hD
        have hMV52 : rgd bX V52 := hMV52
        have ajV52 : agr [(1, 3), (1, 8), (6, 8), (6, 9), (6, 10)] [] V34 V52 := ajV52
        have agV52 : agr [(1, 3), (1, 8), (6, 8), (6, 9), (6, 10)] [43, 44, 46] V V52 := agV34.tr ajV52 (by decide) (by decide)
        have rgz46 : 0 ≤ z46.toInt ∧ z46.toInt ≤ 1 := rgz46
        have t49 : Imp (z46.toInt = 1) ((Int32.toInt 0) ≤ (V52 1 8).toInt ∧ (V52 1 8).toInt ≤ (Int32.toInt 999999999)) := t49
        have t50 : Imp (z46.toInt = 0) (1 ≤ (V52 1 3).toInt) := t50
        have t51 : (z46.toInt = 1 ∧ (V34 12 ((nx (nx gs 1) 1).1 0)).toInt = 2 ∧ (Int32.toInt 0) ≤ (L35 14 ((nx (nx gs 1) 1).1 0)).toInt ∧ (L35 14 ((nx (nx gs 1) 1).1 0)).toInt ≤ (Int32.toInt 999999999) ∧ CUR V52 L53 (((nx (nx gs 1) 1).1 0) + 1) ∧ (V52 1 8).toInt = (L35 14 ((nx (nx gs 1) 1).1 0)).toInt ∧ V52 1 3 = V34 1 3) ∨ (z46.toInt = 0 ∧ (((V34 12 ((nx (nx gs 1) 1).1 0)).toInt ≠ 2 ∧ (V52 1 3).toInt = 1 + 16 * (V34 13 ((nx (nx gs 1) 1).1 0)).toInt) ∨ ((V34 12 ((nx (nx gs 1) 1).1 0)).toInt = 2 ∧ ((L35 14 ((nx (nx gs 1) 1).1 0)).toInt < (Int32.toInt 0) ∨ (Int32.toInt 999999999) < (L35 14 ((nx (nx gs 1) 1).1 0)).toInt) ∧ (V52 1 3).toInt = 4 + 16 * (V34 13 ((nx (nx gs 1) 1).1 0)).toInt))) := t51
        have r54 : 0 ≤ ((V52 1 8)).toInt ∧ ((V52 1 8)).toInt ≤ 999999999 := hMV52 1 8
        have nv62 := congrArg Int64.toInt rl39.tok.2.1
        rcases t51 with ⟨q55, h56, h57, h58, k59, k60, k61⟩ | ⟨q55, ⟨h56, k59⟩ | ⟨h56, h57, k59⟩⟩
        · skip
          have rl63 : RelC V52 L53 b gT (nx (nx (nx gs 1) 1) 1) := RelC.nx1 rl39 ajV52 (by decide) axL53 (by decide) k59 k61
          have hr64 : ∀ k, Rc gT (Crun gs (Istmt :: k)) (Crun (nx (nx (nx gs 1) 1) 1) (Itake 59 :: IaddSe wx37 :: Istmt :: k)) := fun k => Rc.go1 (hr41 k) (nm_y (rl39.tok.1.trans h56) (by omega) (by omega))
          refine lv_if_eq (tgt := 59) hx hb dX1_readSetting_47 (by decide) (fun c65 => ?_) (fun c65 => ?_)
          · skip
            have f66 : z46.toInt = 0 := b_eq rfl (by decide) c65
            exfalso; first | omega | ((try (have i_t50 := Imp.go t50 (by omega))); (try (have i_t49 := Imp.go t49 (by omega))); (try (have i_t9 := Imp.go t9 (by omega))); (try (have i_t8 := Imp.go t8 (by omega))); (try (have i_t8 := Imp.go t8 (by omega))); (try (have i_t9 := Imp.go t9 (by omega))); (try (have i_t49 := Imp.go t49 (by omega))); (try (have i_t50 := Imp.go t50 (by omega))); omega)
          · skip
            have f67 : z46.toInt ≠ 0 := b_neq rfl (by decide) c65
            refine lv_aload_n hx hb dX1_readSetting_50 rfl (lv_at hl 1 rfl) ?_
            refine lv_bipush (v := 59) hx hb dX1_readSetting_51 (by decide) ?_
            have r68 : Int32.toInt 59 = 59 := by decide
            refine gA_int (gA_runV (As := [.int 59]) (rest := []) (ci := 1) (q0 := 1) hx hb hml hown hg hP hD hK hS hA hnw hgk (x_take2 l D ks H.size ad kk V52 L53 Z 59 (((nx (nx (nx gs 1) 1) 1).1 0)) hMV52 (rl63).1 (rl63).2.1.1 (show 1 ≤ (Int32.toInt 59) from by first | omega | ((try (have i_t50 := Imp.go t50 (by omega))); (try (have i_t49 := Imp.go t49 (by omega))); (try (have i_t9 := Imp.go t9 (by omega))); (try (have i_t8 := Imp.go t8 (by omega))); (try (have i_t8 := Imp.go t8 (by omega))); (try (have i_t9 := Imp.go t9 (by omega))); (try (have i_t49 := Imp.go t49 (by omega))); (try (have i_t50 := Imp.go t50 (by omega))); omega))) w893 w895 w10 w162 w896 rfl xgReader hdV_yX1_take ⟨Nat.le_of_ble_eq_true rfl, Nat.le_of_ble_eq_true rfl⟩ rfl hl.1 rfl (Nat.le_of_ble_eq_true rfl) dX1_readSetting_53 ⟨Nat.le_of_ble_eq_true rfl, Nat.le_of_ble_eq_true rfl⟩) hP hD hK hS hA (fun z69 u70 H locs w71 hP hD hK hS => ?_)
            obtain ⟨V74, L75⟩ := u70
            obtain ⟨hMV74, ajV74, axL75, rgz69, t72, t73⟩ := w71
            have alL75 : agL [1, 6, 44] L L75 := agL.tr alL53 axL75 (by decide)
            have hP : va_P D vwCl (xw ad kk V74 L75 Z) H := hP
            have hD : va_D A (xw ad kk V74 L75 Z) := hD
            have hMV74 : rgd bX V74 := hMV74
            have ajV74 : agr [(1, 3), (6, 8), (6, 9), (6, 10)] [] V52 V74 := ajV74
            have agV74 : agr [(1, 3), (1, 8), (6, 8), (6, 9), (6, 10)] [43, 44, 46] V V74 := agV52.tr ajV74 (by decide) (by decide)
            have rgz69 : 0 ≤ z69.toInt ∧ z69.toInt ≤ 1 := rgz69
            have t72 : Imp (z69.toInt = 0) (1 ≤ (V74 1 3).toInt) := t72
            have t73 : (z69.toInt = 1 ∧ (V52 12 ((nx (nx (nx gs 1) 1) 1).1 0)).toInt = (Int32.toInt 59) ∧ CUR V74 L75 (((nx (nx (nx gs 1) 1) 1).1 0) + 1) ∧ V74 1 3 = V52 1 3) ∨ (z69.toInt = 0 ∧ (V52 12 ((nx (nx (nx gs 1) 1) 1).1 0)).toInt ≠ (Int32.toInt 59) ∧ (V74 1 3).toInt = 1 + 16 * (V52 13 ((nx (nx (nx gs 1) 1) 1).1 0)).toInt) := t73
            rcases t73 with ⟨q76, h77, k78, k79⟩ | ⟨q76, h77, k78⟩
            · skip
              have rl80 : RelC V74 L75 b gT (nx (nx (nx (nx gs 1) 1) 1) 1) := RelC.nx1 rl63 ajV74 (by decide) axL75 (by decide) k78 k79
              have hr81 : ∀ k, Rc gT (Crun gs (Istmt :: k)) (Crun (nx (nx (nx (nx gs 1) 1) 1) 1) (IaddSe wx37 :: Istmt :: k)) := fun k => Rc.go1 (hr64 k) (tk_y (rl63.tok.1.trans (h77.trans (by decide))))
              refine lv_if_ne (tgt := 61) hx hb dX1_readSetting_56 (by decide) (fun c82 => ?_) (fun c82 => ?_)
              · skip
                have f83 : z69.toInt ≠ 0 := b_neq rfl (by decide) c82
                refine lv_aload_n hx hb dX1_readSetting_61 rfl (lv_at hl 1 rfl) ?_
                refine va_get (D := D) (ci := 1) (v := rfN ad 38 (V74 1 1)) (fs := (xfReader ad V74 L75 Z)) (C := RX1) (T := TX1) (N := 9) hx hb hg inX1 hown hK hP 1 xgReader rfl 1 (by decide) (hg _ w305) (fun _ h9 => h9) rfl dX1_readSetting_62 ?_
                have pq84 : (V74 1 1).toInt = ((V 1 1)).toInt := congrArg Int32.toInt ((ajV74 1 1 rfl).trans ((ajV52 1 1 rfl).trans ((ajV34 1 1 rfl).trans (ajV24 1 1 rfl))))
                refine g_topv (v := .ref (ad (38 + b))) (rfN_r (by first | omega | ((try (have i_t72 := Imp.go t72 (by omega))); (try (have i_t50 := Imp.go t50 (by omega))); (try (have i_t49 := Imp.go t49 (by omega))); (try (have i_t9 := Imp.go t9 (by omega))); (try (have i_t8 := Imp.go t8 (by omega))); (try (have i_t8 := Imp.go t8 (by omega))); (try (have i_t9 := Imp.go t9 (by omega))); (try (have i_t49 := Imp.go t49 (by omega))); (try (have i_t50 := Imp.go t50 (by omega))); (try (have i_t72 := Imp.go t72 (by omega))); omega))) ?_
                refine va_getN (D := D) (ci := 0) (v := .ref (ad (40 + (5 * b + 1)))) (fs := (xfBook ad V74 b)) (C := RX0) (T := TX0) (N := 13) hx hb hg inX0 hown hK hP (38 + b) (xgBook hb2) rfl 1 (by decide) (hnw.use 597 n597 rfl) (fun _ h9 => h9) rfl dX1_readSetting_65 ?_
                refine lv_lload_n hx hb dX1_readSetting_68 rfl (lv_at hl 0 rfl) ?_
                have ad1 := (rl80.2.2.1 1 (by decide)).1
                have ad2 := congrArg List.length (((keepS.tr (keepS.tr (keepS.tr (keepS.tr (keepS.rf : keepS gs 0 gs) (keepS.n1 1)) (keepS.n1 1)) (keepS.n1 1)) (keepS.n1 1))).2.2.1 1 (by decide))
                have ad3 := ln0
                refine gA_int (gA_runV (As := [.long (L35 1 5)]) (rest := []) (ci := 6) (q0 := (40 + (5 * b + 1))) hx hb hml hown hg hP hD hK hS hA hnw hgk (x_add2 l D ks H.size ad kk V74 L75 Z (L35 1 5) ((5 * b + 1)) hMV74 (show (5 * b + 1) < 10 from by first | omega | ((try (have i_t72 := Imp.go t72 (by omega))); (try (have i_t50 := Imp.go t50 (by omega))); (try (have i_t49 := Imp.go t49 (by omega))); (try (have i_t9 := Imp.go t9 (by omega))); (try (have i_t8 := Imp.go t8 (by omega))); (try (have i_t8 := Imp.go t8 (by omega))); (try (have i_t9 := Imp.go t9 (by omega))); (try (have i_t49 := Imp.go t49 (by omega))); (try (have i_t50 := Imp.go t50 (by omega))); (try (have i_t72 := Imp.go t72 (by omega))); omega))) w897 w898 w899 w168 w900 rfl (xgNames il4) hdV_yX6_add ⟨Nat.le_of_ble_eq_true rfl, Nat.le_of_ble_eq_true rfl⟩ rfl hl.1 rfl (Nat.le_of_ble_eq_true rfl) dX1_readSetting_69 ⟨Nat.le_of_ble_eq_true rfl, Nat.le_of_ble_eq_true rfl⟩) hP hD hK hS hA (fun z85 u86 H locs w87 hP hD hK hS => ?_)
                obtain ⟨V93, L94⟩ := u86
                obtain ⟨hMV93, ajV93, axL94, fyV93, rgz85, t88, t89, t90, t91, t92⟩ := w87
                have alL94 : agL [1, 6, 44] L L94 := agL.tr alL75 axL94 (by decide)
                have hP : va_P D vwCl (xw ad kk V93 L94 Z) H := hP
                have hD : va_D A (xw ad kk V93 L94 Z) := hD
                have hMV93 : rgd bX V93 := hMV93
                have ajV93 : agr [] [43, 44] V74 V93 := ajV93
                have agV93 : agr [(1, 3), (1, 8), (6, 8), (6, 9), (6, 10)] [43, 44, 46] V V93 := agV74.tr ajV93 (by decide) (by decide)
                have rgz85 : (-1) ≤ z85.toInt ∧ z85.toInt ≤ 23 := rgz85
                have t88 : z85.toInt < (V93 43 (5 * b + 1)).toInt := t88
                have t89 : Imp ((V74 43 (5 * b + 1)).toInt < ((xcap (5 * b + 1) : Nat) : Int)) (z85.toInt = (V74 43 (5 * b + 1)).toInt ∧ (V93 43 (5 * b + 1)).toInt = (V74 43 (5 * b + 1)).toInt + 1) := t89
                have t90 : Imp (((xcap (5 * b + 1) : Nat) : Int) ≤ (V74 43 (5 * b + 1)).toInt) (z85.toInt = -1 ∧ (V93 43 (5 * b + 1)).toInt = (V74 43 (5 * b + 1)).toInt) := t90
                have t91 : ∀ n : Nat, ¬ n = (5 * b + 1) → V93 43 n = V74 43 n := t91
                have t92 : (z85.toInt = -1 ∧ L94 = L75) ∨ (0 ≤ z85.toInt ∧ L94 = upL L75 44 (24 * (5 * b + 1) + Int32.toNatClampNeg (V74 43 (5 * b + 1))) (L35 1 5)) := t92
                have ig97 := Imp.go t89 (by first | omega | ((try (have i_t72 := Imp.go t72 (by omega))); (try (have i_t50 := Imp.go t50 (by omega))); (try (have i_t49 := Imp.go t49 (by omega))); (try (have i_t9 := Imp.go t9 (by omega))); (try (have i_t8 := Imp.go t8 (by omega))); (try (have i_t8 := Imp.go t8 (by omega))); (try (have i_t9 := Imp.go t9 (by omega))); (try (have i_t49 := Imp.go t49 (by omega))); (try (have i_t50 := Imp.go t50 (by omega))); (try (have i_t72 := Imp.go t72 (by omega))); omega))
                rcases t92 with ⟨q95, h96⟩ | ⟨q95, h96⟩
                · exfalso; omega
                · skip
                  have rl98 : RelC V93 L94 b gT (sA (nx (nx (nx (nx gs 1) 1) 1) 1) 1 wx37) := RelC.add rl80 (by decide) ajV93 (by decide) t91 ig97.2 (by rw [← hw40]; exact h96) (sz24 hMV74) (by omega)
                  have hr99 : ∀ k, Rc gT (Crun gs (Istmt :: k)) (Crun (sA (nx (nx (nx (nx gs 1) 1) 1) 1) 1 wx37) (Istmt :: k)) := fun k => Rc.go1 (hr81 k) (m_addSe wx37)
                  have sz1 : (V93 43 (5 * b + 1)).toInt ≤ ((xcap (5 * b + 1) : Nat) : Int) := (hMV93 43 (5 * b + 1)).2
                  refine lv_istore_n (lv' := [(3, .int z85), (1, .long (L35 1 5)), (0, .ref (ad 1))]) hx hb dX1_readSetting_72 rfl hl (by decide) rfl (fun ls hl => ?_)
                  refine lv_iload_n hx hb dX1_readSetting_73 rfl (lv_at hl 0 rfl) ?_
                  refine lv_iconst (v := (-1)) hx hb dX1_readSetting_74 (by decide) ?_
                  refine lv_icmp_eq (tgt := 91) hx hb dX1_readSetting_75 (by decide) (fun c100 => ?_) (fun c100 => ?_)
                  · skip
                    have f101 : z85.toInt = (-1) := b_eq rfl (by decide) c100
                    exfalso; first | omega | ((try (have i_t90 := Imp.go t90 (by omega))); (try (have i_t89 := Imp.go t89 (by omega))); (try (have i_t72 := Imp.go t72 (by omega))); (try (have i_t50 := Imp.go t50 (by omega))); (try (have i_t49 := Imp.go t49 (by omega))); (try (have i_t9 := Imp.go t9 (by omega))); (try (have i_t8 := Imp.go t8 (by omega))); (try (have i_t8 := Imp.go t8 (by omega))); (try (have i_t9 := Imp.go t9 (by omega))); (try (have i_t49 := Imp.go t49 (by omega))); (try (have i_t50 := Imp.go t50 (by omega))); (try (have i_t72 := Imp.go t72 (by omega))); (try (have i_t89 := Imp.go t89 (by omega))); (try (have i_t90 := Imp.go t90 (by omega))); omega)
                  · skip
                    have f102 : z85.toInt ≠ (-1) := b_neq rfl (by decide) c100
                    refine lv_aload_n hx hb dX1_readSetting_78 rfl (lv_at hl 2 rfl) ?_
                    refine va_get (D := D) (ci := 1) (v := rfN ad 38 (V93 1 1)) (fs := (xfReader ad V93 L94 Z)) (C := RX1) (T := TX1) (N := 9) hx hb hg inX1 hown hK hP 1 xgReader rfl 1 (by decide) (hg _ w305) (fun _ h9 => h9) rfl dX1_readSetting_79 ?_
                    have pq103 : (V93 1 1).toInt = ((V 1 1)).toInt := congrArg Int32.toInt ((ajV93 1 1 rfl).trans ((ajV74 1 1 rfl).trans ((ajV52 1 1 rfl).trans ((ajV34 1 1 rfl).trans (ajV24 1 1 rfl)))))
                    refine g_topv (v := .ref (ad (38 + b))) (rfN_r (by first | omega | ((try (have i_t90 := Imp.go t90 (by omega))); (try (have i_t89 := Imp.go t89 (by omega))); (try (have i_t72 := Imp.go t72 (by omega))); (try (have i_t50 := Imp.go t50 (by omega))); (try (have i_t49 := Imp.go t49 (by omega))); (try (have i_t9 := Imp.go t9 (by omega))); (try (have i_t8 := Imp.go t8 (by omega))); (try (have i_t8 := Imp.go t8 (by omega))); (try (have i_t9 := Imp.go t9 (by omega))); (try (have i_t49 := Imp.go t49 (by omega))); (try (have i_t50 := Imp.go t50 (by omega))); (try (have i_t72 := Imp.go t72 (by omega))); (try (have i_t89 := Imp.go t89 (by omega))); (try (have i_t90 := Imp.go t90 (by omega))); omega))) ?_
                    refine va_getN (D := D) (ci := 0) (v := .ref (ad (62 + b))) (fs := (xfBook ad V93 b)) (C := RX0) (T := TX0) (N := 13) hx hb hg inX0 hown hK hP (38 + b) (xgBook hb2) rfl 6 (by decide) (hnw.use 612 n612 rfl) (fun _ h9 => h9) rfl dX1_readSetting_82 ?_
                    refine lv_iload_n hx hb dX1_readSetting_85 rfl (lv_at hl 0 rfl) ?_
                    refine lv_aload_n hx hb dX1_readSetting_86 rfl (lv_at hl 2 rfl) ?_
                    refine va_get (D := D) (ci := 1) (v := .int (V93 1 8)) (fs := (xfReader ad V93 L94 Z)) (C := RX1) (T := TX1) (N := 9) hx hb hg inX1 hown hK hP 1 xgReader rfl 8 (by decide) (hg _ w312) (fun _ h9 => h9) rfl dX1_readSetting_87 ?_
                    refine g_top (v := (V52 1 8)) ((ajV93 1 8 rfl).trans (ajV74 1 8 rfl)) ?_
                    have il104 : b < 2 := by first | omega | ((try (have i_t90 := Imp.go t90 (by omega))); (try (have i_t89 := Imp.go t89 (by omega))); (try (have i_t72 := Imp.go t72 (by omega))); (try (have i_t50 := Imp.go t50 (by omega))); (try (have i_t49 := Imp.go t49 (by omega))); (try (have i_t9 := Imp.go t9 (by omega))); (try (have i_t8 := Imp.go t8 (by omega))); (try (have i_t8 := Imp.go t8 (by omega))); (try (have i_t9 := Imp.go t9 (by omega))); (try (have i_t49 := Imp.go t49 (by omega))); (try (have i_t50 := Imp.go t50 (by omega))); (try (have i_t72 := Imp.go t72 (by omega))); (try (have i_t89 := Imp.go t89 (by omega))); (try (have i_t90 := Imp.go t90 (by omega))); omega)
                    refine va_iast (D := D) (i := z85) (x := (V52 1 8)) hx hb hK hP hD hS (62 + b) (55 + b) (xgsettingValues il104) (xtsettingValues il104) (i_in (a := z85.toInt) rfl (by first | omega | ((try (have i_t90 := Imp.go t90 (by omega))); (try (have i_t89 := Imp.go t89 (by omega))); (try (have i_t72 := Imp.go t72 (by omega))); (try (have i_t50 := Imp.go t50 (by omega))); (try (have i_t49 := Imp.go t49 (by omega))); (try (have i_t9 := Imp.go t9 (by omega))); (try (have i_t8 := Imp.go t8 (by omega))); (try (have i_t8 := Imp.go t8 (by omega))); (try (have i_t9 := Imp.go t9 (by omega))); (try (have i_t49 := Imp.go t49 (by omega))); (try (have i_t50 := Imp.go t50 (by omega))); (try (have i_t72 := Imp.go t72 (by omega))); (try (have i_t89 := Imp.go t89 (by omega))); (try (have i_t90 := Imp.go t90 (by omega))); omega))) dX1_readSetting_90 (fun H locs hP hD hS => ?_)
                    have kc105 := i_clamp (x := z85) rfl (by first | omega | ((try (have i_t90 := Imp.go t90 (by omega))); (try (have i_t89 := Imp.go t89 (by omega))); (try (have i_t72 := Imp.go t72 (by omega))); (try (have i_t50 := Imp.go t50 (by omega))); (try (have i_t49 := Imp.go t49 (by omega))); (try (have i_t9 := Imp.go t9 (by omega))); (try (have i_t8 := Imp.go t8 (by omega))); (try (have i_t8 := Imp.go t8 (by omega))); (try (have i_t9 := Imp.go t9 (by omega))); (try (have i_t49 := Imp.go t49 (by omega))); (try (have i_t50 := Imp.go t50 (by omega))); (try (have i_t72 := Imp.go t72 (by omega))); (try (have i_t89 := Imp.go t89 (by omega))); (try (have i_t90 := Imp.go t90 (by omega))); omega))
                    have kl106 : (Int32.toNatClampNeg z85) < 12 := by first | omega | ((try (have i_t90 := Imp.go t90 (by omega))); (try (have i_t89 := Imp.go t89 (by omega))); (try (have i_t72 := Imp.go t72 (by omega))); (try (have i_t50 := Imp.go t50 (by omega))); (try (have i_t49 := Imp.go t49 (by omega))); (try (have i_t9 := Imp.go t9 (by omega))); (try (have i_t8 := Imp.go t8 (by omega))); (try (have i_t8 := Imp.go t8 (by omega))); (try (have i_t9 := Imp.go t9 (by omega))); (try (have i_t49 := Imp.go t49 (by omega))); (try (have i_t50 := Imp.go t50 (by omega))); (try (have i_t72 := Imp.go t72 (by omega))); (try (have i_t89 := Imp.go t89 (by omega))); (try (have i_t90 := Imp.go t90 (by omega))); omega)
                    obtain ⟨V107, hV107⟩ : ∃ z, z = up2 V93 46 (12 * b + (Int32.toNatClampNeg z85)) (V52 1 8) := ⟨_, rfl⟩
                    have ew108 : (xw ad kk V93 L94 Z).set (62 + b) ((ad (62 + b)), .inl ((kk (62 + b)), 12, .inl (upd (fun q => if q < 12 then V93 46 (12 * b + q) else 0) (Int32.toNatClampNeg z85) (V52 1 8)))) = xw ad kk V107 L94 Z := by rw [hV107]; exact xpsettingValues il104 kl106
                    have hP : va_P D vwCl (xw ad kk V107 L94 Z) H := by rw [← ew108]; exact hP
                    have hD : va_D A (xw ad kk V107 L94 Z) := by rw [← ew108]; exact hD
                    have hMV107 : rgd bX V107 := hMV93.put hV107 (i_full _)
                    have agV107 : agr [(1, 3), (1, 8), (6, 8), (6, 9), (6, 10)] [43, 44, 46] V V107 := agV93.up hV107 rfl
                    refine lv_iconst (v := 1) hx hb dX1_readSetting_91 (by decide) ?_
                    have rl109 : RelC V107 L94 b gT (sA (nx (nx (nx (nx gs 1) 1) 1) 1) 1 wx37) := RelC.ag rl98 (show agr [] [46] V93 V107 from (agr.up agr.rf hV107 rfl)) (by decide) (show agL [] L94 L94 from agL.rf) (by decide)
                    have ps110 : gs.1 0 + 1 ≤ (nx gs 1).1 0 := ((keepS.n1 1)).1
                    have ps111 : (nx gs 1).1 0 + 1 ≤ (nx (nx gs 1) 1).1 0 := ((keepS.n1 1)).1
                    have ps112 : (nx (nx gs 1) 1).1 0 + 1 ≤ (nx (nx (nx gs 1) 1) 1).1 0 := ((keepS.n1 1)).1
                    have ps113 : (nx (nx (nx gs 1) 1) 1).1 0 + 1 ≤ (nx (nx (nx (nx gs 1) 1) 1) 1).1 0 := ((keepS.n1 1)).1
                    have ps114 : (sA (nx (nx (nx (nx gs 1) 1) 1) 1) 1 wx37).1 0 = (nx (nx (nx (nx gs 1) 1) 1) 1).1 0 := rfl
                    have rw115 : ROWL b L L94 := (fun k hk => ((ROWL.ad t92 t90 (hMV74 43 _).1 (by omega) hk).trans ((axL75 44 k rfl).trans ((axL53 44 k rfl).trans ((axL35 44 k rfl).trans ((axL25 44 k rfl).trans rfl))))))
                    exact W.zret (v := 1) hx hb hr rfl (fun t ht hW => ⟨⟨1, (V107, L94), rfl, ⟨hMV107, agV107, alL94, (by decide), (Or.inl ⟨rfl, (sA (nx (nx (nx (nx gs 1) 1) 1) 1) 1 wx37), hr99, rl109, (by omega)⟩), rw115⟩, by rw [ht]; exact hP, va_K.moved hW.alike hK, hD⟩, hS.F ht⟩) hS.2.2 dX1_readSetting_92
              · skip
                have f116 : z69.toInt = 0 := b_eq rfl (by decide) c82
                exfalso; first | omega | ((try (have i_t72 := Imp.go t72 (by omega))); (try (have i_t50 := Imp.go t50 (by omega))); (try (have i_t49 := Imp.go t49 (by omega))); (try (have i_t9 := Imp.go t9 (by omega))); (try (have i_t8 := Imp.go t8 (by omega))); (try (have i_t8 := Imp.go t8 (by omega))); (try (have i_t9 := Imp.go t9 (by omega))); (try (have i_t49 := Imp.go t49 (by omega))); (try (have i_t50 := Imp.go t50 (by omega))); (try (have i_t72 := Imp.go t72 (by omega))); omega)
            · skip
              have hb117 : ∀ k, Rc gT (Crun gs (Istmt :: k)) (Cbad (V74 1 3).toInt) := fun k => Rc.go1 (hr64 k) ((tk_n (fun h9 => h77 (rl63.tok.1.symm.trans (h9.trans (by decide))))).trans (fl_eq rl63.tok.2.2 k78))
              refine lv_if_ne (tgt := 61) hx hb dX1_readSetting_56 (by decide) (fun c118 => ?_) (fun c118 => ?_)
              · skip
                have f119 : z69.toInt ≠ 0 := b_neq rfl (by decide) c118
                exfalso; first | omega | ((try (have i_t72 := Imp.go t72 (by omega))); (try (have i_t50 := Imp.go t50 (by omega))); (try (have i_t49 := Imp.go t49 (by omega))); (try (have i_t9 := Imp.go t9 (by omega))); (try (have i_t8 := Imp.go t8 (by omega))); (try (have i_t8 := Imp.go t8 (by omega))); (try (have i_t9 := Imp.go t9 (by omega))); (try (have i_t49 := Imp.go t49 (by omega))); (try (have i_t50 := Imp.go t50 (by omega))); (try (have i_t72 := Imp.go t72 (by omega))); omega)
              · skip
                have f120 : z69.toInt = 0 := b_eq rfl (by decide) c118
                refine lv_iconst (v := 0) hx hb dX1_readSetting_59 (by decide) ?_
                have rw121 : ROWL b L L75 := (fun k hk => ((axL75 44 k rfl).trans ((axL53 44 k rfl).trans ((axL35 44 k rfl).trans ((axL25 44 k rfl).trans rfl)))))
                exact W.zret (v := 0) hx hb hr rfl (fun t ht hW => ⟨⟨0, (V74, L75), rfl, ⟨hMV74, agV74, alL75, (by decide), (Or.inr ⟨rfl, hb117⟩), rw121⟩, by rw [ht]; exact hP, va_K.moved hW.alike hK, hD⟩, hS.F ht⟩) hS.2.2 dX1_readSetting_60
        · skip
          have hb122 : ∀ k, Rc gT (Crun gs (Istmt :: k)) (Cbad (V52 1 3).toInt) := fun k => Rc.go1 (hr41 k) ((nm_1 (fun h9 => h56 (rl39.tok.1.symm.trans h9))).trans (fl_eq rl39.tok.2.2 k59))
          refine lv_if_eq (tgt := 59) hx hb dX1_readSetting_47 (by decide) (fun c123 => ?_) (fun c123 => ?_)
          · skip
            have f124 : z46.toInt = 0 := b_eq rfl (by decide) c123
            refine lv_iconst (v := 0) hx hb dX1_readSetting_59 (by decide) ?_
            have rw125 : ROWL b L L53 := (fun k hk => ((axL53 44 k rfl).trans ((axL35 44 k rfl).trans ((axL25 44 k rfl).trans rfl))))
            exact W.zret (v := 0) hx hb hr rfl (fun t ht hW => ⟨⟨0, (V52, L53), rfl, ⟨hMV52, agV52, alL53, (by decide), (Or.inr ⟨rfl, hb122⟩), rw125⟩, by rw [ht]; exact hP, va_K.moved hW.alike hK, hD⟩, hS.F ht⟩) hS.2.2 dX1_readSetting_60
          · skip
            have f126 : z46.toInt ≠ 0 := b_neq rfl (by decide) c123
            exfalso; first | omega | ((try (have i_t50 := Imp.go t50 (by omega))); (try (have i_t49 := Imp.go t49 (by omega))); (try (have i_t9 := Imp.go t9 (by omega))); (try (have i_t8 := Imp.go t8 (by omega))); (try (have i_t8 := Imp.go t8 (by omega))); (try (have i_t9 := Imp.go t9 (by omega))); (try (have i_t49 := Imp.go t49 (by omega))); (try (have i_t50 := Imp.go t50 (by omega))); omega)
        · skip
          have hb127 : ∀ k, Rc gT (Crun gs (Istmt :: k)) (Cbad (V52 1 3).toInt) := fun k => Rc.go1 (hr41 k) ((nm_4 (rl39.tok.1.trans h56) (by omega)).trans (fl_eq rl39.tok.2.2 k59))
          refine lv_if_eq (tgt := 59) hx hb dX1_readSetting_47 (by decide) (fun c128 => ?_) (fun c128 => ?_)
          · skip
            have f129 : z46.toInt = 0 := b_eq rfl (by decide) c128
            refine lv_iconst (v := 0) hx hb dX1_readSetting_59 (by decide) ?_
            have rw130 : ROWL b L L53 := (fun k hk => ((axL53 44 k rfl).trans ((axL35 44 k rfl).trans ((axL25 44 k rfl).trans rfl))))
            exact W.zret (v := 0) hx hb hr rfl (fun t ht hW => ⟨⟨0, (V52, L53), rfl, ⟨hMV52, agV52, alL53, (by decide), (Or.inr ⟨rfl, hb127⟩), rw130⟩, by rw [ht]; exact hP, va_K.moved hW.alike hK, hD⟩, hS.F ht⟩) hS.2.2 dX1_readSetting_60
          · skip
            have f131 : z46.toInt ≠ 0 := b_neq rfl (by decide) c128
            exfalso; first | omega | ((try (have i_t50 := Imp.go t50 (by omega))); (try (have i_t49 := Imp.go t49 (by omega))); (try (have i_t9 := Imp.go t9 (by omega))); (try (have i_t8 := Imp.go t8 (by omega))); (try (have i_t8 := Imp.go t8 (by omega))); (try (have i_t9 := Imp.go t9 (by omega))); (try (have i_t49 := Imp.go t49 (by omega))); (try (have i_t50 := Imp.go t50 (by omega))); omega)
      · skip
        have f132 : z30.toInt = 0 := b_eq rfl (by decide) c42
        exfalso; first | omega | ((try (have i_t9 := Imp.go t9 (by omega))); (try (have i_t8 := Imp.go t8 (by omega))); (try (have i_t8 := Imp.go t8 (by omega))); (try (have i_t9 := Imp.go t9 (by omega))); omega)
    · skip
      have hb133 : ∀ k, Rc gT (Crun gs (Istmt :: k)) (Cbad (V34 1 3).toInt) := fun k => Rc.go1 (hr14 k) (ns_b h38)
      refine lv_if_ne (tgt := 35) hx hb dX1_readSetting_30 (by decide) (fun c134 => ?_) (fun c134 => ?_)
      · skip
        have f135 : z30.toInt ≠ 0 := b_neq rfl (by decide) c134
        exfalso; first | omega | ((try (have i_t9 := Imp.go t9 (by omega))); (try (have i_t8 := Imp.go t8 (by omega))); (try (have i_t8 := Imp.go t8 (by omega))); (try (have i_t9 := Imp.go t9 (by omega))); omega)
      · skip
        have f136 : z30.toInt = 0 := b_eq rfl (by decide) c134
        refine lv_iconst (v := 0) hx hb dX1_readSetting_33 (by decide) ?_
        have rw137 : ROWL b L L35 := (fun k hk => ((axL35 44 k rfl).trans ((axL25 44 k rfl).trans rfl)))
        exact W.zret (v := 0) hx hb hr rfl (fun t ht hW => ⟨⟨0, (V34, L35), rfl, ⟨hMV34, agV34, alL35, (by decide), (Or.inr ⟨rfl, hb133⟩), rw137⟩, by rw [ht]; exact hP, va_K.moved hW.alike hK, hD⟩, hS.F ht⟩) hS.2.2 dX1_readSetting_34
  · skip
    have f138 : z5.toInt ≠ 0 := b_neq rfl (by decide) c10
    refine lv_aload_n hx hb dX1_readSetting_13 rfl (lv_at hl 0 rfl) ?_
    refine lv_iconst (v := 5) hx hb dX1_readSetting_14 (by decide) ?_
    have kd139 : gT.1 (gs.1 0) = ((V 6 9)).toInt := RelC.kd rel
    have r140 : Int32.toInt 5 = 5 := by decide
    refine gA_int (gA_runV (As := [.int 5]) (rest := []) (ci := 1) (q0 := 1) hx hb hml hown hg hP hD hK hS hA hnw hgk (x_wrong2 l D ks H.size ad kk V L Z 5 hMV (by decide)) w867 w869 w6 w162 w870 rfl xgReader hdV_yX1_wrong ⟨Nat.le_of_ble_eq_true rfl, Nat.le_of_ble_eq_true rfl⟩ rfl hl.1 rfl (Nat.le_of_ble_eq_true rfl) dX1_readSetting_15 ⟨Nat.le_of_ble_eq_true rfl, Nat.le_of_ble_eq_true rfl⟩) hP hD hK hS hA (fun z141 u142 H locs w143 hP hD hK hS => ?_)
    obtain ⟨V146, L147⟩ := u142
    obtain ⟨hMV146, ajV146, axL147, rgz141, t144, t145⟩ := w143
    have axL147 : L = L147 := Eq.symm axL147
    subst axL147
    have hP : va_P D vwCl (xw ad kk V146 L Z) H := hP
    have hD : va_D A (xw ad kk V146 L Z) := hD
    have hMV146 : rgd bX V146 := hMV146
    have ajV146 : agr [(1, 3)] [] V V146 := ajV146
    have agV146 : agr [(1, 3), (1, 8), (6, 8), (6, 9), (6, 10)] [43, 44, 46] V V146 := agV.tr ajV146 (by decide) (by decide)
    have rgz141 : 0 ≤ z141.toInt ∧ z141.toInt ≤ 0 := rgz141
    have t144 : 1 ≤ (V146 1 3).toInt := t144
    have t145 : (V146 1 3).toInt = (Int32.toInt 5) + 16 * (V 6 10).toInt := t145
    have r148 : 0 ≤ ((V 6 10)).toInt ∧ ((V 6 10)).toInt ≤ 4000 := hMV 6 10
    have hr149 : ∀ k, Rc gT (Crun gs (Istmt :: k)) (Crun gs (Istmt :: k)) := fun k => Rc.rf
    have hb150 : ∀ k, Rc gT (Crun gs (Istmt :: k)) (Cbad (V146 1 3).toInt) := fun k => Rc.go1 (hr149 k) ((st_130f (kd139.trans kd9) (by first | omega | ((try (have i_t9 := Imp.go t9 (by omega))); (try (have i_t8 := Imp.go t8 (by omega))); (try (have i_t8 := Imp.go t8 (by omega))); (try (have i_t9 := Imp.go t9 (by omega))); omega))).trans (fl_eq (RelC.st rel) (show (V146 1 3).toInt = 5 + 16 * (V 6 10).toInt from by omega)))
    have rw151 : ROWL b L L := (fun k hk => rfl)
    exact W.zret (v := z141) hx hb hr (nb_ok (by omega)) (fun t ht hW => ⟨⟨z141, (V146, L), rfl, ⟨hMV146, agV146, alL, (show 0 ≤ z141.toInt ∧ z141.toInt ≤ 1 from by first | omega | ((try (have i_t9 := Imp.go t9 (by omega))); (try (have i_t8 := Imp.go t8 (by omega))); (try (have i_t8 := Imp.go t8 (by omega))); (try (have i_t9 := Imp.go t9 (by omega))); omega)), (Or.inr ⟨(by omega), hb150⟩), rw151⟩, by rw [ht]; exact hP, va_K.moved hW.alike hK, hD⟩, hS.F ht⟩) hS.2.2 dX1_readSetting_18
