/-! a BOOK is read -/
def tkOf (V : Vf) (L : Lf) : Tk := (fun j => (V 12 j).toInt, fun j => L 14 j, fun j => (V 13 j).toInt)
def St0 : St := (fun _ => 0, fun _ => [], [], [])
/-- all tokens are cut (the token at hand left out) -/
def CTx (V : Vf) (L : Lf) (W : Vf) (M : Lf) : Prop := CT V L W M ∧ (W 6 6).toInt = (V 6 5).toInt ∧ W 12 (W 6 7).toInt.toNat = 0 ∧ W 13 (W 6 7).toInt.toNat = V 6 5
theorem CT.ag {V A W : Vf} {L B M : Lf} (h : CT V L A B) (w7 : W 6 7 = A 6 7) (w6 : W 6 6 = A 6 6) (w12 : W 12 = A 12) (w13 : W 13 = A 13) (m14 : M 14 = B 14) : CT V L W M := h.fin w7 w6 (fun k _ => ⟨by rw [w12], by rw [w13], by rw [m14]⟩)
theorem CTx.ag {V A W : Vf} {L B M : Lf} (h : CTx V L A B) (w7 : W 6 7 = A 6 7) (w6 : W 6 6 = A 6 6) (w12 : W 12 = A 12) (w13 : W 13 = A 13) (m14 : M 14 = B 14) : CTx V L W M := ⟨h.1.ag w7 w6 w12 w13 m14, by rw [w6]; exact h.2.1, by rw [w12, w7]; exact h.2.2.1, by rw [w13, w7]; exact h.2.2.2⟩
theorem CT.an {V V' W : Vf} {L L' M : Lf} (h : CT V L W M) (e10 : V' 10 = V 10) (e5 : V' 6 5 = V 6 5) (e11 : L' 11 = L 11) : CT V' L' W M := by
  obtain ⟨S, E, k1, k2⟩ := h
  refine ⟨S, E, by rw [e10, e5]; exact k1, fun j hj => ?_⟩
  rw [e10]
  exact ⟨(k2 j hj).1, (k2 j hj).2.ex e11.symm⟩
theorem CTE.x {V V' W : Vf} {L L' M : Lf} (h : CTE V L W M) (e10 : V' 10 = V 10) (e5 : V' 6 5 = V 6 5) (e11 : L' 11 = L 11) : CTx V' L' W M := ⟨h.1.an e10 e5 e11, by rw [e5]; exact h.2.1, h.2.2.1, by rw [e5]; exact h.2.2.2.1⟩
theorem RelC.tk {V : Vf} {L : Lf} {b : Nat} {T : Tk} {s : St} (h : RelC V L b T s) : T = tkOf V L := by
  obtain ⟨a, c, d⟩ := T
  have h1 : a = fun j => (V 12 j).toInt := funext fun j => h.2.1.2.1 j
  have h2 : c = fun j => L 14 j := funext fun j => h.2.1.2.2.1 j
  have h3 : d = fun j => (V 13 j).toInt := funext fun j => h.2.1.2.2.2.1 j
  rw [h1, h2, h3]
  rfl
theorem RelC.z {V : Vf} {L : Lf} {b : Nat} (c : CUR V L 0) (e : V 12 (V 6 7).toInt.toNat = 0) (f : (V 1 3).toInt = 0) (n0 : (V 43 (5 * b + 0)).toInt = 0) (n1 : (V 43 (5 * b + 1)).toInt = 0) (n2 : (V 43 (5 * b + 2)).toInt = 0) (n3 : (V 43 (5 * b + 3)).toInt = 0) (n4 : (V 43 (5 * b + 4)).toInt = 0) (w : (V 41 b).toInt = 0) (o : (V 1 2).toInt < 0) : RelC V L b (tkOf V L) St0 := by
  refine ⟨c, ⟨by rw [e]; decide, fun _ => rfl, fun _ => rfl, fun _ => rfl, f⟩, fun j hj => ?_, ⟨by rw [w]; rfl, fun i h => absurd h (Nat.not_lt_zero _)⟩, fun q => absurd q (by omega)⟩
  have e : (V 43 (5 * b + j)).toInt = 0 := by
    rcases j with _ | _ | _ | _ | _ | j
    · exact n0
    · exact n1
    · exact n2
    · exact n3
    · exact n4
    · omega
  rw [e]
  exact ⟨rfl, fun i h => absurd h (Nat.not_lt_zero _)⟩
/-- how the reading of a BOOK ends -/
def BRES (T : Tk) (r : Int) (P : St → Prop) : Prop := (r = 0 ∧ ∃ s' : St, Rc T (Crun St0 [Istmt]) (Cdone s') ∧ P s') ∨ Rc T (Crun St0 [Istmt]) (Cbad r)


abbrev r_x_aroundsOf3 : Room := { frames := 0, cells := 0, slots := 0, locals := 0 }
abbrev q_x_aroundsOf3 (D : va_G) (ks : KS) (ad : Nat → Nat) (kk : Nat → ClassId) (V : Vf) (L : Lf) (Z : XZ) (p0 : Int32) (b : Nat) (gs : St) (gf : Nat) (A : Nat → Prop) : Array Value → State → Outcome → State → Prop := va_Qi (fun (r : Int32) (_ : Unit) => (r.toInt = ((arounds gs.2.2.1 gf : Nat) : Int))) (fun _ t => gq D A (xw ad kk V L Z) (xty kk Z) t) A
set_option maxHeartbeats 4000000 in
set_option maxRecDepth 100000 in
theorem x_aroundsOf3 (l : Launch) (D : va_G) (ks : KS) (sz : Nat) (ad : Nat → Nat) (kk : Nat → ClassId) (V : Vf) (L : Lf) (Z : XZ) (p0 : Int32) (b : Nat) (gs : St) (gf : Nat) (hMV : rgd bX V) (hb2 : b < 2) (gfe : p0.toInt = (gf : Int)) (wr : WRc V b gs)  : Met l yX0_aroundsOf (Cond.code yX0_aroundsOf cX0_aroundsOf 4 (some .int) :: GW) r_x_aroundsOf3 (va_Pc [.ref (ad (38 + b)), .int p0] (gp D ks (xw ad kk V L Z) (xty kk Z) sz)) (q_x_aroundsOf3 D ks ad kk V L Z p0 b gs gf (va_A (xw ad kk V L Z) sz)) 0 0 (va_A (xw ad kk V L Z) sz) := by
  refine g_met (q_x_aroundsOf3 D ks ad kk V L Z p0 b gs gf) (by decide) (Nat.le_of_ble_eq_true rfl) ?_
  intro p e s m below meth c A ls H locs hx hb hr hml hown hg hlocks hin hnw hgk hP hK hD hS hA hl
  have hown : s.vm.findClass RX0 = some m.cls := hown
  have hl : lv_has ls 4 [(0, .ref (ad (38 + b))), (1, .int p0)] := hl
  have hP : va_P D vwCl (xw ad kk V L Z) H := hP
  have hD : va_D A (xw ad kk V L Z) := hD
  have hK : va_K D vwCl (xty kk Z) s := hK
  refine lv_iconst (v := 0) hx hb dX0_aroundsOf_0 (by decide) ?_
  refine lv_istore_n (lv' := [(2, .int 0), (0, .ref (ad (38 + b))), (1, .int p0)]) hx hb dX0_aroundsOf_1 rfl hl (by decide) rfl (fun ls hl => ?_)
  refine lv_iconst (v := 0) hx hb dX0_aroundsOf_2 (by decide) ?_
  refine lv_istore_n (lv' := [(3, .int 0), (2, .int 0), (0, .ref (ad (38 + b))), (1, .int p0)]) hx hb dX0_aroundsOf_3 rfl hl (by decide) rfl (fun ls hl => ?_)
  have lp3 : ∀ (fulp3 : Nat) (y1 : Int32) (y2 : Int32) (H : Heap) (locs : List Loc) (ls : Array Slot), 0 ≤ y1.toInt ∧ y1.toInt ≤ 12 → 0 ≤ y2.toInt ∧ y2.toInt ≤ 12 → y2.toInt ≤ y1.toInt → y1.toInt ≤ (V 41 b).toInt → y2.toInt = ((arounds (gs.2.2.1.take y1.toInt.toNat) gf : Nat) : Int) → 12 - y1.toInt < (fulp3 : Int) → va_P D vwCl (xw ad kk V L Z) H → va_D A (xw ad kk V L Z) → va_S A s.heap H locs → lv_has ls 4 [(3, .int y1), (2, .int y2), (0, .ref (ad (38 + b))), (1, .int p0)] → W p l e r_x_aroundsOf3 s m ([.ref (ad (38 + b)), .int p0] : List Value).toArray below meth c H locs 0 0 (MQ below (q_x_aroundsOf3 D ks ad kk V L Z p0 b gs gf A) ([.ref (ad (38 + b)), .int p0] : List Value).toArray s 0 0 A) (F0 m 4 ls []) := by
    intro fulp3
    induction fulp3 with
    | zero =>
      intro y1 y2 H locs ls klp3_0 klp3_1 xlp3_0 xlp3_1 xlp3_2 hn  hP hD hS hl
      exfalso; (first | exact om_b9de4c342026 klp3_0.2 hn | omega)
    | succ fulp3 ihlp3 =>
      intro y1 y2 H locs ls klp3_0 klp3_1 xlp3_0 xlp3_1 xlp3_2 hn  hP hD hS hl
      have r4 : 0 ≤ ((V 41 b)).toInt ∧ ((V 41 b)).toInt ≤ 12 := hMV 41 b
      refine lv_iload_n hx hb dX0_aroundsOf_4 rfl (lv_at hl 0 rfl) ?_
      refine lv_aload_n hx hb dX0_aroundsOf_5 rfl (lv_at hl 2 rfl) ?_
      refine va_get (D := D) (ci := 0) (v := .int (V 41 b)) (fs := (xfBook ad V b)) (C := RX0) (T := TX0) (N := 13) hx hb hg inX0 hown hK hP (38 + b) (xgBook hb2) rfl 11 (by decide) (hg _ w625) (fun _ h9 => h9) rfl dX0_aroundsOf_6 ?_
      refine lv_icmp_ge (tgt := 47) hx hb dX0_aroundsOf_9 (by decide) (fun c5 => ?_) (fun c5 => ?_)
      · skip
        have f6 : ((V 41 b)).toInt ≤ y1.toInt := b_le rfl rfl c5
        refine lv_iload_n hx hb dX0_aroundsOf_47 rfl (lv_at hl 1 rfl) ?_
        have as7 := WRc.all (i := y1.toInt.toNat) (f := gf) wr (by omega)
        exact W.iret (v := y2) hx hb hr (fun t ht hW => ⟨⟨y2, (), rfl, (show y2.toInt = ((arounds gs.2.2.1 gf : Nat) : Int) from by rw [← as7]; omega), by rw [ht]; exact hP, va_K.moved hW.alike hK, hD⟩, hS.F ht⟩) hS.2.2 dX0_aroundsOf_48
      · skip
        have f8 : y1.toInt < ((V 41 b)).toInt := b_nle rfl rfl c5
        refine lv_aload_n hx hb dX0_aroundsOf_12 rfl (lv_at hl 2 rfl) ?_
        refine va_get (D := D) (ci := 0) (v := .ref (ad (66 + b))) (fs := (xfBook ad V b)) (C := RX0) (T := TX0) (N := 13) hx hb hg inX0 hown hK hP (38 + b) (xgBook hb2) rfl 8 (by decide) (hg _ w619) (fun _ h9 => h9) rfl dX0_aroundsOf_13 ?_
        refine lv_iload_n hx hb dX0_aroundsOf_16 rfl (lv_at hl 0 rfl) ?_
        have il9 : b < 2 := by first | exact om_f940a4667dd6 hb2 | first | omega | ((try (have i_wr := Imp.go wr (by omega))); omega)
        refine va_aldq (D := D) (i := y1) hx hb hK hP (66 + b) (59 + b) (xgwrapsA il9) (xtwrapsA il9) (i_in (a := y1.toInt) rfl (by first | exact om_7b6d73fd5b07 klp3_1.1 xlp3_0 r4.2 f8 | first | omega | ((try (have i_wr := Imp.go wr (by omega))); omega))) dX0_aroundsOf_17 ?_
        have kc10 := i_clamp (x := y1) rfl (by first | exact om_12cf676bc652 klp3_1.1 xlp3_0 | first | omega | ((try (have i_wr := Imp.go wr (by omega))); omega))
        refine g_topv (v := .ref (ad (312 + (12 * b + (Int32.toNatClampNeg y1))))) (congrArg va_rf (if_pos (by first | omega | ((try (have i_wr := Imp.go wr (by omega))); omega)))) ?_
        have il11 : (12 * b + (Int32.toNatClampNeg y1)) < 24 := by first | exact om_f893fc5824a8 hb2 r4.2 f8 kc10 | first | omega | ((try (have i_wr := Imp.go wr (by omega))); omega)
        refine va_getN (D := D) (ci := 10) (v := .int (V 65 (12 * b + (Int32.toNatClampNeg y1)))) (fs := (xfWrap V (12 * b + (Int32.toNatClampNeg y1)))) (C := RX10) (T := TX10) (N := 5) hx hb hg inX10 hown hK hP (312 + (12 * b + (Int32.toNatClampNeg y1))) (xgWrap il11) rfl 3 (by decide) (hnw.use 578 n578 rfl) (fun _ h9 => h9) rfl dX0_aroundsOf_18 ?_
        refine lv_iconst (v := 1) hx hb dX0_aroundsOf_21 (by decide) ?_
        refine lv_icmp_ne (tgt := 41) hx hb dX0_aroundsOf_22 (by decide) (fun c12 => ?_) (fun c12 => ?_)
        · skip
          have f13 : ((V 65 (12 * b + (Int32.toNatClampNeg y1)))).toInt ≠ 1 := b_neq rfl (by decide) c12
          obtain ⟨z14, ez14⟩ : ∃ y : Int32, y = y1 + 1 := ⟨_, rfl⟩
          have hz14 : z14.toInt = y1.toInt + 1 := i_add ez14 rfl (by decide) (by (first | exact om_7992c83b4b8b klp3_0.1 r4.2 f8 | omega))
          refine lv_iinc (v := z14) (lv' := [(3, .int z14), (2, .int y2), (0, .ref (ad (38 + b))), (1, .int p0)]) hx hb dX0_aroundsOf_41 hl (k := 0) rfl (by rw [ez14]; rfl) (by decide) rfl (fun ls hl => ?_)
          refine lv_goto (tgt := 4) hx hb dX0_aroundsOf_44 (by decide) ?_
          have as15 := WRc.st (i := y1.toInt.toNat) (f := gf) wr (by omega)
          have kc16 := i_clamp (x := y1) rfl (by (first | exact om_eafa9039069c klp3_0.1 | omega))
          have e9 : 12 * b + y1.toInt.toNat = 12 * b + Int32.toNatClampNeg y1 := rfl
          rw [e9] at as15
          rw [if_neg (fun q9 => by have q8 := q9.1; have q7 := q9.2; omega)] at as15
          exact ihlp3 z14 y2 H locs ls (by first | exact om_56249b68a5fe klp3_0.1 r4.2 f8 hz14 | first | omega | ((try (have i_wr := Imp.go wr (by omega))); omega)) (by first | exact om_71ce40002410 klp3_1.1 xlp3_0 r4.2 f8 | first | omega | ((try (have i_wr := Imp.go wr (by omega))); omega)) (show y2.toInt ≤ z14.toInt from by first | exact om_f75a30b4c815 xlp3_0 hz14 | first | omega | ((try (have i_wr := Imp.go wr (by omega))); omega)) (show z14.toInt ≤ (V 41 b).toInt from by first | exact om_7fe9249fc074 f8 hz14 | first | omega | ((try (have i_wr := Imp.go wr (by omega))); omega)) (show y2.toInt = ((arounds (gs.2.2.1.take z14.toInt.toNat) gf : Nat) : Int) from by rw [show z14.toInt.toNat = y1.toInt.toNat + 1 from by omega, as15]; omega) (by first | exact om_95514e7aa9e9 hn hz14 | first | omega | ((try (have i_wr := Imp.go wr (by omega))); omega)) hP hD hS (lv_sub hl [0, 1, 2, 3] rfl)
        · skip
          have f17 : ((V 65 (12 * b + (Int32.toNatClampNeg y1)))).toInt = 1 := b_eq rfl (by decide) c12
          refine lv_aload_n hx hb dX0_aroundsOf_25 rfl (lv_at hl 2 rfl) ?_
          refine va_get (D := D) (ci := 0) (v := .ref (ad (66 + b))) (fs := (xfBook ad V b)) (C := RX0) (T := TX0) (N := 13) hx hb hg inX0 hown hK hP (38 + b) (xgBook hb2) rfl 8 (by decide) (hg _ w619) (fun _ h9 => h9) rfl dX0_aroundsOf_26 ?_
          refine lv_iload_n hx hb dX0_aroundsOf_29 rfl (lv_at hl 0 rfl) ?_
          refine va_aldq (D := D) (i := y1) hx hb hK hP (66 + b) (59 + b) (xgwrapsA il9) (xtwrapsA il9) (i_in (a := y1.toInt) rfl (by first | exact om_90c9ae59974b klp3_0.1 r4.2 f8 | first | omega | ((try (have i_wr := Imp.go wr (by omega))); omega))) dX0_aroundsOf_30 ?_
          refine g_topv (v := .ref (ad (312 + (12 * b + (Int32.toNatClampNeg y1))))) (congrArg va_rf (if_pos (by first | omega | ((try (have i_wr := Imp.go wr (by omega))); omega)))) ?_
          refine va_getN (D := D) (ci := 10) (v := .int (V 63 (12 * b + (Int32.toNatClampNeg y1)))) (fs := (xfWrap V (12 * b + (Int32.toNatClampNeg y1)))) (C := RX10) (T := TX10) (N := 5) hx hb hg inX10 hown hK hP (312 + (12 * b + (Int32.toNatClampNeg y1))) (xgWrap il11) rfl 1 (by decide) (hnw.use 576 n576 rfl) (fun _ h9 => h9) rfl dX0_aroundsOf_31 ?_
          refine lv_iload_n hx hb dX0_aroundsOf_34 rfl (lv_at hl 3 rfl) ?_
          refine lv_icmp_ne (tgt := 41) hx hb dX0_aroundsOf_35 (by decide) (fun c18 => ?_) (fun c18 => ?_)
          · skip
            have f19 : ((V 63 (12 * b + (Int32.toNatClampNeg y1)))).toInt ≠ p0.toInt := b_neq rfl rfl c18
            obtain ⟨z20, ez20⟩ : ∃ y : Int32, y = y1 + 1 := ⟨_, rfl⟩
            have hz20 : z20.toInt = y1.toInt + 1 := i_add ez20 rfl (by decide) (by (first | exact om_7992c83b4b8b klp3_0.1 r4.2 f8 | omega))
            refine lv_iinc (v := z20) (lv' := [(3, .int z20), (2, .int y2), (0, .ref (ad (38 + b))), (1, .int p0)]) hx hb dX0_aroundsOf_41 hl (k := 0) rfl (by rw [ez20]; rfl) (by decide) rfl (fun ls hl => ?_)
            refine lv_goto (tgt := 4) hx hb dX0_aroundsOf_44 (by decide) ?_
            have as21 := WRc.st (i := y1.toInt.toNat) (f := gf) wr (by omega)
            have kc22 := i_clamp (x := y1) rfl (by (first | exact om_eafa9039069c klp3_0.1 | omega))
            have e9 : 12 * b + y1.toInt.toNat = 12 * b + Int32.toNatClampNeg y1 := rfl
            rw [e9] at as21
            rw [if_neg (fun q9 => by have q8 := q9.1; have q7 := q9.2; omega)] at as21
            exact ihlp3 z20 y2 H locs ls (by first | exact om_56249b68a5fe klp3_0.1 r4.2 f8 hz20 | first | omega | ((try (have i_wr := Imp.go wr (by omega))); omega)) (by first | exact om_71ce40002410 klp3_1.1 xlp3_0 r4.2 f8 | first | omega | ((try (have i_wr := Imp.go wr (by omega))); omega)) (show y2.toInt ≤ z20.toInt from by first | exact om_f75a30b4c815 xlp3_0 hz20 | first | omega | ((try (have i_wr := Imp.go wr (by omega))); omega)) (show z20.toInt ≤ (V 41 b).toInt from by first | exact om_7fe9249fc074 f8 hz20 | first | omega | ((try (have i_wr := Imp.go wr (by omega))); omega)) (show y2.toInt = ((arounds (gs.2.2.1.take z20.toInt.toNat) gf : Nat) : Int) from by rw [show z20.toInt.toNat = y1.toInt.toNat + 1 from by omega, as21]; omega) (by first | exact om_95514e7aa9e9 hn hz20 | first | omega | ((try (have i_wr := Imp.go wr (by omega))); omega)) hP hD hS (lv_sub hl [0, 1, 2, 3] rfl)
          · skip
            have f23 : ((V 63 (12 * b + (Int32.toNatClampNeg y1)))).toInt = p0.toInt := b_eq rfl rfl c18
            obtain ⟨z24, ez24⟩ : ∃ y : Int32, y = y2 + 1 := ⟨_, rfl⟩
            have hz24 : z24.toInt = y2.toInt + 1 := i_add ez24 rfl (by decide) (by (first | exact om_ba20663fa7a6 klp3_1.1 xlp3_0 r4.2 f8 | omega))
            refine lv_iinc (v := z24) (lv' := [(2, .int z24), (3, .int y1), (0, .ref (ad (38 + b))), (1, .int p0)]) hx hb dX0_aroundsOf_38 hl (k := 1) rfl (by rw [ez24]; rfl) (by decide) rfl (fun ls hl => ?_)
            obtain ⟨z25, ez25⟩ : ∃ y : Int32, y = y1 + 1 := ⟨_, rfl⟩
            have hz25 : z25.toInt = y1.toInt + 1 := i_add ez25 rfl (by decide) (by (first | exact om_7992c83b4b8b klp3_0.1 r4.2 f8 | omega))
            refine lv_iinc (v := z25) (lv' := [(3, .int z25), (2, .int z24), (0, .ref (ad (38 + b))), (1, .int p0)]) hx hb dX0_aroundsOf_41 hl (k := 1) rfl (by rw [ez25]; rfl) (by decide) rfl (fun ls hl => ?_)
            refine lv_goto (tgt := 4) hx hb dX0_aroundsOf_44 (by decide) ?_
            have as26 := WRc.st (i := y1.toInt.toNat) (f := gf) wr (by omega)
            have kc27 := i_clamp (x := y1) rfl (by (first | exact om_eafa9039069c klp3_0.1 | omega))
            have e9 : 12 * b + y1.toInt.toNat = 12 * b + Int32.toNatClampNeg y1 := rfl
            rw [e9] at as26
            rw [if_pos (show _ ∧ _ from ⟨by omega, by omega⟩)] at as26
            exact ihlp3 z25 z24 H locs ls (by first | exact om_56249b68a5fe klp3_0.1 r4.2 f8 hz25 | first | omega | ((try (have i_wr := Imp.go wr (by omega))); omega)) (by first | exact om_ebad2ea2b73e klp3_1.1 xlp3_0 r4.2 f8 hz24 | first | omega | ((try (have i_wr := Imp.go wr (by omega))); omega)) (show z24.toInt ≤ z25.toInt from by first | exact om_953ed16b636a xlp3_0 hz24 hz25 | first | omega | ((try (have i_wr := Imp.go wr (by omega))); omega)) (show z25.toInt ≤ (V 41 b).toInt from by first | exact om_7fe9249fc074 f8 hz25 | first | omega | ((try (have i_wr := Imp.go wr (by omega))); omega)) (show z24.toInt = ((arounds (gs.2.2.1.take z25.toInt.toNat) gf : Nat) : Int) from by rw [show z25.toInt.toNat = y1.toInt.toNat + 1 from by omega, as26]; omega) (by first | exact om_95514e7aa9e9 hn hz25 | first | omega | ((try (have i_wr := Imp.go wr (by omega))); omega)) hP hD hS (lv_sub hl [0, 1, 2, 3] rfl)
  have r28 : Int32.toInt 0 = 0 := by decide
  have r29 : 0 ≤ ((V 41 b)).toInt ∧ ((V 41 b)).toInt ≤ 12 := hMV 41 b
  exact lp3 ((12 - (Int32.toInt 0) + 1 : Int).toNat) 0 0 H locs ls (by decide) (by decide) (show (Int32.toInt 0) ≤ (Int32.toInt 0) from by first | exact om_5977f3d8a10f | first | omega | ((try (have i_wr := Imp.go wr (by omega))); omega)) (show (Int32.toInt 0) ≤ (V 41 b).toInt from by first | exact om_a51dc5ad8918 r28 r29.1 | first | omega | ((try (have i_wr := Imp.go wr (by omega))); omega)) (show Int32.toInt 0 = ((arounds (gs.2.2.1.take (Int32.toInt 0).toNat) gf : Nat) : Int) from rfl) (by first | exact om_10cc180fa1f4 | first | omega | ((try (have i_wr := Imp.go wr (by omega))); omega)) hP hD hS (lv_sub hl [0, 1, 2, 3] rfl)
abbrev r_x_addWrap3 : Room := { frames := 0, cells := 0, slots := 0, locals := 0 }
abbrev q_x_addWrap3 (D : va_G) (ks : KS) (ad : Nat → Nat) (kk : Nat → ClassId) (V : Vf) (L : Lf) (Z : XZ) (p0 : Int32) (p1 : Int32) (p2 : Int32) (p3 : Int32) (p4 : Int32) (b : Nat) (A : Nat → Prop) : Array Value → State → Outcome → State → Prop := va_Qv (fun (u : Vf × Lf) => rgd bX u.1 ∧ agr [] [41, 47, 62, 63, 64, 65, 66] V u.1 ∧ u.2 = L ∧ (Imp ((V 41 b).toInt < 12) ((u.1 41 b).toInt = (V 41 b).toInt + 1)) ∧ (Imp ((V 41 b).toInt < 12) (u.1 63 = upd (V 63) (12 * b + Int32.toNatClampNeg (V 41 b)) p1)) ∧ (Imp ((V 41 b).toInt < 12) (u.1 65 = upd (V 65) (12 * b + Int32.toNatClampNeg (V 41 b)) p3)) ∧ (Imp ((V 41 b).toInt < 12) (u.1 62 = upd (V 62) (12 * b + Int32.toNatClampNeg (V 41 b)) p0)) ∧ (Imp ((V 41 b).toInt < 12) (u.1 64 = upd (V 64) (12 * b + Int32.toNatClampNeg (V 41 b)) p2)) ∧ (Imp ((V 41 b).toInt < 12) (u.1 66 = upd (V 66) (12 * b + Int32.toNatClampNeg (V 41 b)) p4))) (fun u t => gq D A (xw ad kk u.1 u.2 Z) (xty kk Z) t) A
set_option maxHeartbeats 4000000 in
set_option maxRecDepth 100000 in
theorem x_addWrap3 (l : Launch) (D : va_G) (ks : KS) (sz : Nat) (ad : Nat → Nat) (kk : Nat → ClassId) (V : Vf) (L : Lf) (Z : XZ) (p0 : Int32) (p1 : Int32) (p2 : Int32) (p3 : Int32) (p4 : Int32) (b : Nat) (hMV : rgd bX V) (rg_p4 : 0 ≤ p4.toInt ∧ p4.toInt ≤ 8200) (hb2 : b < 2)  : Met l yX0_addWrap (Cond.code yX0_addWrap cX0_addWrap 8 none :: GW) r_x_addWrap3 (va_Pc [.ref (ad (38 + b)), .int p0, .int p1, .int p2, .int p3, .int p4] (gp D ks (xw ad kk V L Z) (xty kk Z) sz)) (q_x_addWrap3 D ks ad kk V L Z p0 p1 p2 p3 p4 b (va_A (xw ad kk V L Z) sz)) 0 0 (va_A (xw ad kk V L Z) sz) := by
  refine g_met (q_x_addWrap3 D ks ad kk V L Z p0 p1 p2 p3 p4 b) (by decide) (Nat.le_of_ble_eq_true rfl) ?_
  intro p e s m below meth c A ls H locs hx hb hr hml hown hg hlocks hin hnw hgk hP hK hD hS hA hl
  have hown : s.vm.findClass RX0 = some m.cls := hown
  have hl : lv_has ls 8 [(0, .ref (ad (38 + b))), (1, .int p0), (2, .int p1), (3, .int p2), (4, .int p3), (5, .int p4)] := hl
  have hP : va_P D vwCl (xw ad kk V L Z) H := hP
  have hD : va_D A (xw ad kk V L Z) := hD
  have hK : va_K D vwCl (xty kk Z) s := hK
  have agV : agr [] [41, 47, 62, 63, 64, 65, 66] V V := agr.rf
  refine lv_aload_n hx hb dX0_addWrap_0 rfl (lv_at hl 0 rfl) ?_
  refine va_get (D := D) (ci := 0) (v := .int (V 41 b)) (fs := (xfBook ad V b)) (C := RX0) (T := TX0) (N := 13) hx hb hg inX0 hown hK hP (38 + b) (xgBook hb2) rfl 11 (by decide) (hg _ w625) (fun _ h9 => h9) rfl dX0_addWrap_1 ?_
  have r1 : 0 ≤ ((V 41 b)).toInt ∧ ((V 41 b)).toInt ≤ 12 := hMV 41 b
  refine lv_bipush (v := 12) hx hb dX0_addWrap_4 (by decide) ?_
  refine lv_icmp_lt (tgt := 10) hx hb dX0_addWrap_6 (by decide) (fun c2 => ?_) (fun c2 => ?_)
  · skip
    have f3 : ((V 41 b)).toInt < 12 := b_lt rfl (by decide) c2
    refine lv_aload_n hx hb dX0_addWrap_10 rfl (lv_at hl 0 rfl) ?_
    refine va_get (D := D) (ci := 0) (v := .ref (ad (66 + b))) (fs := (xfBook ad V b)) (C := RX0) (T := TX0) (N := 13) hx hb hg inX0 hown hK hP (38 + b) (xgBook hb2) rfl 8 (by decide) (hg _ w619) (fun _ h9 => h9) rfl dX0_addWrap_11 ?_
    refine lv_aload_n hx hb dX0_addWrap_14 rfl (lv_at hl 0 rfl) ?_
    refine va_get (D := D) (ci := 0) (v := .int (V 41 b)) (fs := (xfBook ad V b)) (C := RX0) (T := TX0) (N := 13) hx hb hg inX0 hown hK hP (38 + b) (xgBook hb2) rfl 11 (by decide) (hg _ w625) (fun _ h9 => h9) rfl dX0_addWrap_15 ?_
    have il4 : b < 2 := by (first | exact om_f940a4667dd6 hb2 | omega)
    refine va_aldq (D := D) (i := (V 41 b)) hx hb hK hP (66 + b) (59 + b) (xgwrapsA il4) (xtwrapsA il4) (i_in (a := ((V 41 b)).toInt) rfl (by (first | exact om_d4ab6ce6d2bb r1.1 f3 | omega))) dX0_addWrap_18 ?_
    have kc5 := i_clamp (x := (V 41 b)) rfl (by (first | exact om_eafa9039069c r1.1 | omega))
    refine g_topv (v := .ref (ad (312 + (12 * b + (Int32.toNatClampNeg (V 41 b)))))) (congrArg va_rf (if_pos (by omega))) ?_
    have il6 : (12 * b + (Int32.toNatClampNeg (V 41 b))) < 24 := by (first | exact om_29112faea521 hb2 f3 kc5 | omega)
    refine lv_astore (lv' := [(6, .ref (ad (312 + (12 * b + (Int32.toNatClampNeg (V 41 b)))))), (0, .ref (ad (38 + b))), (1, .int p0), (2, .int p1), (3, .int p2), (4, .int p3), (5, .int p4)]) hx hb dX0_addWrap_19 hl (by decide) rfl (fun ls hl => ?_)
    refine lv_aload hx hb dX0_addWrap_21 (lv_at hl 0 rfl) ?_
    refine lv_iload_n hx hb dX0_addWrap_23 rfl (lv_at hl 2 rfl) ?_
    refine va_putN (D := D) (ci := 10) (v := .int p0) (ty := tyX10 0) (fs := (xfWrap V (12 * b + (Int32.toNatClampNeg (V 41 b))))) (C := RX10) (T := TX10) (N := 5) hx hb hg inX10 tyX10 tyX10_ok nmX10 hown hK hP hD hS (312 + (12 * b + (Int32.toNatClampNeg (V 41 b)))) (xgWrap il6) rfl 0 (by decide) (hnw.use 575 n575 rfl) (fun _ h9 => h9) rfl (tyX10_ok 0 (by decide)) rfl rfl (Nat.le_of_ble_eq_true rfl) dX0_addWrap_24 (fun H locs hP hD hS => ?_)
    obtain ⟨V7, hV7⟩ : ∃ z, z = up2 V 62 (12 * b + (Int32.toNatClampNeg (V 41 b))) p0 := ⟨_, rfl⟩
    have ew8 : (xw ad kk V L Z).set (312 + (12 * b + (Int32.toNatClampNeg (V 41 b)))) ((ad (312 + (12 * b + (Int32.toNatClampNeg (V 41 b))))), .inr (10, (xfWrap V (12 * b + (Int32.toNatClampNeg (V 41 b)))).set 0 (.int p0))) = xw ad kk V7 L Z := by rw [hV7]; exact xpWrap_type il6
    have hP : va_P D vwCl (xw ad kk V7 L Z) H := by rw [← ew8]; exact hP
    have hD : va_D A (xw ad kk V7 L Z) := by rw [← ew8]; exact hD
    have hMV7 : rgd bX V7 := hMV.put hV7 (i_full _)
    have agV7 : agr [] [41, 47, 62, 63, 64, 65, 66] V V7 := agV.up hV7 rfl
    refine lv_aload hx hb dX0_addWrap_27 (lv_at hl 0 rfl) ?_
    refine lv_iload_n hx hb dX0_addWrap_29 rfl (lv_at hl 3 rfl) ?_
    refine va_putN (D := D) (ci := 10) (v := .int p1) (ty := tyX10 1) (fs := (xfWrap V7 (12 * b + (Int32.toNatClampNeg (V 41 b))))) (C := RX10) (T := TX10) (N := 5) hx hb hg inX10 tyX10 tyX10_ok nmX10 hown hK hP hD hS (312 + (12 * b + (Int32.toNatClampNeg (V 41 b)))) (xgWrap il6) rfl 1 (by decide) (hnw.use 576 n576 rfl) (fun _ h9 => h9) rfl (tyX10_ok 1 (by decide)) rfl rfl (Nat.le_of_ble_eq_true rfl) dX0_addWrap_30 (fun H locs hP hD hS => ?_)
    obtain ⟨V9, hV9⟩ : ∃ z, z = up2 V7 63 (12 * b + (Int32.toNatClampNeg (V 41 b))) p1 := ⟨_, rfl⟩
    have ew10 : (xw ad kk V7 L Z).set (312 + (12 * b + (Int32.toNatClampNeg (V 41 b)))) ((ad (312 + (12 * b + (Int32.toNatClampNeg (V 41 b))))), .inr (10, (xfWrap V7 (12 * b + (Int32.toNatClampNeg (V 41 b)))).set 1 (.int p1))) = xw ad kk V9 L Z := by rw [hV9]; exact xpWrap_method il6
    have hP : va_P D vwCl (xw ad kk V9 L Z) H := by rw [← ew10]; exact hP
    have hD : va_D A (xw ad kk V9 L Z) := by rw [← ew10]; exact hD
    have hMV9 : rgd bX V9 := hMV7.put hV9 (i_full _)
    have agV9 : agr [] [41, 47, 62, 63, 64, 65, 66] V V9 := agV7.up hV9 rfl
    refine lv_aload hx hb dX0_addWrap_33 (lv_at hl 0 rfl) ?_
    refine lv_iload_n hx hb dX0_addWrap_35 rfl (lv_at hl 4 rfl) ?_
    refine va_putN (D := D) (ci := 10) (v := .int p2) (ty := tyX10 2) (fs := (xfWrap V9 (12 * b + (Int32.toNatClampNeg (V 41 b))))) (C := RX10) (T := TX10) (N := 5) hx hb hg inX10 tyX10 tyX10_ok nmX10 hown hK hP hD hS (312 + (12 * b + (Int32.toNatClampNeg (V 41 b)))) (xgWrap il6) rfl 2 (by decide) (hnw.use 577 n577 rfl) (fun _ h9 => h9) rfl (tyX10_ok 2 (by decide)) rfl rfl (Nat.le_of_ble_eq_true rfl) dX0_addWrap_36 (fun H locs hP hD hS => ?_)
    obtain ⟨V11, hV11⟩ : ∃ z, z = up2 V9 64 (12 * b + (Int32.toNatClampNeg (V 41 b))) p2 := ⟨_, rfl⟩
    have ew12 : (xw ad kk V9 L Z).set (312 + (12 * b + (Int32.toNatClampNeg (V 41 b)))) ((ad (312 + (12 * b + (Int32.toNatClampNeg (V 41 b))))), .inr (10, (xfWrap V9 (12 * b + (Int32.toNatClampNeg (V 41 b)))).set 2 (.int p2))) = xw ad kk V11 L Z := by rw [hV11]; exact xpWrap_number il6
    have hP : va_P D vwCl (xw ad kk V11 L Z) H := by rw [← ew12]; exact hP
    have hD : va_D A (xw ad kk V11 L Z) := by rw [← ew12]; exact hD
    have hMV11 : rgd bX V11 := hMV9.put hV11 (i_full _)
    have agV11 : agr [] [41, 47, 62, 63, 64, 65, 66] V V11 := agV9.up hV11 rfl
    refine lv_aload hx hb dX0_addWrap_39 (lv_at hl 0 rfl) ?_
    refine lv_iload hx hb dX0_addWrap_41 (lv_at hl 5 rfl) ?_
    refine va_putN (D := D) (ci := 10) (v := .int p3) (ty := tyX10 3) (fs := (xfWrap V11 (12 * b + (Int32.toNatClampNeg (V 41 b))))) (C := RX10) (T := TX10) (N := 5) hx hb hg inX10 tyX10 tyX10_ok nmX10 hown hK hP hD hS (312 + (12 * b + (Int32.toNatClampNeg (V 41 b)))) (xgWrap il6) rfl 3 (by decide) (hnw.use 578 n578 rfl) (fun _ h9 => h9) rfl (tyX10_ok 3 (by decide)) rfl rfl (Nat.le_of_ble_eq_true rfl) dX0_addWrap_43 (fun H locs hP hD hS => ?_)
    obtain ⟨V13, hV13⟩ : ∃ z, z = up2 V11 65 (12 * b + (Int32.toNatClampNeg (V 41 b))) p3 := ⟨_, rfl⟩
    have ew14 : (xw ad kk V11 L Z).set (312 + (12 * b + (Int32.toNatClampNeg (V 41 b)))) ((ad (312 + (12 * b + (Int32.toNatClampNeg (V 41 b))))), .inr (10, (xfWrap V11 (12 * b + (Int32.toNatClampNeg (V 41 b)))).set 3 (.int p3))) = xw ad kk V13 L Z := by rw [hV13]; exact xpWrap_phase il6
    have hP : va_P D vwCl (xw ad kk V13 L Z) H := by rw [← ew14]; exact hP
    have hD : va_D A (xw ad kk V13 L Z) := by rw [← ew14]; exact hD
    have hMV13 : rgd bX V13 := hMV11.put hV13 (i_full _)
    have agV13 : agr [] [41, 47, 62, 63, 64, 65, 66] V V13 := agV11.up hV13 rfl
    refine lv_aload hx hb dX0_addWrap_46 (lv_at hl 0 rfl) ?_
    refine lv_iload hx hb dX0_addWrap_48 (lv_at hl 6 rfl) ?_
    refine va_putN (D := D) (ci := 10) (v := .int p4) (ty := tyX10 4) (fs := (xfWrap V13 (12 * b + (Int32.toNatClampNeg (V 41 b))))) (C := RX10) (T := TX10) (N := 5) hx hb hg inX10 tyX10 tyX10_ok nmX10 hown hK hP hD hS (312 + (12 * b + (Int32.toNatClampNeg (V 41 b)))) (xgWrap il6) rfl 4 (by decide) (hnw.use 580 n580 rfl) (fun _ h9 => h9) rfl (tyX10_ok 4 (by decide)) rfl rfl (Nat.le_of_ble_eq_true rfl) dX0_addWrap_50 (fun H locs hP hD hS => ?_)
    obtain ⟨V15, hV15⟩ : ∃ z, z = up2 V13 66 (12 * b + (Int32.toNatClampNeg (V 41 b))) p4 := ⟨_, rfl⟩
    have ew16 : (xw ad kk V13 L Z).set (312 + (12 * b + (Int32.toNatClampNeg (V 41 b)))) ((ad (312 + (12 * b + (Int32.toNatClampNeg (V 41 b))))), .inr (10, (xfWrap V13 (12 * b + (Int32.toNatClampNeg (V 41 b)))).set 4 (.int p4))) = xw ad kk V15 L Z := by rw [hV15]; exact xpWrap_start il6
    have hP : va_P D vwCl (xw ad kk V15 L Z) H := by rw [← ew16]; exact hP
    have hD : va_D A (xw ad kk V15 L Z) := by rw [← ew16]; exact hD
    have hMV15 : rgd bX V15 := hMV13.put hV15 (show 0 ≤ p4.toInt ∧ p4.toInt ≤ 8200 from by (first | exact om_827712d37f0f rg_p4.1 rg_p4.2 | omega))
    have agV15 : agr [] [41, 47, 62, 63, 64, 65, 66] V V15 := agV13.up hV15 rfl
    refine lv_aload_n hx hb dX0_addWrap_53 rfl (lv_at hl 1 rfl) ?_
    refine va_get (D := D) (ci := 0) (v := .int (V15 41 b)) (fs := (xfBook ad V15 b)) (C := RX0) (T := TX0) (N := 13) hx hb hg inX0 hown hK hP (38 + b) (xgBook hb2) rfl 11 (by decide) (hg _ w625) (fun _ h9 => h9) rfl dX0_addWrap_54 ?_
    refine g_top (v := (V 41 b)) ((up2_o hV15 (by decide)).trans ((up2_o hV13 (by decide)).trans ((up2_o hV11 (by decide)).trans ((up2_o hV9 (by decide)).trans (up2_o hV7 (by decide)))))) ?_
    refine lv_istore (lv' := [(7, .int (V 41 b)), (6, .ref (ad (312 + (12 * b + (Int32.toNatClampNeg (V 41 b)))))), (0, .ref (ad (38 + b))), (1, .int p0), (2, .int p1), (3, .int p2), (4, .int p3), (5, .int p4)]) hx hb dX0_addWrap_57 hl (by decide) rfl (fun ls hl => ?_)
    have lp19 : ∀ (fulp19 : Nat) (y17 : Int32) (V18 : Vf) (H : Heap) (locs : List Loc) (ls : Array Slot), 0 ≤ y17.toInt ∧ y17.toInt ≤ 11 → y17.toInt < (fulp19 : Int) → agr [] [47] V15 V18 → rgd bX V18 → va_P D vwCl (xw ad kk V18 L Z) H → va_D A (xw ad kk V18 L Z) → va_S A s.heap H locs → lv_has ls 8 [(7, .int y17), (6, .ref (ad (312 + (12 * b + (Int32.toNatClampNeg (V 41 b)))))), (0, .ref (ad (38 + b))), (1, .int p0), (2, .int p1), (3, .int p2), (4, .int p3), (5, .int p4)] → W p l e r_x_addWrap3 s m ([.ref (ad (38 + b)), .int p0, .int p1, .int p2, .int p3, .int p4] : List Value).toArray below meth c H locs 0 0 (MQ below (q_x_addWrap3 D ks ad kk V L Z p0 p1 p2 p3 p4 b A) ([.ref (ad (38 + b)), .int p0, .int p1, .int p2, .int p3, .int p4] : List Value).toArray s 0 0 A) (F0 m 59 ls []) := by
      intro fulp19
      induction fulp19 with
      | zero =>
        intro y17 V18 H locs ls klp19_0 hn ajV18 hMV18 hP hD hS hl
        exfalso; (first | exact om_21e89d3d06d7 klp19_0.1 hn | omega)
      | succ fulp19 ihlp19 =>
        intro y17 V18 H locs ls klp19_0 hn ajV18 hMV18 hP hD hS hl
        have agV18 : agr [] [41, 47, 62, 63, 64, 65, 66] V V18 := agV15.tr ajV18 (by decide) (by decide)
        refine lv_iload hx hb dX0_addWrap_59 (lv_at hl 0 rfl) ?_
        refine lv_if_le (tgt := 107) hx hb dX0_addWrap_61 (by decide) (fun c20 => ?_) (fun c20 => ?_)
        · skip
          have f21 : y17.toInt ≤ 0 := b_le rfl (by decide) c20
          refine lv_aload_n hx hb dX0_addWrap_107 rfl (lv_at hl 2 rfl) ?_
          refine va_get (D := D) (ci := 0) (v := .ref (ad (68 + b))) (fs := (xfBook ad V18 b)) (C := RX0) (T := TX0) (N := 13) hx hb hg inX0 hown hK hP (38 + b) (xgBook hb2) rfl 9 (by decide) (hg _ w621) (fun _ h9 => h9) rfl dX0_addWrap_108 ?_
          refine lv_iload hx hb dX0_addWrap_111 (lv_at hl 0 rfl) ?_
          refine lv_aload_n hx hb dX0_addWrap_113 rfl (lv_at hl 2 rfl) ?_
          refine va_get (D := D) (ci := 0) (v := .int (V18 41 b)) (fs := (xfBook ad V18 b)) (C := RX0) (T := TX0) (N := 13) hx hb hg inX0 hown hK hP (38 + b) (xgBook hb2) rfl 11 (by decide) (hg _ w625) (fun _ h9 => h9) rfl dX0_addWrap_114 ?_
          refine g_top (v := (V 41 b)) ((ajV18 41 b rfl).trans ((up2_o hV15 (by decide)).trans ((up2_o hV13 (by decide)).trans ((up2_o hV11 (by decide)).trans ((up2_o hV9 (by decide)).trans (up2_o hV7 (by decide))))))) ?_
          have il22 : b < 2 := by (first | exact om_f940a4667dd6 hb2 | omega)
          refine va_iast (D := D) (i := y17) (x := (V 41 b)) hx hb hK hP hD hS (68 + b) (61 + b) (xgwrapOrder il22) (xtwrapOrder il22) (i_in (a := y17.toInt) rfl (by (first | exact om_992dabb1eca5 klp19_0.1 f21 | omega))) dX0_addWrap_117 (fun H locs hP hD hS => ?_)
          have kc23 := i_clamp (x := y17) rfl (by (first | exact om_eafa9039069c klp19_0.1 | omega))
          have kl24 : (Int32.toNatClampNeg y17) < 12 := by (first | exact om_0e62abf75189 f21 kc23 | omega)
          obtain ⟨V25, hV25⟩ : ∃ z, z = up2 V18 47 (12 * b + (Int32.toNatClampNeg y17)) (V 41 b) := ⟨_, rfl⟩
          have ew26 : (xw ad kk V18 L Z).set (68 + b) ((ad (68 + b)), .inl ((kk (68 + b)), 12, .inl (upd (fun q => if q < 12 then V18 47 (12 * b + q) else 0) (Int32.toNatClampNeg y17) (V 41 b)))) = xw ad kk V25 L Z := by rw [hV25]; exact xpwrapOrder il22 kl24
          have hP : va_P D vwCl (xw ad kk V25 L Z) H := by rw [← ew26]; exact hP
          have hD : va_D A (xw ad kk V25 L Z) := by rw [← ew26]; exact hD
          have hMV25 : rgd bX V25 := hMV18.put hV25 (show 0 ≤ ((V 41 b)).toInt ∧ ((V 41 b)).toInt ≤ 11 from by (first | exact om_08e1aa59793b r1.1 f3 | omega))
          have agV25 : agr [] [41, 47, 62, 63, 64, 65, 66] V V25 := agV18.up hV25 rfl
          refine lv_aload_n hx hb dX0_addWrap_118 rfl (lv_at hl 2 rfl) ?_
          refine lv_dup hx hb dX0_addWrap_119 rfl ?_
          refine va_get (D := D) (ci := 0) (v := .int (V25 41 b)) (fs := (xfBook ad V25 b)) (C := RX0) (T := TX0) (N := 13) hx hb hg inX0 hown hK hP (38 + b) (xgBook hb2) rfl 11 (by decide) (hg _ w625) (fun _ h9 => h9) rfl dX0_addWrap_120 ?_
          refine g_top (v := (V 41 b)) ((up2_o hV25 (by decide)).trans ((ajV18 41 b rfl).trans ((up2_o hV15 (by decide)).trans ((up2_o hV13 (by decide)).trans ((up2_o hV11 (by decide)).trans ((up2_o hV9 (by decide)).trans (up2_o hV7 (by decide)))))))) ?_
          refine lv_iconst (v := 1) hx hb dX0_addWrap_123 (by decide) ?_
          refine lv_iadd hx hb dX0_addWrap_124 ?_
          refine lv_topi (fun z27 ez27 => ?_)
          have hz27 : z27.toInt = ((V 41 b)).toInt + 1 := i_add ez27 rfl (by decide) (by (first | exact om_4464765f026c r1.1 f3 | omega))
          refine va_put (D := D) (ci := 0) (v := .int z27) (ty := tyX0 11) (fs := (xfBook ad V25 b)) (C := RX0) (T := TX0) (N := 13) hx hb hg inX0 tyX0 tyX0_ok nmX0 hown hK hP hD hS (38 + b) (xgBook hb2) rfl 11 (by decide) (hg _ w625) (fun _ h9 => h9) rfl (tyX0_ok 11 (by decide)) rfl rfl (Nat.le_of_ble_eq_true rfl) dX0_addWrap_125 (fun H locs hP hD hS => ?_)
          obtain ⟨V28, hV28⟩ : ∃ z, z = up2 V25 41 b z27 := ⟨_, rfl⟩
          have ew29 : (xw ad kk V25 L Z).set (38 + b) ((ad (38 + b)), .inr (0, (xfBook ad V25 b).set 11 (.int z27))) = xw ad kk V28 L Z := by rw [hV28]; exact xpBook_wrapCount hb2
          have hP : va_P D vwCl (xw ad kk V28 L Z) H := by rw [← ew29]; exact hP
          have hD : va_D A (xw ad kk V28 L Z) := by rw [← ew29]; exact hD
          have hMV28 : rgd bX V28 := hMV25.put hV28 (show 0 ≤ z27.toInt ∧ z27.toInt ≤ 12 from by (first | exact om_b1c60bcb684f r1.1 f3 hz27 | omega))
          have agV28 : agr [] [41, 47, 62, 63, 64, 65, 66] V V28 := agV25.up hV28 rfl
          have pq30 : (V28 41 b).toInt = z27.toInt := congrArg Int32.toInt (up2_s hV28)
          have rp31 : Imp ((V 41 b).toInt < 12) (V28 63 = upd (V 63) (12 * b + Int32.toNatClampNeg (V 41 b)) p1) := Imp.mk (fun _ => by rw [(by rw [(up2_fo hV28 (by decide) : V28 63 = V25 63), (up2_fo hV25 (by decide) : V25 63 = V18 63), (funext (fun q => ajV18 63 q rfl) : V18 63 = V15 63), (up2_fo hV15 (by decide) : V15 63 = V13 63), (up2_fo hV13 (by decide) : V13 63 = V11 63), (up2_fo hV11 (by decide) : V11 63 = V9 63)] : V28 63 = V9 63), up2_fn hV9, (by rw [(up2_fo hV7 (by decide) : V7 63 = V 63)] : V7 63 = V 63)])
          have rp32 : Imp ((V 41 b).toInt < 12) (V28 65 = upd (V 65) (12 * b + Int32.toNatClampNeg (V 41 b)) p3) := Imp.mk (fun _ => by rw [(by rw [(up2_fo hV28 (by decide) : V28 65 = V25 65), (up2_fo hV25 (by decide) : V25 65 = V18 65), (funext (fun q => ajV18 65 q rfl) : V18 65 = V15 65), (up2_fo hV15 (by decide) : V15 65 = V13 65)] : V28 65 = V13 65), up2_fn hV13, (by rw [(up2_fo hV11 (by decide) : V11 65 = V9 65), (up2_fo hV9 (by decide) : V9 65 = V7 65), (up2_fo hV7 (by decide) : V7 65 = V 65)] : V11 65 = V 65)])
          have rp33 : Imp ((V 41 b).toInt < 12) (V28 62 = upd (V 62) (12 * b + Int32.toNatClampNeg (V 41 b)) p0) := Imp.mk (fun _ => by rw [(by rw [(up2_fo hV28 (by decide) : V28 62 = V25 62), (up2_fo hV25 (by decide) : V25 62 = V18 62), (funext (fun q => ajV18 62 q rfl) : V18 62 = V15 62), (up2_fo hV15 (by decide) : V15 62 = V13 62), (up2_fo hV13 (by decide) : V13 62 = V11 62), (up2_fo hV11 (by decide) : V11 62 = V9 62), (up2_fo hV9 (by decide) : V9 62 = V7 62)] : V28 62 = V7 62), up2_fn hV7, (rfl : V 62 = V 62)])
          have rp34 : Imp ((V 41 b).toInt < 12) (V28 64 = upd (V 64) (12 * b + Int32.toNatClampNeg (V 41 b)) p2) := Imp.mk (fun _ => by rw [(by rw [(up2_fo hV28 (by decide) : V28 64 = V25 64), (up2_fo hV25 (by decide) : V25 64 = V18 64), (funext (fun q => ajV18 64 q rfl) : V18 64 = V15 64), (up2_fo hV15 (by decide) : V15 64 = V13 64), (up2_fo hV13 (by decide) : V13 64 = V11 64)] : V28 64 = V11 64), up2_fn hV11, (by rw [(up2_fo hV9 (by decide) : V9 64 = V7 64), (up2_fo hV7 (by decide) : V7 64 = V 64)] : V9 64 = V 64)])
          have rp35 : Imp ((V 41 b).toInt < 12) (V28 66 = upd (V 66) (12 * b + Int32.toNatClampNeg (V 41 b)) p4) := Imp.mk (fun _ => by rw [(by rw [(up2_fo hV28 (by decide) : V28 66 = V25 66), (up2_fo hV25 (by decide) : V25 66 = V18 66), (funext (fun q => ajV18 66 q rfl) : V18 66 = V15 66)] : V28 66 = V15 66), up2_fn hV15, (by rw [(up2_fo hV13 (by decide) : V13 66 = V11 66), (up2_fo hV11 (by decide) : V11 66 = V9 66), (up2_fo hV9 (by decide) : V9 66 = V7 66), (up2_fo hV7 (by decide) : V7 66 = V 66)] : V13 66 = V 66)])
          exact W.vret hx hb hr (fun t ht hW => ⟨⟨(V28, L), rfl, ⟨hMV28, agV28, rfl, (Imp.mk (fun hp => have hp : (V 41 b).toInt < 12 := hp; (show (V28 41 b).toInt = (V 41 b).toInt + 1 from by (first | exact om_689eeacb6d53 hz27 pq30 | omega)))), rp31, rp32, rp33, rp34, rp35⟩, by rw [ht]; exact hP, va_K.moved hW.alike hK, hD⟩, hS.F ht⟩) hS.2.2 dX0_addWrap_128
        · skip
          have f36 : 0 < y17.toInt := b_nle rfl (by decide) c20
          refine lv_aload_n hx hb dX0_addWrap_64 rfl (lv_at hl 2 rfl) ?_
          refine va_get (D := D) (ci := 0) (v := .ref (ad (66 + b))) (fs := (xfBook ad V18 b)) (C := RX0) (T := TX0) (N := 13) hx hb hg inX0 hown hK hP (38 + b) (xgBook hb2) rfl 8 (by decide) (hg _ w619) (fun _ h9 => h9) rfl dX0_addWrap_65 ?_
          refine lv_aload_n hx hb dX0_addWrap_68 rfl (lv_at hl 2 rfl) ?_
          refine va_get (D := D) (ci := 0) (v := .ref (ad (68 + b))) (fs := (xfBook ad V18 b)) (C := RX0) (T := TX0) (N := 13) hx hb hg inX0 hown hK hP (38 + b) (xgBook hb2) rfl 9 (by decide) (hg _ w621) (fun _ h9 => h9) rfl dX0_addWrap_69 ?_
          refine lv_iload hx hb dX0_addWrap_72 (lv_at hl 0 rfl) ?_
          refine lv_iconst (v := 1) hx hb dX0_addWrap_74 (by decide) ?_
          refine lv_isub hx hb dX0_addWrap_75 ?_
          refine lv_topi (fun z37 ez37 => ?_)
          have hz37 : z37.toInt = y17.toInt - 1 := i_sub ez37 rfl (by decide) (by (first | exact om_d4dc5fc28acf klp19_0.2 f36 | omega))
          have il38 : b < 2 := by (first | exact om_f940a4667dd6 hb2 | omega)
          refine va_iald (D := D) (i := z37) hx hb hK hP (68 + b) (61 + b) (xgwrapOrder il38) (xtwrapOrder il38) (i_in (a := z37.toInt) rfl (by (first | exact om_cb4190bf021a klp19_0.2 f36 hz37 | omega))) dX0_addWrap_76 ?_
          have kc39 := i_clamp (x := z37) rfl (by (first | exact om_9271d0948665 f36 hz37 | omega))
          refine g_top (v := V18 47 (12 * b + (Int32.toNatClampNeg z37))) (if_pos (by omega)) ?_
          have r40 : 0 ≤ ((V18 47 (12 * b + (Int32.toNatClampNeg z37)))).toInt ∧ ((V18 47 (12 * b + (Int32.toNatClampNeg z37)))).toInt ≤ 11 := hMV18 47 (12 * b + (Int32.toNatClampNeg z37))
          refine va_aldq (D := D) (i := (V18 47 (12 * b + (Int32.toNatClampNeg z37)))) hx hb hK hP (66 + b) (59 + b) (xgwrapsA il4) (xtwrapsA il4) (i_in (a := ((V18 47 (12 * b + (Int32.toNatClampNeg z37)))).toInt) rfl (by (first | exact om_da83cce65d18 r40.1 r40.2 | omega))) dX0_addWrap_77 ?_
          have kc41 := i_clamp (x := (V18 47 (12 * b + (Int32.toNatClampNeg z37)))) rfl (by (first | exact om_eafa9039069c r40.1 | omega))
          refine g_topv (v := .ref (ad (312 + (12 * b + (Int32.toNatClampNeg (V18 47 (12 * b + (Int32.toNatClampNeg z37)))))))) (congrArg va_rf (if_pos (by omega))) ?_
          have il42 : (12 * b + (Int32.toNatClampNeg (V18 47 (12 * b + (Int32.toNatClampNeg z37))))) < 24 := by (first | exact om_a98cd8d2da4e hb2 r40.2 kc41 | omega)
          refine va_getN (D := D) (ci := 10) (v := .int (V18 64 (12 * b + (Int32.toNatClampNeg (V18 47 (12 * b + (Int32.toNatClampNeg z37))))))) (fs := (xfWrap V18 (12 * b + (Int32.toNatClampNeg (V18 47 (12 * b + (Int32.toNatClampNeg z37))))))) (C := RX10) (T := TX10) (N := 5) hx hb hg inX10 hown hK hP (312 + (12 * b + (Int32.toNatClampNeg (V18 47 (12 * b + (Int32.toNatClampNeg z37)))))) (xgWrap il42) rfl 2 (by decide) (hnw.use 577 n577 rfl) (fun _ h9 => h9) rfl dX0_addWrap_78 ?_
          refine g_top (v := (V11 64 (12 * b + (Int32.toNatClampNeg (V18 47 (12 * b + (Int32.toNatClampNeg z37))))))) ((ajV18 64 (12 * b + (Int32.toNatClampNeg (V18 47 (12 * b + (Int32.toNatClampNeg z37))))) rfl).trans ((up2_o hV15 (by decide)).trans (up2_o hV13 (by decide)))) ?_
          refine lv_iload_n hx hb dX0_addWrap_81 rfl (lv_at hl 5 rfl) ?_
          refine lv_icmp_le (tgt := 107) hx hb dX0_addWrap_82 (by decide) (fun c43 => ?_) (fun c43 => ?_)
          · skip
            have f44 : ((V11 64 (12 * b + (Int32.toNatClampNeg (V18 47 (12 * b + (Int32.toNatClampNeg z37))))))).toInt ≤ p2.toInt := b_le rfl rfl c43
            refine lv_aload_n hx hb dX0_addWrap_107 rfl (lv_at hl 2 rfl) ?_
            refine va_get (D := D) (ci := 0) (v := .ref (ad (68 + b))) (fs := (xfBook ad V18 b)) (C := RX0) (T := TX0) (N := 13) hx hb hg inX0 hown hK hP (38 + b) (xgBook hb2) rfl 9 (by decide) (hg _ w621) (fun _ h9 => h9) rfl dX0_addWrap_108 ?_
            refine lv_iload hx hb dX0_addWrap_111 (lv_at hl 0 rfl) ?_
            refine lv_aload_n hx hb dX0_addWrap_113 rfl (lv_at hl 2 rfl) ?_
            refine va_get (D := D) (ci := 0) (v := .int (V18 41 b)) (fs := (xfBook ad V18 b)) (C := RX0) (T := TX0) (N := 13) hx hb hg inX0 hown hK hP (38 + b) (xgBook hb2) rfl 11 (by decide) (hg _ w625) (fun _ h9 => h9) rfl dX0_addWrap_114 ?_
            refine g_top (v := (V 41 b)) ((ajV18 41 b rfl).trans ((up2_o hV15 (by decide)).trans ((up2_o hV13 (by decide)).trans ((up2_o hV11 (by decide)).trans ((up2_o hV9 (by decide)).trans (up2_o hV7 (by decide))))))) ?_
            refine va_iast (D := D) (i := y17) (x := (V 41 b)) hx hb hK hP hD hS (68 + b) (61 + b) (xgwrapOrder il38) (xtwrapOrder il38) (i_in (a := y17.toInt) rfl (by (first | exact om_e96f9555304e klp19_0.2 f36 | omega))) dX0_addWrap_117 (fun H locs hP hD hS => ?_)
            have kc45 := i_clamp (x := y17) rfl (by (first | exact om_610a4af05d44 f36 | omega))
            have kl46 : (Int32.toNatClampNeg y17) < 12 := by (first | exact om_004b84c8d7e3 klp19_0.2 kc45 | omega)
            obtain ⟨V47, hV47⟩ : ∃ z, z = up2 V18 47 (12 * b + (Int32.toNatClampNeg y17)) (V 41 b) := ⟨_, rfl⟩
            have ew48 : (xw ad kk V18 L Z).set (68 + b) ((ad (68 + b)), .inl ((kk (68 + b)), 12, .inl (upd (fun q => if q < 12 then V18 47 (12 * b + q) else 0) (Int32.toNatClampNeg y17) (V 41 b)))) = xw ad kk V47 L Z := by rw [hV47]; exact xpwrapOrder il38 kl46
            have hP : va_P D vwCl (xw ad kk V47 L Z) H := by rw [← ew48]; exact hP
            have hD : va_D A (xw ad kk V47 L Z) := by rw [← ew48]; exact hD
            have hMV47 : rgd bX V47 := hMV18.put hV47 (show 0 ≤ ((V 41 b)).toInt ∧ ((V 41 b)).toInt ≤ 11 from by (first | exact om_08e1aa59793b r1.1 f3 | omega))
            have agV47 : agr [] [41, 47, 62, 63, 64, 65, 66] V V47 := agV18.up hV47 rfl
            refine lv_aload_n hx hb dX0_addWrap_118 rfl (lv_at hl 2 rfl) ?_
            refine lv_dup hx hb dX0_addWrap_119 rfl ?_
            refine va_get (D := D) (ci := 0) (v := .int (V47 41 b)) (fs := (xfBook ad V47 b)) (C := RX0) (T := TX0) (N := 13) hx hb hg inX0 hown hK hP (38 + b) (xgBook hb2) rfl 11 (by decide) (hg _ w625) (fun _ h9 => h9) rfl dX0_addWrap_120 ?_
            refine g_top (v := (V 41 b)) ((up2_o hV47 (by decide)).trans ((ajV18 41 b rfl).trans ((up2_o hV15 (by decide)).trans ((up2_o hV13 (by decide)).trans ((up2_o hV11 (by decide)).trans ((up2_o hV9 (by decide)).trans (up2_o hV7 (by decide)))))))) ?_
            refine lv_iconst (v := 1) hx hb dX0_addWrap_123 (by decide) ?_
            refine lv_iadd hx hb dX0_addWrap_124 ?_
            refine lv_topi (fun z49 ez49 => ?_)
            have hz49 : z49.toInt = ((V 41 b)).toInt + 1 := i_add ez49 rfl (by decide) (by (first | exact om_4464765f026c r1.1 f3 | omega))
            refine va_put (D := D) (ci := 0) (v := .int z49) (ty := tyX0 11) (fs := (xfBook ad V47 b)) (C := RX0) (T := TX0) (N := 13) hx hb hg inX0 tyX0 tyX0_ok nmX0 hown hK hP hD hS (38 + b) (xgBook hb2) rfl 11 (by decide) (hg _ w625) (fun _ h9 => h9) rfl (tyX0_ok 11 (by decide)) rfl rfl (Nat.le_of_ble_eq_true rfl) dX0_addWrap_125 (fun H locs hP hD hS => ?_)
            obtain ⟨V50, hV50⟩ : ∃ z, z = up2 V47 41 b z49 := ⟨_, rfl⟩
            have ew51 : (xw ad kk V47 L Z).set (38 + b) ((ad (38 + b)), .inr (0, (xfBook ad V47 b).set 11 (.int z49))) = xw ad kk V50 L Z := by rw [hV50]; exact xpBook_wrapCount hb2
            have hP : va_P D vwCl (xw ad kk V50 L Z) H := by rw [← ew51]; exact hP
            have hD : va_D A (xw ad kk V50 L Z) := by rw [← ew51]; exact hD
            have hMV50 : rgd bX V50 := hMV47.put hV50 (show 0 ≤ z49.toInt ∧ z49.toInt ≤ 12 from by (first | exact om_b1c60bcb684f r1.1 f3 hz49 | omega))
            have agV50 : agr [] [41, 47, 62, 63, 64, 65, 66] V V50 := agV47.up hV50 rfl
            have pq52 : (V50 41 b).toInt = z49.toInt := congrArg Int32.toInt (up2_s hV50)
            have rp53 : Imp ((V 41 b).toInt < 12) (V50 63 = upd (V 63) (12 * b + Int32.toNatClampNeg (V 41 b)) p1) := Imp.mk (fun _ => by rw [(by rw [(up2_fo hV50 (by decide) : V50 63 = V47 63), (up2_fo hV47 (by decide) : V47 63 = V18 63), (funext (fun q => ajV18 63 q rfl) : V18 63 = V15 63), (up2_fo hV15 (by decide) : V15 63 = V13 63), (up2_fo hV13 (by decide) : V13 63 = V11 63), (up2_fo hV11 (by decide) : V11 63 = V9 63)] : V50 63 = V9 63), up2_fn hV9, (by rw [(up2_fo hV7 (by decide) : V7 63 = V 63)] : V7 63 = V 63)])
            have rp54 : Imp ((V 41 b).toInt < 12) (V50 65 = upd (V 65) (12 * b + Int32.toNatClampNeg (V 41 b)) p3) := Imp.mk (fun _ => by rw [(by rw [(up2_fo hV50 (by decide) : V50 65 = V47 65), (up2_fo hV47 (by decide) : V47 65 = V18 65), (funext (fun q => ajV18 65 q rfl) : V18 65 = V15 65), (up2_fo hV15 (by decide) : V15 65 = V13 65)] : V50 65 = V13 65), up2_fn hV13, (by rw [(up2_fo hV11 (by decide) : V11 65 = V9 65), (up2_fo hV9 (by decide) : V9 65 = V7 65), (up2_fo hV7 (by decide) : V7 65 = V 65)] : V11 65 = V 65)])
            have rp55 : Imp ((V 41 b).toInt < 12) (V50 62 = upd (V 62) (12 * b + Int32.toNatClampNeg (V 41 b)) p0) := Imp.mk (fun _ => by rw [(by rw [(up2_fo hV50 (by decide) : V50 62 = V47 62), (up2_fo hV47 (by decide) : V47 62 = V18 62), (funext (fun q => ajV18 62 q rfl) : V18 62 = V15 62), (up2_fo hV15 (by decide) : V15 62 = V13 62), (up2_fo hV13 (by decide) : V13 62 = V11 62), (up2_fo hV11 (by decide) : V11 62 = V9 62), (up2_fo hV9 (by decide) : V9 62 = V7 62)] : V50 62 = V7 62), up2_fn hV7, (rfl : V 62 = V 62)])
            have rp56 : Imp ((V 41 b).toInt < 12) (V50 64 = upd (V 64) (12 * b + Int32.toNatClampNeg (V 41 b)) p2) := Imp.mk (fun _ => by rw [(by rw [(up2_fo hV50 (by decide) : V50 64 = V47 64), (up2_fo hV47 (by decide) : V47 64 = V18 64), (funext (fun q => ajV18 64 q rfl) : V18 64 = V15 64), (up2_fo hV15 (by decide) : V15 64 = V13 64), (up2_fo hV13 (by decide) : V13 64 = V11 64)] : V50 64 = V11 64), up2_fn hV11, (by rw [(up2_fo hV9 (by decide) : V9 64 = V7 64), (up2_fo hV7 (by decide) : V7 64 = V 64)] : V9 64 = V 64)])
            have rp57 : Imp ((V 41 b).toInt < 12) (V50 66 = upd (V 66) (12 * b + Int32.toNatClampNeg (V 41 b)) p4) := Imp.mk (fun _ => by rw [(by rw [(up2_fo hV50 (by decide) : V50 66 = V47 66), (up2_fo hV47 (by decide) : V47 66 = V18 66), (funext (fun q => ajV18 66 q rfl) : V18 66 = V15 66)] : V50 66 = V15 66), up2_fn hV15, (by rw [(up2_fo hV13 (by decide) : V13 66 = V11 66), (up2_fo hV11 (by decide) : V11 66 = V9 66), (up2_fo hV9 (by decide) : V9 66 = V7 66), (up2_fo hV7 (by decide) : V7 66 = V 66)] : V13 66 = V 66)])
            exact W.vret hx hb hr (fun t ht hW => ⟨⟨(V50, L), rfl, ⟨hMV50, agV50, rfl, (Imp.mk (fun hp => have hp : (V 41 b).toInt < 12 := hp; (show (V50 41 b).toInt = (V 41 b).toInt + 1 from by (first | exact om_689eeacb6d53 hz49 pq52 | omega)))), rp53, rp54, rp55, rp56, rp57⟩, by rw [ht]; exact hP, va_K.moved hW.alike hK, hD⟩, hS.F ht⟩) hS.2.2 dX0_addWrap_128
          · skip
            have f58 : p2.toInt < ((V11 64 (12 * b + (Int32.toNatClampNeg (V18 47 (12 * b + (Int32.toNatClampNeg z37))))))).toInt := b_nle rfl rfl c43
            refine lv_aload_n hx hb dX0_addWrap_85 rfl (lv_at hl 2 rfl) ?_
            refine va_get (D := D) (ci := 0) (v := .ref (ad (68 + b))) (fs := (xfBook ad V18 b)) (C := RX0) (T := TX0) (N := 13) hx hb hg inX0 hown hK hP (38 + b) (xgBook hb2) rfl 9 (by decide) (hg _ w621) (fun _ h9 => h9) rfl dX0_addWrap_86 ?_
            refine lv_iload hx hb dX0_addWrap_89 (lv_at hl 0 rfl) ?_
            refine lv_aload_n hx hb dX0_addWrap_91 rfl (lv_at hl 2 rfl) ?_
            refine va_get (D := D) (ci := 0) (v := .ref (ad (68 + b))) (fs := (xfBook ad V18 b)) (C := RX0) (T := TX0) (N := 13) hx hb hg inX0 hown hK hP (38 + b) (xgBook hb2) rfl 9 (by decide) (hg _ w621) (fun _ h9 => h9) rfl dX0_addWrap_92 ?_
            refine lv_iload hx hb dX0_addWrap_95 (lv_at hl 0 rfl) ?_
            refine lv_iconst (v := 1) hx hb dX0_addWrap_97 (by decide) ?_
            refine lv_isub hx hb dX0_addWrap_98 ?_
            refine lv_topi (fun z59 ez59 => ?_)
            have hz59 : z59.toInt = y17.toInt - 1 := i_sub ez59 rfl (by decide) (by (first | exact om_d4dc5fc28acf klp19_0.2 f36 | omega))
            refine va_iald (D := D) (i := z59) hx hb hK hP (68 + b) (61 + b) (xgwrapOrder il38) (xtwrapOrder il38) (i_in (a := z59.toInt) rfl (by (first | exact om_cb4190bf021a klp19_0.2 f36 hz59 | omega))) dX0_addWrap_99 ?_
            have kc60 := i_clamp (x := z59) rfl (by (first | exact om_9271d0948665 f36 hz59 | omega))
            refine g_top (v := V18 47 (12 * b + (Int32.toNatClampNeg z59))) (if_pos (by omega)) ?_
            have r61 : 0 ≤ ((V18 47 (12 * b + (Int32.toNatClampNeg z59)))).toInt ∧ ((V18 47 (12 * b + (Int32.toNatClampNeg z59)))).toInt ≤ 11 := hMV18 47 (12 * b + (Int32.toNatClampNeg z59))
            refine va_iast (D := D) (i := y17) (x := (V18 47 (12 * b + (Int32.toNatClampNeg z59)))) hx hb hK hP hD hS (68 + b) (61 + b) (xgwrapOrder il38) (xtwrapOrder il38) (i_in (a := y17.toInt) rfl (by (first | exact om_e96f9555304e klp19_0.2 f36 | omega))) dX0_addWrap_100 (fun H locs hP hD hS => ?_)
            have kc62 := i_clamp (x := y17) rfl (by (first | exact om_610a4af05d44 f36 | omega))
            have kl63 : (Int32.toNatClampNeg y17) < 12 := by (first | exact om_004b84c8d7e3 klp19_0.2 kc62 | omega)
            obtain ⟨V64, hV64⟩ : ∃ z, z = up2 V18 47 (12 * b + (Int32.toNatClampNeg y17)) (V18 47 (12 * b + (Int32.toNatClampNeg z59))) := ⟨_, rfl⟩
            have ew65 : (xw ad kk V18 L Z).set (68 + b) ((ad (68 + b)), .inl ((kk (68 + b)), 12, .inl (upd (fun q => if q < 12 then V18 47 (12 * b + q) else 0) (Int32.toNatClampNeg y17) (V18 47 (12 * b + (Int32.toNatClampNeg z59)))))) = xw ad kk V64 L Z := by rw [hV64]; exact xpwrapOrder il38 kl63
            have hP : va_P D vwCl (xw ad kk V64 L Z) H := by rw [← ew65]; exact hP
            have hD : va_D A (xw ad kk V64 L Z) := by rw [← ew65]; exact hD
            have hMV64 : rgd bX V64 := hMV18.put hV64 (show 0 ≤ ((V18 47 (12 * b + (Int32.toNatClampNeg z59)))).toInt ∧ ((V18 47 (12 * b + (Int32.toNatClampNeg z59)))).toInt ≤ 11 from by (first | exact om_ac1a58a2b44e r61.1 r61.2 | omega))
            have agV64 : agr [] [41, 47, 62, 63, 64, 65, 66] V V64 := agV18.up hV64 rfl
            obtain ⟨z66, ez66⟩ : ∃ y : Int32, y = y17 + (-1) := ⟨_, rfl⟩
            have hz66 : z66.toInt = y17.toInt + (-1) := i_add ez66 rfl (by decide) (by (first | exact om_7b3ad48442a9 klp19_0.2 f36 | omega))
            refine lv_iinc (v := z66) (lv' := [(7, .int z66), (6, .ref (ad (312 + (12 * b + (Int32.toNatClampNeg (V 41 b)))))), (0, .ref (ad (38 + b))), (1, .int p0), (2, .int p1), (3, .int p2), (4, .int p3), (5, .int p4)]) hx hb dX0_addWrap_101 hl (k := 0) rfl (by rw [ez66]; rfl) (by decide) rfl (fun ls hl => ?_)
            refine lv_goto (tgt := 59) hx hb dX0_addWrap_104 (by decide) ?_
            exact ihlp19 z66 V64 H locs ls (by (first | exact om_69b3a1170d24 klp19_0.2 f36 hz66 | omega)) (by (first | exact om_46f113951c8c hn hz66 | omega)) (agr.up (agr.tr agr.rf ajV18 (by decide) (by decide)) hV64 rfl) hMV64 hP hD hS (lv_sub hl [0, 1, 2, 3, 4, 5, 6, 7] rfl)
    exact lp19 ((((V 41 b)).toInt + 1 : Int).toNat) (V 41 b) V15 H locs ls (by (first | exact om_08e1aa59793b r1.1 f3 | omega)) (by (first | exact om_9011110baf36 | omega)) agr.rf hMV15 hP hD hS (lv_sub hl [0, 1, 2, 3, 4, 5, 6, 7] rfl)
  · skip
    have f67 : 12 ≤ ((V 41 b)).toInt := b_nlt rfl (by decide) c2
    exact W.vret hx hb hr (fun t ht hW => ⟨⟨(V, L), rfl, ⟨hMV, agV, rfl, (Imp.mk (fun hp => have hp : (V 41 b).toInt < 12 := hp; (show (V 41 b).toInt = (V 41 b).toInt + 1 from by omega))), (Imp.mk (fun hp => by exfalso; omega)), (Imp.mk (fun hp => by exfalso; omega)), (Imp.mk (fun hp => by exfalso; omega)), (Imp.mk (fun hp => by exfalso; omega)), (Imp.mk (fun hp => by exfalso; omega))⟩, by rw [ht]; exact hP, va_K.moved hW.alike hK, hD⟩, hS.F ht⟩) hS.2.2 dX0_addWrap_9
abbrev r_x_readExtras3 : Room := { frames := 3, cells := 0, slots := 0, locals := 64 }
abbrev q_x_readExtras3 (D : va_G) (ks : KS) (ad : Nat → Nat) (kk : Nat → ClassId) (V : Vf) (L : Lf) (Z : XZ) (b : Nat) (gT : Tk) (gs : St) (gi : Nat) (ym : Nat) (yc : Int) (yw : Int64) (A : Nat → Prop) : Array Value → State → Outcome → State → Prop := va_Qi (fun (r : Int32) (u : Vf × Lf) => rgd bX u.1 ∧ agr [(1, 3), (1, 6), (1, 8), (6, 8), (6, 9), (6, 10)] [43, 44, 52, 53, 54, 55] V u.1 ∧ agL [6, 44] L u.2 ∧ (0 ≤ r.toInt ∧ r.toInt ≤ 1) ∧ (RdH gT gs ym yc yw r.toInt (u.1 1 3).toInt (fun s9 ca ra ws wv => RelC u.1 u.2 b gT s9 ∧ keepS gs 0 s9 ∧ keepL gs s9 ∧ CNc u.1 b s9 ∧ (u.1 52 gi).toInt + 1 = ((ca : Nat) : Int) ∧ (u.1 53 gi).toInt = ((ra : Nat) : Int) ∧ (u.1 54 gi).toInt + 1 = ((ws : Nat) : Int) ∧ (ws ≠ 0 → (u.1 55 gi).toInt = ((wv : Nat) : Int)))) ∧ (ROWL b L u.2)) (fun u t => gq D A (xw ad kk u.1 u.2 Z) (xty kk Z) t) A
set_option maxHeartbeats 4000000 in
set_option maxRecDepth 100000 in
theorem x_readExtras3 (l : Launch) (D : va_G) (ks : KS) (sz : Nat) (ad : Nat → Nat) (kk : Nat → ClassId) (V : Vf) (L : Lf) (Z : XZ) (b : Nat) (gT : Tk) (gs : St) (gi : Nat) (ym : Nat) (yc : Int) (yw : Int64) (hMV : rgd bX V) (hb2 : b < 2) (rbk : (V 1 1).toInt = (b : Int)) (rel : RelC V L b gT gs) (hgi : gi < 48) (hgn : gi = 24 * b + (gs.2.1 2).length) (c52 : (V 52 gi).toInt = -1) (c53 : (V 53 gi).toInt = 0) (c54 : (V 54 gi).toInt = -1) (cnx : CNc V b gs)  : Met l yX1_readExtras (Cond.code yX1_readExtras cX1_readExtras 2 (some .boolean) :: GW) r_x_readExtras3 (va_Pc [.ref (ad 1), .ref (ad (72 + gi))] (gp D ks (xw ad kk V L Z) (xty kk Z) sz)) (q_x_readExtras3 D ks ad kk V L Z  b gT gs gi ym yc yw (va_A (xw ad kk V L Z) sz)) 0 0 (va_A (xw ad kk V L Z) sz) := by
  refine g_met (q_x_readExtras3 D ks ad kk V L Z  b gT gs gi ym yc yw) (by decide) (Nat.le_of_ble_eq_true rfl) ?_
  intro p e s m below meth c A ls H locs hx hb hr hml hown hg hlocks hin hnw hgk hP hK hD hS hA hl
  have hown : s.vm.findClass RX1 = some m.cls := hown
  have hl : lv_has ls 2 [(0, .ref (ad 1)), (1, .ref (ad (72 + gi)))] := hl
  have hP : va_P D vwCl (xw ad kk V L Z) H := hP
  have hD : va_D A (xw ad kk V L Z) := hD
  have hK : va_K D vwCl (xty kk Z) s := hK
  have agV : agr [(1, 3), (1, 6), (1, 8), (6, 8), (6, 9), (6, 10)] [43, 44, 52, 53, 54, 55] V V := agr.rf
  have alL : agL [6, 44] L L := agL.rf
  have r1 : (-1) ≤ ((V 1 1)).toInt ∧ ((V 1 1)).toInt ≤ 1 := hMV 1 1
  have r2 : (-1) ≤ ((V 54 gi)).toInt ∧ ((V 54 gi)).toInt ≤ 11 := hMV 54 gi
  refine lv_aload_n hx hb dX1_readExtras_0 rfl (lv_at hl 0 rfl) ?_
  refine va_get (D := D) (ci := 1) (v := .ref (ad 6)) (fs := (xfReader ad V L Z)) (C := RX1) (T := TX1) (N := 9) hx hb hg inX1 hown hK hP 1 xgReader rfl 0 (by decide) (hg _ w304) (fun _ h9 => h9) rfl dX1_readExtras_1 ?_
  refine va_getN (D := D) (ci := 9) (v := .int (V 6 9)) (fs := (xfTape ad V L Z)) (C := RX9) (T := TX9) (N := 12) hx hb hg inX9 hown hK hP 6 xgTape rfl 9 (by decide) (hnw.use 262 n262 rfl) (fun _ h9 => h9) rfl dX1_readExtras_4 ?_
  refine lv_sipush (v := 133) hx hb dX1_readExtras_7 (by decide) ?_
  refine lv_icmp_ne (tgt := 30) hx hb dX1_readExtras_10 (by decide) (fun c3 => ?_) (fun c3 => ?_)
  · skip
    have f4 : ((V 6 9)).toInt ≠ 133 := b_neq rfl (by decide) c3
    refine lv_aload_n hx hb dX1_readExtras_30 rfl (lv_at hl 0 rfl) ?_
    refine va_get (D := D) (ci := 1) (v := .ref (ad 6)) (fs := (xfReader ad V L Z)) (C := RX1) (T := TX1) (N := 9) hx hb hg inX1 hown hK hP 1 xgReader rfl 0 (by decide) (hg _ w304) (fun _ h9 => h9) rfl dX1_readExtras_31 ?_
    refine va_getN (D := D) (ci := 9) (v := .int (V 6 9)) (fs := (xfTape ad V L Z)) (C := RX9) (T := TX9) (N := 12) hx hb hg inX9 hown hK hP 6 xgTape rfl 9 (by decide) (hnw.use 262 n262 rfl) (fun _ h9 => h9) rfl dX1_readExtras_34 ?_
    refine lv_sipush (v := 134) hx hb dX1_readExtras_37 (by decide) ?_
    refine lv_icmp_ne (tgt := 70) hx hb dX1_readExtras_40 (by decide) (fun c5 => ?_) (fun c5 => ?_)
    · skip
      have f6 : ((V 6 9)).toInt ≠ 134 := b_neq rfl (by decide) c5
      refine lv_aload_n hx hb dX1_readExtras_70 rfl (lv_at hl 0 rfl) ?_
      refine va_get (D := D) (ci := 1) (v := .ref (ad 6)) (fs := (xfReader ad V L Z)) (C := RX1) (T := TX1) (N := 9) hx hb hg inX1 hown hK hP 1 xgReader rfl 0 (by decide) (hg _ w304) (fun _ h9 => h9) rfl dX1_readExtras_71 ?_
      refine va_getN (D := D) (ci := 9) (v := .int (V 6 9)) (fs := (xfTape ad V L Z)) (C := RX9) (T := TX9) (N := 12) hx hb hg inX9 hown hK hP 6 xgTape rfl 9 (by decide) (hnw.use 262 n262 rfl) (fun _ h9 => h9) rfl dX1_readExtras_74 ?_
      refine lv_sipush (v := 135) hx hb dX1_readExtras_77 (by decide) ?_
      refine lv_icmp_ne (tgt := 127) hx hb dX1_readExtras_80 (by decide) (fun c7 => ?_) (fun c7 => ?_)
      · skip
        have f8 : ((V 6 9)).toInt ≠ 135 := b_neq rfl (by decide) c7
        refine lv_iconst (v := 1) hx hb dX1_readExtras_127 (by decide) ?_
        have hr9 : ∀ k, Rc gT (Crun gs (IcalledH ym yc yw :: k)) (Crun gs (IcalledH ym yc yw :: k)) := fun k => Rc.rf
        have kd10 : gT.1 (gs.1 0) = ((V 6 9)).toInt := RelC.kd rel
        have hr11 : ∀ k, Rc gT (Crun gs (IcalledH ym yc yw :: k)) (Crun gs (Irank ym yc yw [0] :: k)) := fun k => Rc.go1 (hr9 k) (calledH_n ym yc yw (fun h9 => f4 (kd10.symm.trans h9)))
        have hr12 : ∀ k, Rc gT (Crun gs (IcalledH ym yc yw :: k)) (Crun gs (IwhenI ym yc yw [0, 0] :: k)) := fun k => Rc.go1 (hr11 k) (rank_n ym yc yw [0] (fun h9 => f6 (kd10.symm.trans h9)))
        have hr13 : ∀ k, Rc gT (Crun gs (IcalledH ym yc yw :: k)) (Crun gs (Itake 123 :: IaddNm ym yc yw [0, 0, 0, 0] :: Imember :: k)) := fun k => Rc.go1 (hr12 k) (when_n ym yc yw [0, 0] (fun h9 => f8 (kd10.symm.trans h9)))
        have rw14 : ROWL b L L := (fun k hk => rfl)
        exact W.zret (v := 1) hx hb hr rfl (fun t ht hW => ⟨⟨1, (V, L), rfl, ⟨hMV, agV, alL, (by decide), (Or.inl ⟨rfl, gs, 0, 0, 0, 0, hr13, rel, keepS.le (keepS.rf : keepS gs 0 gs) (by decide), (show keepL gs gs from fun _ _ => rfl), cnx, (show (V 52 gi).toInt + 1 = ((0 : Nat) : Int) from by (first | exact om_e2c2be8a8631 c52 | omega)), (show (V 53 gi).toInt = ((0 : Nat) : Int) from by (first | exact om_23d6d5a78aee c53 | omega)), (show (V 54 gi).toInt + 1 = ((0 : Nat) : Int) from by (first | exact om_e2c2be8a8631 c54 | omega)), (fun h9 => show (V 55 gi).toInt = ((0 : Nat) : Int) from by omega)⟩), rw14⟩, by rw [ht]; exact hP, va_K.moved hW.alike hK, hD⟩, hS.F ht⟩) hS.2.2 dX1_readExtras_128
      · skip
        have f15 : ((V 6 9)).toInt = 135 := b_eq rfl (by decide) c7
        refine lv_aload_n hx hb dX1_readExtras_83 rfl (lv_at hl 0 rfl) ?_
        refine va_get (D := D) (ci := 1) (v := .ref (ad 6)) (fs := (xfReader ad V L Z)) (C := RX1) (T := TX1) (N := 9) hx hb hg inX1 hown hK hP 1 xgReader rfl 0 (by decide) (hg _ w304) (fun _ h9 => h9) rfl dX1_readExtras_84 ?_
        have hr16 : ∀ k, Rc gT (Crun gs (IcalledH ym yc yw :: k)) (Crun gs (IcalledH ym yc yw :: k)) := fun k => Rc.rf
        have kd17 : gT.1 (gs.1 0) = ((V 6 9)).toInt := RelC.kd rel
        have hr18 : ∀ k, Rc gT (Crun gs (IcalledH ym yc yw :: k)) (Crun gs (Irank ym yc yw [0] :: k)) := fun k => Rc.go1 (hr16 k) (calledH_n ym yc yw (fun h9 => absurd (h9.symm.trans (kd17.trans f15)) (by decide)))
        have hr19 : ∀ k, Rc gT (Crun gs (IcalledH ym yc yw :: k)) (Crun gs (IwhenI ym yc yw [0, 0] :: k)) := fun k => Rc.go1 (hr18 k) (rank_n ym yc yw [0] (fun h9 => absurd (h9.symm.trans (kd17.trans f15)) (by decide)))
        have hr20 : ∀ k, Rc gT (Crun gs (IcalledH ym yc yw :: k)) (Crun (nx gs 1) (IwhenS ym yc yw [0, 0] :: k)) := fun k => Rc.go1 (hr19 k) (when_y ym yc yw [0, 0] (kd17.trans f15))
        have l821 := RelC.l8 rel
        have r22 : 0 ≤ ((V 6 8)).toInt ∧ ((V 6 8)).toInt ≤ 4000 := hMV 6 8
        have r23 : 0 ≤ ((V 6 7)).toInt ∧ ((V 6 7)).toInt ≤ 4000 := hMV 6 7
        have lk24 := RelC.lk rel (show (V 6 9).toInt ≠ 0 from by (first | exact om_01756cdc8e44 f15 | omega))
        refine gA_void (gA_runV (As := []) (rest := []) (ci := 9) (q0 := 6) hx hb hml hown hg hP hD hK hS hA hnw hgk (x_next2 l D ks H.size ad kk V L Z  hMV (show (V 6 8).toInt ≤ (V 6 7).toInt from by (first | exact om_f4906d00fa52 l821 | omega))) w871 w852 w853 w157 w854 rfl xgTape hdV_yX9_next ⟨Nat.le_of_ble_eq_true rfl, Nat.le_of_ble_eq_true rfl⟩ rfl hl.1 rfl (Nat.le_of_ble_eq_true rfl) dX1_readExtras_87 ⟨Nat.le_of_ble_eq_true rfl, Nat.le_of_ble_eq_true rfl⟩) hP hD hK hS hA (fun u26 H locs w27 hP hD hK hS => ?_)
        obtain ⟨V30, L31⟩ := u26
        obtain ⟨hMV30, ajV30, axL31, t28, t29⟩ := w27
        have alL31 : agL [6, 44] L L31 := agL.tr alL axL31 (by decide)
        have hP : va_P D vwCl (xw ad kk V30 L31 Z) H := hP
        have hD : va_D A (xw ad kk V30 L31 Z) := hD
        have hMV30 : rgd bX V30 := hMV30
        have ajV30 : agr [(6, 8), (6, 9), (6, 10)] [] V V30 := ajV30
        have agV30 : agr [(1, 3), (1, 6), (1, 8), (6, 8), (6, 9), (6, 10)] [43, 44, 52, 53, 54, 55] V V30 := agV.tr ajV30 (by decide) (by decide)
        have t28 : (V30 6 8).toInt ≤ (V30 6 7).toInt := t28
        have t29 : CUR V30 L31 (Int32.toNatClampNeg (V 6 8)) := t29
        have r32 : 0 ≤ ((V30 6 8)).toInt ∧ ((V30 6 8)).toInt ≤ 4000 := hMV30 6 8
        have pq33 : (V30 6 7).toInt = ((V 6 7)).toInt := congrArg Int32.toInt (ajV30 6 7 rfl)
        have rl34 : RelC V30 L31 b gT (nx gs 1) := RelC.nx1 rel ajV30 (by decide) axL31 (by decide) (by rw [← lk24]; exact t29) (ajV30 1 3 rfl)
        refine lv_aload_n hx hb dX1_readExtras_90 rfl (lv_at hl 0 rfl) ?_
        have pq35 : (V30 1 1).toInt = ((V 1 1)).toInt := congrArg Int32.toInt (ajV30 1 1 rfl)
        refine gA_int (gA_runV (As := []) (rest := []) (ci := 1) (q0 := 1) hx hb hml hown hg hP hD hK hS hA hnw hgk (x_takeSetting3 l D ks H.size ad kk V30 L31 Z (b) (gT) ((nx gs 1)) hMV30 (show b < 2 from by (first | exact om_f940a4667dd6 hb2 | omega)) (show (V30 1 1).toInt = (b : Int) from by (first | exact om_adf531c77a0d rbk pq35 | omega)) rl34) w931 w933 w17 w162 w934 rfl xgReader hdV_yX1_takeSetting ⟨Nat.le_of_ble_eq_true rfl, Nat.le_of_ble_eq_true rfl⟩ rfl hl.1 rfl (Nat.le_of_ble_eq_true rfl) dX1_readExtras_91 ⟨Nat.le_of_ble_eq_true rfl, Nat.le_of_ble_eq_true rfl⟩) hP hD hK hS hA (fun z36 u37 H locs w38 hP hD hK hS => ?_)
        obtain ⟨V40, L41⟩ := u37
        obtain ⟨hMV40, ajV40, axL41, rgz36, t39⟩ := w38
        have alL41 : agL [6, 44] L L41 := agL.tr alL31 axL41 (by decide)
        have hP : va_P D vwCl (xw ad kk V40 L41 Z) H := hP
        have hD : va_D A (xw ad kk V40 L41 Z) := hD
        have hMV40 : rgd bX V40 := hMV40
        have ajV40 : agr [(1, 3), (1, 6), (6, 8), (6, 9), (6, 10)] [] V30 V40 := ajV40
        have agV40 : agr [(1, 3), (1, 6), (1, 8), (6, 8), (6, 9), (6, 10)] [43, 44, 52, 53, 54, 55] V V40 := agV30.tr ajV40 (by decide) (by decide)
        have rgz36 : 0 ≤ z36.toInt ∧ z36.toInt ≤ 1 := rgz36
        have t39 : KcN (look gT (nx gs 1) ((nx gs 1).2.1 1)) z36.toInt (V40 1 3).toInt (fun f9 => RelC V40 L41 b gT (nx (nx gs 1) 1) ∧ (V40 1 6).toInt = ((f9 : Nat) : Int) ∧ f9 < 12) := t39
        rcases t39 with ⟨q42, fx43, h44, rl45, hf46, hb47⟩ | ⟨q42, h44⟩
        · skip
          have hr48 : ∀ k, Rc gT (Crun gs (IcalledH ym yc yw :: k)) (Crun (nx (nx gs 1) 1) (IwhenN ym yc yw [fx43 + 1, 0, 0] :: k)) := fun k => Rc.go1 (hr20 k) (wS_y h44)
          refine lv_if_ne (tgt := 99) hx hb dX1_readExtras_94 (by decide) (fun c49 => ?_) (fun c49 => ?_)
          · skip
            have f50 : z36.toInt ≠ 0 := b_neq rfl (by decide) c49
            refine lv_aload_n hx hb dX1_readExtras_99 rfl (lv_at hl 1 rfl) ?_
            refine lv_aload_n hx hb dX1_readExtras_100 rfl (lv_at hl 0 rfl) ?_
            refine va_get (D := D) (ci := 1) (v := .int (V40 1 6)) (fs := (xfReader ad V40 L41 Z)) (C := RX1) (T := TX1) (N := 9) hx hb hg inX1 hown hK hP 1 xgReader rfl 6 (by decide) (hg _ w310) (fun _ h9 => h9) rfl dX1_readExtras_101 ?_
            have r51 : (-1) ≤ ((V40 1 6)).toInt ∧ ((V40 1 6)).toInt ≤ 23 := hMV40 1 6
            refine va_putN (D := D) (ci := 3) (v := .int (V40 1 6)) (ty := tyX3 9) (fs := (xfComp ad V40 gi)) (C := RX3) (T := TX3) (N := 13) hx hb hg inX3 tyX3 tyX3_ok nmX3 hown hK hP hD hS (72 + gi) (xgComp hgi) rfl 9 (by decide) (hnw.use 533 n533 rfl) (fun _ h9 => h9) rfl (tyX3_ok 9 (by decide)) rfl rfl (Nat.le_of_ble_eq_true rfl) dX1_readExtras_104 (fun H locs hP hD hS => ?_)
            obtain ⟨V52, hV52⟩ : ∃ z, z = up2 V40 54 gi (V40 1 6) := ⟨_, rfl⟩
            have ew53 : (xw ad kk V40 L41 Z).set (72 + gi) ((ad (72 + gi)), .inr (3, (xfComp ad V40 gi).set 9 (.int (V40 1 6)))) = xw ad kk V52 L41 Z := by rw [hV52]; exact xpComp_whenSetting hgi
            have hP : va_P D vwCl (xw ad kk V52 L41 Z) H := by rw [← ew53]; exact hP
            have hD : va_D A (xw ad kk V52 L41 Z) := by rw [← ew53]; exact hD
            have hMV52 : rgd bX V52 := hMV40.put hV52 (show (-1) ≤ ((V40 1 6)).toInt ∧ ((V40 1 6)).toInt ≤ 11 from by omega)
            have agV52 : agr [(1, 3), (1, 6), (1, 8), (6, 8), (6, 9), (6, 10)] [43, 44, 52, 53, 54, 55] V V52 := agV40.up hV52 rfl
            refine lv_aload_n hx hb dX1_readExtras_107 rfl (lv_at hl 0 rfl) ?_
            refine lv_iconst (v := 0) hx hb dX1_readExtras_108 (by decide) ?_
            refine lv_ldc (v := 999999999) hx hb hown (hg _ w905) dX1_readExtras_109 ?_
            have rl54 : RelC V52 L41 b gT (nx (nx gs 1) 1) := RelC.ag rl45 (show agr [] [54] V40 V52 from (agr.up agr.rf hV52 rfl)) (by decide) (show agL [] L41 L41 from agL.rf) (by decide)
            have r55 : Int32.toInt 0 = 0 := by decide
            have r56 : Int32.toInt 999999999 = 999999999 := by decide
            refine gA_int (gA_runV (As := [.int 0, .int 999999999]) (rest := []) (ci := 1) (q0 := 1) hx hb hml hown hg hP hD hK hS hA hnw hgk (x_takeNumber2 l D ks H.size ad kk V52 L41 Z 0 999999999 (((nx (nx gs 1) 1).1 0)) hMV52 (rl54).1 (rl54).2.1.1 (show 0 ≤ (Int32.toInt 0) from by (first | exact om_1531b20f57e1 r55 | omega)) (show (Int32.toInt 999999999) ≤ 999999999 from by (first | exact om_ffff025b4caa r56 | omega))) w906 w908 w12 w162 w909 rfl xgReader hdV_yX1_takeNumber ⟨Nat.le_of_ble_eq_true rfl, Nat.le_of_ble_eq_true rfl⟩ rfl hl.1 rfl (Nat.le_of_ble_eq_true rfl) dX1_readExtras_111 ⟨Nat.le_of_ble_eq_true rfl, Nat.le_of_ble_eq_true rfl⟩) hP hD hK hS hA (fun z57 u58 H locs w59 hP hD hK hS => ?_)
            obtain ⟨V63, L64⟩ := u58
            obtain ⟨hMV63, ajV63, axL64, rgz57, t60, t61, t62⟩ := w59
            have alL64 : agL [6, 44] L L64 := agL.tr alL41 axL64 (by decide)
            have hP : va_P D vwCl (xw ad kk V63 L64 Z) H := hP
            have hD : va_D A (xw ad kk V63 L64 Z) := hD
            have hMV63 : rgd bX V63 := hMV63
            have ajV63 : agr [(1, 3), (1, 8), (6, 8), (6, 9), (6, 10)] [] V52 V63 := ajV63
            have agV63 : agr [(1, 3), (1, 6), (1, 8), (6, 8), (6, 9), (6, 10)] [43, 44, 52, 53, 54, 55] V V63 := agV52.tr ajV63 (by decide) (by decide)
            have rgz57 : 0 ≤ z57.toInt ∧ z57.toInt ≤ 1 := rgz57
            have t60 : Imp (z57.toInt = 1) ((Int32.toInt 0) ≤ (V63 1 8).toInt ∧ (V63 1 8).toInt ≤ (Int32.toInt 999999999)) := t60
            have t61 : Imp (z57.toInt = 0) (1 ≤ (V63 1 3).toInt) := t61
            have t62 : (z57.toInt = 1 ∧ (V52 12 ((nx (nx gs 1) 1).1 0)).toInt = 2 ∧ (Int32.toInt 0) ≤ (L41 14 ((nx (nx gs 1) 1).1 0)).toInt ∧ (L41 14 ((nx (nx gs 1) 1).1 0)).toInt ≤ (Int32.toInt 999999999) ∧ CUR V63 L64 (((nx (nx gs 1) 1).1 0) + 1) ∧ (V63 1 8).toInt = (L41 14 ((nx (nx gs 1) 1).1 0)).toInt ∧ V63 1 3 = V52 1 3) ∨ (z57.toInt = 0 ∧ (((V52 12 ((nx (nx gs 1) 1).1 0)).toInt ≠ 2 ∧ (V63 1 3).toInt = 1 + 16 * (V52 13 ((nx (nx gs 1) 1).1 0)).toInt) ∨ ((V52 12 ((nx (nx gs 1) 1).1 0)).toInt = 2 ∧ ((L41 14 ((nx (nx gs 1) 1).1 0)).toInt < (Int32.toInt 0) ∨ (Int32.toInt 999999999) < (L41 14 ((nx (nx gs 1) 1).1 0)).toInt) ∧ (V63 1 3).toInt = 4 + 16 * (V52 13 ((nx (nx gs 1) 1).1 0)).toInt))) := t62
            have r65 : 0 ≤ ((V63 1 8)).toInt ∧ ((V63 1 8)).toInt ≤ 999999999 := hMV63 1 8
            have nv73 := congrArg Int64.toInt rl54.tok.2.1
            rcases t62 with ⟨q66, h67, h68, h69, k70, k71, k72⟩ | ⟨q66, ⟨h67, k70⟩ | ⟨h67, h68, k70⟩⟩
            · skip
              have rl74 : RelC V63 L64 b gT (nx (nx (nx gs 1) 1) 1) := RelC.nx1 rl54 ajV63 (by decide) axL64 (by decide) k70 k72
              have hr75 : ∀ k, Rc gT (Crun gs (IcalledH ym yc yw :: k)) (Crun (nx (nx (nx gs 1) 1) 1) (Itake 123 :: IaddNm ym yc yw [(gT.2.1 ((nx (nx gs 1) 1).1 0)).toInt.toNat, fx43 + 1, 0, 0] :: Imember :: k)) := fun k => Rc.go1 (hr48 k) (vw_y (rl54.tok.1.trans h67) (by omega) (by omega))
              have nq76 : (V63 1 8).toInt = (((gT.2.1 ((nx (nx gs 1) 1).1 0)).toInt.toNat : Nat) : Int) := by omega
              refine lv_if_ne (tgt := 119) hx hb dX1_readExtras_114 (by decide) (fun c77 => ?_) (fun c77 => ?_)
              · skip
                have f78 : z57.toInt ≠ 0 := b_neq rfl (by decide) c77
                refine lv_aload_n hx hb dX1_readExtras_119 rfl (lv_at hl 1 rfl) ?_
                refine lv_aload_n hx hb dX1_readExtras_120 rfl (lv_at hl 0 rfl) ?_
                refine va_get (D := D) (ci := 1) (v := .int (V63 1 8)) (fs := (xfReader ad V63 L64 Z)) (C := RX1) (T := TX1) (N := 9) hx hb hg inX1 hown hK hP 1 xgReader rfl 8 (by decide) (hg _ w312) (fun _ h9 => h9) rfl dX1_readExtras_121 ?_
                refine va_putN (D := D) (ci := 3) (v := .int (V63 1 8)) (ty := tyX3 10) (fs := (xfComp ad V63 gi)) (C := RX3) (T := TX3) (N := 13) hx hb hg inX3 tyX3 tyX3_ok nmX3 hown hK hP hD hS (72 + gi) (xgComp hgi) rfl 10 (by decide) (hnw.use 536 n536 rfl) (fun _ h9 => h9) rfl (tyX3_ok 10 (by decide)) rfl rfl (Nat.le_of_ble_eq_true rfl) dX1_readExtras_124 (fun H locs hP hD hS => ?_)
                obtain ⟨V79, hV79⟩ : ∃ z, z = up2 V63 55 gi (V63 1 8) := ⟨_, rfl⟩
                have ew80 : (xw ad kk V63 L64 Z).set (72 + gi) ((ad (72 + gi)), .inr (3, (xfComp ad V63 gi).set 10 (.int (V63 1 8)))) = xw ad kk V79 L64 Z := by rw [hV79]; exact xpComp_whenValue hgi
                have hP : va_P D vwCl (xw ad kk V79 L64 Z) H := by rw [← ew80]; exact hP
                have hD : va_D A (xw ad kk V79 L64 Z) := by rw [← ew80]; exact hD
                have hMV79 : rgd bX V79 := hMV63.put hV79 (i_full _)
                have agV79 : agr [(1, 3), (1, 6), (1, 8), (6, 8), (6, 9), (6, 10)] [43, 44, 52, 53, 54, 55] V V79 := agV63.up hV79 rfl
                refine lv_iconst (v := 1) hx hb dX1_readExtras_127 (by decide) ?_
                have rl81 : RelC V79 L64 b gT (nx (nx (nx gs 1) 1) 1) := RelC.ag rl74 (show agr [] [55] V63 V79 from (agr.up agr.rf hV79 rfl)) (by decide) (show agL [] L64 L64 from agL.rf) (by decide)
                have cn82 : CNc V40 b gs := CNc.ag cnx (show agr [(1, 3), (1, 6), (6, 8), (6, 9), (6, 10)] [] V V40 from (agr.tr (agr.tr agr.rf ajV30 (by decide) (by decide)) ajV40 (by decide) (by decide))) (by decide) keepC.rf
                have cn83 : CNc V52 b gs := CNc.up cn82 hV52 (fun q9 => by unfold rdd at q9; omega)
                have cn84 : CNc V63 b gs := CNc.ag cn83 (show agr [(1, 3), (1, 8), (6, 8), (6, 9), (6, 10)] [] V52 V63 from (agr.tr agr.rf ajV63 (by decide) (by decide))) (by decide) keepC.rf
                have cn85 : CNc V79 b gs := CNc.up cn84 hV79 (fun q9 => by unfold rdd at q9; omega)
                have cn86 : CNc V79 b (nx (nx (nx gs 1) 1) 1) := CNc.mv cn85 (fun _ _ _ => rfl) (keepC.tr (keepC.tr (keepC.tr (keepC.rf : keepC gs gs) (keepS.c (keepS.n1 1))) (keepS.c (keepS.n1 1))) (keepS.c (keepS.n1 1)))
                have pq87 : (V79 52 gi).toInt = ((V 52 gi)).toInt := congrArg Int32.toInt ((up2_o hV79 (by decide)).trans ((ajV63 52 gi rfl).trans ((up2_o hV52 (by decide)).trans ((ajV40 52 gi rfl).trans (ajV30 52 gi rfl)))))
                have pq88 : (V79 53 gi).toInt = ((V 53 gi)).toInt := congrArg Int32.toInt ((up2_o hV79 (by decide)).trans ((ajV63 53 gi rfl).trans ((up2_o hV52 (by decide)).trans ((ajV40 53 gi rfl).trans (ajV30 53 gi rfl)))))
                have pq89 : (V79 54 gi).toInt = ((V40 1 6)).toInt := congrArg Int32.toInt ((up2_o hV79 (by decide)).trans ((ajV63 54 gi rfl).trans (up2_s hV52)))
                have pq90 : (V79 55 gi).toInt = ((V63 1 8)).toInt := congrArg Int32.toInt (up2_s hV79)
                have rw91 : ROWL b L L64 := (fun k hk => ((axL64 44 k rfl).trans ((axL41 44 k rfl).trans ((axL31 44 k rfl).trans rfl))))
                exact W.zret (v := 1) hx hb hr rfl (fun t ht hW => ⟨⟨1, (V79, L64), rfl, ⟨hMV79, agV79, alL64, (by decide), (Or.inl ⟨rfl, (nx (nx (nx gs 1) 1) 1), 0, 0, fx43 + 1, (gT.2.1 ((nx (nx gs 1) 1).1 0)).toInt.toNat, hr75, rl81, keepS.le (keepS.tr (keepS.tr (keepS.tr (keepS.rf : keepS gs 0 gs) (keepS.n1 1)) (keepS.n1 1)) (keepS.n1 1)) (by decide), (show keepL gs (nx (nx (nx gs 1) 1) 1) from fun j9 h9 => ((show ∀ j9, 5 ≤ j9 → (nx (nx (nx gs 1) 1) 1).2.1 j9 = (nx (nx gs 1) 1).2.1 j9 from fun _ _ => rfl) j9 h9).trans ((show keepL gs (nx (nx gs 1) 1) from fun j9 h9 => ((show ∀ j9, 5 ≤ j9 → (nx (nx gs 1) 1).2.1 j9 = (nx gs 1).2.1 j9 from fun _ _ => rfl) j9 h9).trans ((show keepL gs (nx gs 1) from fun j9 h9 => ((show ∀ j9, 5 ≤ j9 → (nx gs 1).2.1 j9 = gs.2.1 j9 from fun _ _ => rfl) j9 h9).trans ((show keepL gs gs from fun _ _ => rfl) j9 h9)) j9 h9)) j9 h9)), cn86, (show (V79 52 gi).toInt + 1 = ((0 : Nat) : Int) from by (first | exact om_c92bb69903d6 c52 pq87 | omega)), (show (V79 53 gi).toInt = ((0 : Nat) : Int) from by (first | exact om_8e19d9e80009 c53 pq88 | omega)), (show (V79 54 gi).toInt + 1 = ((fx43 + 1 : Nat) : Int) from by omega), (fun h9 => show (V79 55 gi).toInt = (((gT.2.1 ((nx (nx gs 1) 1).1 0)).toInt.toNat : Nat) : Int) from by omega)⟩), rw91⟩, by rw [ht]; exact hP, va_K.moved hW.alike hK, hD⟩, hS.F ht⟩) hS.2.2 dX1_readExtras_128
              · skip
                have f92 : z57.toInt = 0 := b_eq rfl (by decide) c77
                exfalso; first | exact om_495ee03a60ae q66 f92 | first | omega | ((try (have i_t61 := Imp.go t61 (by omega))); (try (have i_t60 := Imp.go t60 (by omega))); (try (have i_t60 := Imp.go t60 (by omega))); (try (have i_t61 := Imp.go t61 (by omega))); omega)
            · skip
              have hb93 : ∀ k, Rc gT (Crun gs (IcalledH ym yc yw :: k)) (Cbad (V63 1 3).toInt) := fun k => Rc.go1 (hr48 k) ((vw_1 (fun h9 => h67 (rl54.tok.1.symm.trans h9))).trans (fl_eq rl54.tok.2.2 k70))
              refine lv_if_ne (tgt := 119) hx hb dX1_readExtras_114 (by decide) (fun c94 => ?_) (fun c94 => ?_)
              · skip
                have f95 : z57.toInt ≠ 0 := b_neq rfl (by decide) c94
                exfalso; first | exact om_fb320d7600b7 rgz57.1 q66 f95 | first | omega | ((try (have i_t61 := Imp.go t61 (by omega))); (try (have i_t60 := Imp.go t60 (by omega))); (try (have i_t60 := Imp.go t60 (by omega))); (try (have i_t61 := Imp.go t61 (by omega))); omega)
              · skip
                have f96 : z57.toInt = 0 := b_eq rfl (by decide) c94
                refine lv_iconst (v := 0) hx hb dX1_readExtras_117 (by decide) ?_
                have rw97 : ROWL b L L64 := (fun k hk => ((axL64 44 k rfl).trans ((axL41 44 k rfl).trans ((axL31 44 k rfl).trans rfl))))
                exact W.zret (v := 0) hx hb hr rfl (fun t ht hW => ⟨⟨0, (V63, L64), rfl, ⟨hMV63, agV63, alL64, (by decide), (Or.inr ⟨rfl, hb93⟩), rw97⟩, by rw [ht]; exact hP, va_K.moved hW.alike hK, hD⟩, hS.F ht⟩) hS.2.2 dX1_readExtras_118
            · skip
              have hb98 : ∀ k, Rc gT (Crun gs (IcalledH ym yc yw :: k)) (Cbad (V63 1 3).toInt) := fun k => Rc.go1 (hr48 k) ((vw_4 (rl54.tok.1.trans h67) (by omega)).trans (fl_eq rl54.tok.2.2 k70))
              refine lv_if_ne (tgt := 119) hx hb dX1_readExtras_114 (by decide) (fun c99 => ?_) (fun c99 => ?_)
              · skip
                have f100 : z57.toInt ≠ 0 := b_neq rfl (by decide) c99
                exfalso; first | omega | ((try (have i_t61 := Imp.go t61 (by omega))); (try (have i_t60 := Imp.go t60 (by omega))); (try (have i_t60 := Imp.go t60 (by omega))); (try (have i_t61 := Imp.go t61 (by omega))); omega)
              · skip
                have f101 : z57.toInt = 0 := b_eq rfl (by decide) c99
                refine lv_iconst (v := 0) hx hb dX1_readExtras_117 (by decide) ?_
                have rw102 : ROWL b L L64 := (fun k hk => ((axL64 44 k rfl).trans ((axL41 44 k rfl).trans ((axL31 44 k rfl).trans rfl))))
                exact W.zret (v := 0) hx hb hr rfl (fun t ht hW => ⟨⟨0, (V63, L64), rfl, ⟨hMV63, agV63, alL64, (by decide), (Or.inr ⟨rfl, hb98⟩), rw102⟩, by rw [ht]; exact hP, va_K.moved hW.alike hK, hD⟩, hS.F ht⟩) hS.2.2 dX1_readExtras_118
          · skip
            have f103 : z36.toInt = 0 := b_eq rfl (by decide) c49
            exfalso; omega
        · skip
          have hb104 : ∀ k, Rc gT (Crun gs (IcalledH ym yc yw :: k)) (Cbad (V40 1 3).toInt) := fun k => Rc.go1 (hr20 k) (wS_b h44)
          refine lv_if_ne (tgt := 99) hx hb dX1_readExtras_94 (by decide) (fun c105 => ?_) (fun c105 => ?_)
          · skip
            have f106 : z36.toInt ≠ 0 := b_neq rfl (by decide) c105
            exfalso; omega
          · skip
            have f107 : z36.toInt = 0 := b_eq rfl (by decide) c105
            refine lv_iconst (v := 0) hx hb dX1_readExtras_97 (by decide) ?_
            have rw108 : ROWL b L L41 := (fun k hk => ((axL41 44 k rfl).trans ((axL31 44 k rfl).trans rfl)))
            exact W.zret (v := 0) hx hb hr rfl (fun t ht hW => ⟨⟨0, (V40, L41), rfl, ⟨hMV40, agV40, alL41, (by decide), (Or.inr ⟨rfl, hb104⟩), rw108⟩, by rw [ht]; exact hP, va_K.moved hW.alike hK, hD⟩, hS.F ht⟩) hS.2.2 dX1_readExtras_98
    · skip
      have f109 : ((V 6 9)).toInt = 134 := b_eq rfl (by decide) c5
      refine lv_aload_n hx hb dX1_readExtras_43 rfl (lv_at hl 0 rfl) ?_
      refine va_get (D := D) (ci := 1) (v := .ref (ad 6)) (fs := (xfReader ad V L Z)) (C := RX1) (T := TX1) (N := 9) hx hb hg inX1 hown hK hP 1 xgReader rfl 0 (by decide) (hg _ w304) (fun _ h9 => h9) rfl dX1_readExtras_44 ?_
      have hr110 : ∀ k, Rc gT (Crun gs (IcalledH ym yc yw :: k)) (Crun gs (IcalledH ym yc yw :: k)) := fun k => Rc.rf
      have kd111 : gT.1 (gs.1 0) = ((V 6 9)).toInt := RelC.kd rel
      have hr112 : ∀ k, Rc gT (Crun gs (IcalledH ym yc yw :: k)) (Crun gs (Irank ym yc yw [0] :: k)) := fun k => Rc.go1 (hr110 k) (calledH_n ym yc yw (fun h9 => absurd (h9.symm.trans (kd111.trans f109)) (by decide)))
      have hr113 : ∀ k, Rc gT (Crun gs (IcalledH ym yc yw :: k)) (Crun (nx gs 1) (IrankN ym yc yw [0] :: k)) := fun k => Rc.go1 (hr112 k) (rank_y ym yc yw [0] (kd111.trans f109))
      have l8114 := RelC.l8 rel
      have r115 : 0 ≤ ((V 6 8)).toInt ∧ ((V 6 8)).toInt ≤ 4000 := hMV 6 8
      have r116 : 0 ≤ ((V 6 7)).toInt ∧ ((V 6 7)).toInt ≤ 4000 := hMV 6 7
      have lk117 := RelC.lk rel (show (V 6 9).toInt ≠ 0 from by (first | exact om_b8feb74b573b f109 | omega))
      refine gA_void (gA_runV (As := []) (rest := []) (ci := 9) (q0 := 6) hx hb hml hown hg hP hD hK hS hA hnw hgk (x_next2 l D ks H.size ad kk V L Z  hMV (show (V 6 8).toInt ≤ (V 6 7).toInt from by (first | exact om_f4906d00fa52 l8114 | omega))) w871 w852 w853 w157 w854 rfl xgTape hdV_yX9_next ⟨Nat.le_of_ble_eq_true rfl, Nat.le_of_ble_eq_true rfl⟩ rfl hl.1 rfl (Nat.le_of_ble_eq_true rfl) dX1_readExtras_47 ⟨Nat.le_of_ble_eq_true rfl, Nat.le_of_ble_eq_true rfl⟩) hP hD hK hS hA (fun u119 H locs w120 hP hD hK hS => ?_)
      obtain ⟨V123, L124⟩ := u119
      obtain ⟨hMV123, ajV123, axL124, t121, t122⟩ := w120
      have alL124 : agL [6, 44] L L124 := agL.tr alL axL124 (by decide)
      have hP : va_P D vwCl (xw ad kk V123 L124 Z) H := hP
      have hD : va_D A (xw ad kk V123 L124 Z) := hD
      have hMV123 : rgd bX V123 := hMV123
      have ajV123 : agr [(6, 8), (6, 9), (6, 10)] [] V V123 := ajV123
      have agV123 : agr [(1, 3), (1, 6), (1, 8), (6, 8), (6, 9), (6, 10)] [43, 44, 52, 53, 54, 55] V V123 := agV.tr ajV123 (by decide) (by decide)
      have t121 : (V123 6 8).toInt ≤ (V123 6 7).toInt := t121
      have t122 : CUR V123 L124 (Int32.toNatClampNeg (V 6 8)) := t122
      have r125 : 0 ≤ ((V123 6 8)).toInt ∧ ((V123 6 8)).toInt ≤ 4000 := hMV123 6 8
      have pq126 : (V123 6 7).toInt = ((V 6 7)).toInt := congrArg Int32.toInt (ajV123 6 7 rfl)
      have rl127 : RelC V123 L124 b gT (nx gs 1) := RelC.nx1 rel ajV123 (by decide) axL124 (by decide) (by rw [← lk117]; exact t122) (ajV123 1 3 rfl)
      refine lv_aload_n hx hb dX1_readExtras_50 rfl (lv_at hl 0 rfl) ?_
      refine lv_iconst (v := 0) hx hb dX1_readExtras_51 (by decide) ?_
      refine lv_bipush (v := 9) hx hb dX1_readExtras_52 (by decide) ?_
      have r128 : Int32.toInt 0 = 0 := by decide
      have r129 : Int32.toInt 9 = 9 := by decide
      refine gA_int (gA_runV (As := [.int 0, .int 9]) (rest := []) (ci := 1) (q0 := 1) hx hb hml hown hg hP hD hK hS hA hnw hgk (x_takeNumber2 l D ks H.size ad kk V123 L124 Z 0 9 (((nx gs 1).1 0)) hMV123 (rl127).1 (rl127).2.1.1 (show 0 ≤ (Int32.toInt 0) from by (first | exact om_1531b20f57e1 r128 | omega)) (show (Int32.toInt 9) ≤ 999999999 from by (first | exact om_e577f9a5b80c r129 | omega))) w906 w908 w12 w162 w909 rfl xgReader hdV_yX1_takeNumber ⟨Nat.le_of_ble_eq_true rfl, Nat.le_of_ble_eq_true rfl⟩ rfl hl.1 rfl (Nat.le_of_ble_eq_true rfl) dX1_readExtras_54 ⟨Nat.le_of_ble_eq_true rfl, Nat.le_of_ble_eq_true rfl⟩) hP hD hK hS hA (fun z130 u131 H locs w132 hP hD hK hS => ?_)
      obtain ⟨V136, L137⟩ := u131
      obtain ⟨hMV136, ajV136, axL137, rgz130, t133, t134, t135⟩ := w132
      have alL137 : agL [6, 44] L L137 := agL.tr alL124 axL137 (by decide)
      have hP : va_P D vwCl (xw ad kk V136 L137 Z) H := hP
      have hD : va_D A (xw ad kk V136 L137 Z) := hD
      have hMV136 : rgd bX V136 := hMV136
      have ajV136 : agr [(1, 3), (1, 8), (6, 8), (6, 9), (6, 10)] [] V123 V136 := ajV136
      have agV136 : agr [(1, 3), (1, 6), (1, 8), (6, 8), (6, 9), (6, 10)] [43, 44, 52, 53, 54, 55] V V136 := agV123.tr ajV136 (by decide) (by decide)
      have rgz130 : 0 ≤ z130.toInt ∧ z130.toInt ≤ 1 := rgz130
      have t133 : Imp (z130.toInt = 1) ((Int32.toInt 0) ≤ (V136 1 8).toInt ∧ (V136 1 8).toInt ≤ (Int32.toInt 9)) := t133
      have t134 : Imp (z130.toInt = 0) (1 ≤ (V136 1 3).toInt) := t134
      have t135 : (z130.toInt = 1 ∧ (V123 12 ((nx gs 1).1 0)).toInt = 2 ∧ (Int32.toInt 0) ≤ (L124 14 ((nx gs 1).1 0)).toInt ∧ (L124 14 ((nx gs 1).1 0)).toInt ≤ (Int32.toInt 9) ∧ CUR V136 L137 (((nx gs 1).1 0) + 1) ∧ (V136 1 8).toInt = (L124 14 ((nx gs 1).1 0)).toInt ∧ V136 1 3 = V123 1 3) ∨ (z130.toInt = 0 ∧ (((V123 12 ((nx gs 1).1 0)).toInt ≠ 2 ∧ (V136 1 3).toInt = 1 + 16 * (V123 13 ((nx gs 1).1 0)).toInt) ∨ ((V123 12 ((nx gs 1).1 0)).toInt = 2 ∧ ((L124 14 ((nx gs 1).1 0)).toInt < (Int32.toInt 0) ∨ (Int32.toInt 9) < (L124 14 ((nx gs 1).1 0)).toInt) ∧ (V136 1 3).toInt = 4 + 16 * (V123 13 ((nx gs 1).1 0)).toInt))) := t135
      have r138 : 0 ≤ ((V136 1 8)).toInt ∧ ((V136 1 8)).toInt ≤ 999999999 := hMV136 1 8
      have nv146 := congrArg Int64.toInt rl127.tok.2.1
      rcases t135 with ⟨q139, h140, h141, h142, k143, k144, k145⟩ | ⟨q139, ⟨h140, k143⟩ | ⟨h140, h141, k143⟩⟩
      · skip
        have rl147 : RelC V136 L137 b gT (nx (nx gs 1) 1) := RelC.nx1 rl127 ajV136 (by decide) axL137 (by decide) k143 k145
        have hr148 : ∀ k, Rc gT (Crun gs (IcalledH ym yc yw :: k)) (Crun (nx (nx gs 1) 1) (IwhenI ym yc yw [(gT.2.1 ((nx gs 1).1 0)).toInt.toNat, 0] :: k)) := fun k => Rc.go1 (hr113 k) (vr_y (rl127.tok.1.trans h140) (by omega) (by omega))
        have nq149 : (V136 1 8).toInt = (((gT.2.1 ((nx gs 1).1 0)).toInt.toNat : Nat) : Int) := by omega
        refine lv_if_ne (tgt := 62) hx hb dX1_readExtras_57 (by decide) (fun c150 => ?_) (fun c150 => ?_)
        · skip
          have f151 : z130.toInt ≠ 0 := b_neq rfl (by decide) c150
          refine lv_aload_n hx hb dX1_readExtras_62 rfl (lv_at hl 1 rfl) ?_
          refine lv_aload_n hx hb dX1_readExtras_63 rfl (lv_at hl 0 rfl) ?_
          refine va_get (D := D) (ci := 1) (v := .int (V136 1 8)) (fs := (xfReader ad V136 L137 Z)) (C := RX1) (T := TX1) (N := 9) hx hb hg inX1 hown hK hP 1 xgReader rfl 8 (by decide) (hg _ w312) (fun _ h9 => h9) rfl dX1_readExtras_64 ?_
          refine va_putN (D := D) (ci := 3) (v := .int (V136 1 8)) (ty := tyX3 8) (fs := (xfComp ad V136 gi)) (C := RX3) (T := TX3) (N := 13) hx hb hg inX3 tyX3 tyX3_ok nmX3 hown hK hP hD hS (72 + gi) (xgComp hgi) rfl 8 (by decide) (hnw.use 528 n528 rfl) (fun _ h9 => h9) rfl (tyX3_ok 8 (by decide)) rfl rfl (Nat.le_of_ble_eq_true rfl) dX1_readExtras_67 (fun H locs hP hD hS => ?_)
          obtain ⟨V152, hV152⟩ : ∃ z, z = up2 V136 53 gi (V136 1 8) := ⟨_, rfl⟩
          have ew153 : (xw ad kk V136 L137 Z).set (72 + gi) ((ad (72 + gi)), .inr (3, (xfComp ad V136 gi).set 8 (.int (V136 1 8)))) = xw ad kk V152 L137 Z := by rw [hV152]; exact xpComp_rank hgi
          have hP : va_P D vwCl (xw ad kk V152 L137 Z) H := by rw [← ew153]; exact hP
          have hD : va_D A (xw ad kk V152 L137 Z) := by rw [← ew153]; exact hD
          have hMV152 : rgd bX V152 := hMV136.put hV152 (i_full _)
          have agV152 : agr [(1, 3), (1, 6), (1, 8), (6, 8), (6, 9), (6, 10)] [43, 44, 52, 53, 54, 55] V V152 := agV136.up hV152 rfl
          refine lv_aload_n hx hb dX1_readExtras_70 rfl (lv_at hl 0 rfl) ?_
          refine va_get (D := D) (ci := 1) (v := .ref (ad 6)) (fs := (xfReader ad V152 L137 Z)) (C := RX1) (T := TX1) (N := 9) hx hb hg inX1 hown hK hP 1 xgReader rfl 0 (by decide) (hg _ w304) (fun _ h9 => h9) rfl dX1_readExtras_71 ?_
          refine va_getN (D := D) (ci := 9) (v := .int (V152 6 9)) (fs := (xfTape ad V152 L137 Z)) (C := RX9) (T := TX9) (N := 12) hx hb hg inX9 hown hK hP 6 xgTape rfl 9 (by decide) (hnw.use 262 n262 rfl) (fun _ h9 => h9) rfl dX1_readExtras_74 ?_
          refine g_top (v := (V136 6 9)) (up2_o hV152 (by decide)) ?_
          refine lv_sipush (v := 135) hx hb dX1_readExtras_77 (by decide) ?_
          refine lv_icmp_ne (tgt := 127) hx hb dX1_readExtras_80 (by decide) (fun c154 => ?_) (fun c154 => ?_)
          · skip
            have f155 : ((V136 6 9)).toInt ≠ 135 := b_neq rfl (by decide) c154
            refine lv_iconst (v := 1) hx hb dX1_readExtras_127 (by decide) ?_
            have rl156 : RelC V152 L137 b gT (nx (nx gs 1) 1) := RelC.ag rl147 (show agr [] [53] V136 V152 from (agr.up agr.rf hV152 rfl)) (by decide) (show agL [] L137 L137 from agL.rf) (by decide)
            have kd157 : gT.1 ((nx (nx gs 1) 1).1 0) = ((V136 6 9)).toInt := (RelC.kd rl156).trans (congrArg Int32.toInt (up2_o hV152 (by decide)))
            have hr158 : ∀ k, Rc gT (Crun gs (IcalledH ym yc yw :: k)) (Crun (nx (nx gs 1) 1) (Itake 123 :: IaddNm ym yc yw [0, 0, (gT.2.1 ((nx gs 1).1 0)).toInt.toNat, 0] :: Imember :: k)) := fun k => Rc.go1 (hr148 k) (when_n ym yc yw [(gT.2.1 ((nx gs 1).1 0)).toInt.toNat, 0] (fun h9 => f155 (kd157.symm.trans h9)))
            have cn159 : CNc V136 b gs := CNc.ag cnx (show agr [(1, 3), (1, 8), (6, 8), (6, 9), (6, 10)] [] V V136 from (agr.tr (agr.tr agr.rf ajV123 (by decide) (by decide)) ajV136 (by decide) (by decide))) (by decide) keepC.rf
            have cn160 : CNc V152 b gs := CNc.up cn159 hV152 (fun q9 => by unfold rdd at q9; omega)
            have cn161 : CNc V152 b (nx (nx gs 1) 1) := CNc.mv cn160 (fun _ _ _ => rfl) (keepC.tr (keepC.tr (keepC.rf : keepC gs gs) (keepS.c (keepS.n1 1))) (keepS.c (keepS.n1 1)))
            have pq162 : (V152 52 gi).toInt = ((V 52 gi)).toInt := congrArg Int32.toInt ((up2_o hV152 (by decide)).trans ((ajV136 52 gi rfl).trans (ajV123 52 gi rfl)))
            have pq163 : (V152 53 gi).toInt = ((V136 1 8)).toInt := congrArg Int32.toInt (up2_s hV152)
            have pq164 : (V152 54 gi).toInt = ((V 54 gi)).toInt := congrArg Int32.toInt ((up2_o hV152 (by decide)).trans ((ajV136 54 gi rfl).trans (ajV123 54 gi rfl)))
            have pq165 : (V152 55 gi).toInt = ((V 55 gi)).toInt := congrArg Int32.toInt ((up2_o hV152 (by decide)).trans ((ajV136 55 gi rfl).trans (ajV123 55 gi rfl)))
            have rw166 : ROWL b L L137 := (fun k hk => ((axL137 44 k rfl).trans ((axL124 44 k rfl).trans rfl)))
            exact W.zret (v := 1) hx hb hr rfl (fun t ht hW => ⟨⟨1, (V152, L137), rfl, ⟨hMV152, agV152, alL137, (by decide), (Or.inl ⟨rfl, (nx (nx gs 1) 1), 0, (gT.2.1 ((nx gs 1).1 0)).toInt.toNat, 0, 0, hr158, rl156, keepS.le (keepS.tr (keepS.tr (keepS.rf : keepS gs 0 gs) (keepS.n1 1)) (keepS.n1 1)) (by decide), (show keepL gs (nx (nx gs 1) 1) from fun j9 h9 => ((show ∀ j9, 5 ≤ j9 → (nx (nx gs 1) 1).2.1 j9 = (nx gs 1).2.1 j9 from fun _ _ => rfl) j9 h9).trans ((show keepL gs (nx gs 1) from fun j9 h9 => ((show ∀ j9, 5 ≤ j9 → (nx gs 1).2.1 j9 = gs.2.1 j9 from fun _ _ => rfl) j9 h9).trans ((show keepL gs gs from fun _ _ => rfl) j9 h9)) j9 h9)), cn161, (show (V152 52 gi).toInt + 1 = ((0 : Nat) : Int) from by (first | exact om_c92bb69903d6 c52 pq162 | omega)), (show (V152 53 gi).toInt = (((gT.2.1 ((nx gs 1).1 0)).toInt.toNat : Nat) : Int) from by (first | exact om_adf531c77a0d nq149 pq163 | omega)), (show (V152 54 gi).toInt + 1 = ((0 : Nat) : Int) from by (first | exact om_c92bb69903d6 c54 pq164 | omega)), (fun h9 => show (V152 55 gi).toInt = ((0 : Nat) : Int) from by omega)⟩), rw166⟩, by rw [ht]; exact hP, va_K.moved hW.alike hK, hD⟩, hS.F ht⟩) hS.2.2 dX1_readExtras_128
          · skip
            have f167 : ((V136 6 9)).toInt = 135 := b_eq rfl (by decide) c154
            refine lv_aload_n hx hb dX1_readExtras_83 rfl (lv_at hl 0 rfl) ?_
            refine va_get (D := D) (ci := 1) (v := .ref (ad 6)) (fs := (xfReader ad V152 L137 Z)) (C := RX1) (T := TX1) (N := 9) hx hb hg inX1 hown hK hP 1 xgReader rfl 0 (by decide) (hg _ w304) (fun _ h9 => h9) rfl dX1_readExtras_84 ?_
            have rl168 : RelC V152 L137 b gT (nx (nx gs 1) 1) := RelC.ag rl147 (show agr [] [53] V136 V152 from (agr.up agr.rf hV152 rfl)) (by decide) (show agL [] L137 L137 from agL.rf) (by decide)
            have kd169 : gT.1 ((nx (nx gs 1) 1).1 0) = ((V136 6 9)).toInt := (RelC.kd rl168).trans (congrArg Int32.toInt (up2_o hV152 (by decide)))
            have hr170 : ∀ k, Rc gT (Crun gs (IcalledH ym yc yw :: k)) (Crun (nx (nx (nx gs 1) 1) 1) (IwhenS ym yc yw [(gT.2.1 ((nx gs 1).1 0)).toInt.toNat, 0] :: k)) := fun k => Rc.go1 (hr148 k) (when_y ym yc yw [(gT.2.1 ((nx gs 1).1 0)).toInt.toNat, 0] (kd169.trans f167))
            have l8171 := RelC.l8 rl168
            have pq172 : (V152 6 8).toInt = ((V136 6 8)).toInt := congrArg Int32.toInt (up2_o hV152 (by decide))
            have r173 : 0 ≤ ((V136 6 8)).toInt ∧ ((V136 6 8)).toInt ≤ 4000 := hMV136 6 8
            have pq174 : (V152 6 7).toInt = ((V 6 7)).toInt := congrArg Int32.toInt ((up2_o hV152 (by decide)).trans ((ajV136 6 7 rfl).trans (ajV123 6 7 rfl)))
            have pq175 : (V152 6 9).toInt = ((V136 6 9)).toInt := congrArg Int32.toInt (up2_o hV152 (by decide))
            have lk176 := RelC.lk rl168 (show (V152 6 9).toInt ≠ 0 from by (first | exact om_5bc145c9901b f167 pq175 | omega))
            refine gA_void (gA_runV (As := []) (rest := []) (ci := 9) (q0 := 6) hx hb hml hown hg hP hD hK hS hA hnw hgk (x_next2 l D ks H.size ad kk V152 L137 Z  hMV152 (show (V152 6 8).toInt ≤ (V152 6 7).toInt from by first | exact om_f4906d00fa52 l8171 | first | omega | ((try (have i_t134 := Imp.go t134 (by omega))); (try (have i_t133 := Imp.go t133 (by omega))); (try (have i_t133 := Imp.go t133 (by omega))); (try (have i_t134 := Imp.go t134 (by omega))); omega))) w871 w852 w853 w157 w854 rfl xgTape hdV_yX9_next ⟨Nat.le_of_ble_eq_true rfl, Nat.le_of_ble_eq_true rfl⟩ rfl hl.1 rfl (Nat.le_of_ble_eq_true rfl) dX1_readExtras_87 ⟨Nat.le_of_ble_eq_true rfl, Nat.le_of_ble_eq_true rfl⟩) hP hD hK hS hA (fun u178 H locs w179 hP hD hK hS => ?_)
            obtain ⟨V182, L183⟩ := u178
            obtain ⟨hMV182, ajV182, axL183, t180, t181⟩ := w179
            have alL183 : agL [6, 44] L L183 := agL.tr alL137 axL183 (by decide)
            have hP : va_P D vwCl (xw ad kk V182 L183 Z) H := hP
            have hD : va_D A (xw ad kk V182 L183 Z) := hD
            have hMV182 : rgd bX V182 := hMV182
            have ajV182 : agr [(6, 8), (6, 9), (6, 10)] [] V152 V182 := ajV182
            have agV182 : agr [(1, 3), (1, 6), (1, 8), (6, 8), (6, 9), (6, 10)] [43, 44, 52, 53, 54, 55] V V182 := agV152.tr ajV182 (by decide) (by decide)
            have t180 : (V182 6 8).toInt ≤ (V182 6 7).toInt := t180
            have t181 : CUR V182 L183 (Int32.toNatClampNeg (V152 6 8)) := t181
            have r184 : 0 ≤ ((V182 6 8)).toInt ∧ ((V182 6 8)).toInt ≤ 4000 := hMV182 6 8
            have pq185 : (V182 6 7).toInt = ((V 6 7)).toInt := congrArg Int32.toInt ((ajV182 6 7 rfl).trans ((up2_o hV152 (by decide)).trans ((ajV136 6 7 rfl).trans (ajV123 6 7 rfl))))
            have rl186 : RelC V182 L183 b gT (nx (nx (nx gs 1) 1) 1) := RelC.nx1 rl168 ajV182 (by decide) axL183 (by decide) (by rw [← lk176]; exact t181) (ajV182 1 3 rfl)
            refine lv_aload_n hx hb dX1_readExtras_90 rfl (lv_at hl 0 rfl) ?_
            have pq187 : (V182 1 1).toInt = ((V 1 1)).toInt := congrArg Int32.toInt ((ajV182 1 1 rfl).trans ((up2_o hV152 (by decide)).trans ((ajV136 1 1 rfl).trans (ajV123 1 1 rfl))))
            refine gA_int (gA_runV (As := []) (rest := []) (ci := 1) (q0 := 1) hx hb hml hown hg hP hD hK hS hA hnw hgk (x_takeSetting3 l D ks H.size ad kk V182 L183 Z (b) (gT) ((nx (nx (nx gs 1) 1) 1)) hMV182 (show b < 2 from by first | exact om_f940a4667dd6 hb2 | first | omega | ((try (have i_t134 := Imp.go t134 (by omega))); (try (have i_t133 := Imp.go t133 (by omega))); (try (have i_t133 := Imp.go t133 (by omega))); (try (have i_t134 := Imp.go t134 (by omega))); omega)) (show (V182 1 1).toInt = (b : Int) from by first | exact om_adf531c77a0d rbk pq187 | first | omega | ((try (have i_t134 := Imp.go t134 (by omega))); (try (have i_t133 := Imp.go t133 (by omega))); (try (have i_t133 := Imp.go t133 (by omega))); (try (have i_t134 := Imp.go t134 (by omega))); omega)) rl186) w931 w933 w17 w162 w934 rfl xgReader hdV_yX1_takeSetting ⟨Nat.le_of_ble_eq_true rfl, Nat.le_of_ble_eq_true rfl⟩ rfl hl.1 rfl (Nat.le_of_ble_eq_true rfl) dX1_readExtras_91 ⟨Nat.le_of_ble_eq_true rfl, Nat.le_of_ble_eq_true rfl⟩) hP hD hK hS hA (fun z188 u189 H locs w190 hP hD hK hS => ?_)
            obtain ⟨V192, L193⟩ := u189
            obtain ⟨hMV192, ajV192, axL193, rgz188, t191⟩ := w190
            have alL193 : agL [6, 44] L L193 := agL.tr alL183 axL193 (by decide)
            have hP : va_P D vwCl (xw ad kk V192 L193 Z) H := hP
            have hD : va_D A (xw ad kk V192 L193 Z) := hD
            have hMV192 : rgd bX V192 := hMV192
            have ajV192 : agr [(1, 3), (1, 6), (6, 8), (6, 9), (6, 10)] [] V182 V192 := ajV192
            have agV192 : agr [(1, 3), (1, 6), (1, 8), (6, 8), (6, 9), (6, 10)] [43, 44, 52, 53, 54, 55] V V192 := agV182.tr ajV192 (by decide) (by decide)
            have rgz188 : 0 ≤ z188.toInt ∧ z188.toInt ≤ 1 := rgz188
            have t191 : KcN (look gT (nx (nx (nx gs 1) 1) 1) ((nx (nx (nx gs 1) 1) 1).2.1 1)) z188.toInt (V192 1 3).toInt (fun f9 => RelC V192 L193 b gT (nx (nx (nx (nx gs 1) 1) 1) 1) ∧ (V192 1 6).toInt = ((f9 : Nat) : Int) ∧ f9 < 12) := t191
            rcases t191 with ⟨q194, fx195, h196, rl197, hf198, hb199⟩ | ⟨q194, h196⟩
            · skip
              have hr200 : ∀ k, Rc gT (Crun gs (IcalledH ym yc yw :: k)) (Crun (nx (nx (nx (nx gs 1) 1) 1) 1) (IwhenN ym yc yw [fx195 + 1, (gT.2.1 ((nx gs 1).1 0)).toInt.toNat, 0] :: k)) := fun k => Rc.go1 (hr170 k) (wS_y h196)
              refine lv_if_ne (tgt := 99) hx hb dX1_readExtras_94 (by decide) (fun c201 => ?_) (fun c201 => ?_)
              · skip
                have f202 : z188.toInt ≠ 0 := b_neq rfl (by decide) c201
                refine lv_aload_n hx hb dX1_readExtras_99 rfl (lv_at hl 1 rfl) ?_
                refine lv_aload_n hx hb dX1_readExtras_100 rfl (lv_at hl 0 rfl) ?_
                refine va_get (D := D) (ci := 1) (v := .int (V192 1 6)) (fs := (xfReader ad V192 L193 Z)) (C := RX1) (T := TX1) (N := 9) hx hb hg inX1 hown hK hP 1 xgReader rfl 6 (by decide) (hg _ w310) (fun _ h9 => h9) rfl dX1_readExtras_101 ?_
                have r203 : (-1) ≤ ((V192 1 6)).toInt ∧ ((V192 1 6)).toInt ≤ 23 := hMV192 1 6
                refine va_putN (D := D) (ci := 3) (v := .int (V192 1 6)) (ty := tyX3 9) (fs := (xfComp ad V192 gi)) (C := RX3) (T := TX3) (N := 13) hx hb hg inX3 tyX3 tyX3_ok nmX3 hown hK hP hD hS (72 + gi) (xgComp hgi) rfl 9 (by decide) (hnw.use 533 n533 rfl) (fun _ h9 => h9) rfl (tyX3_ok 9 (by decide)) rfl rfl (Nat.le_of_ble_eq_true rfl) dX1_readExtras_104 (fun H locs hP hD hS => ?_)
                obtain ⟨V204, hV204⟩ : ∃ z, z = up2 V192 54 gi (V192 1 6) := ⟨_, rfl⟩
                have ew205 : (xw ad kk V192 L193 Z).set (72 + gi) ((ad (72 + gi)), .inr (3, (xfComp ad V192 gi).set 9 (.int (V192 1 6)))) = xw ad kk V204 L193 Z := by rw [hV204]; exact xpComp_whenSetting hgi
                have hP : va_P D vwCl (xw ad kk V204 L193 Z) H := by rw [← ew205]; exact hP
                have hD : va_D A (xw ad kk V204 L193 Z) := by rw [← ew205]; exact hD
                have hMV204 : rgd bX V204 := hMV192.put hV204 (show (-1) ≤ ((V192 1 6)).toInt ∧ ((V192 1 6)).toInt ≤ 11 from by first | omega | ((try (have i_t134 := Imp.go t134 (by omega))); (try (have i_t133 := Imp.go t133 (by omega))); (try (have i_t133 := Imp.go t133 (by omega))); (try (have i_t134 := Imp.go t134 (by omega))); omega))
                have agV204 : agr [(1, 3), (1, 6), (1, 8), (6, 8), (6, 9), (6, 10)] [43, 44, 52, 53, 54, 55] V V204 := agV192.up hV204 rfl
                refine lv_aload_n hx hb dX1_readExtras_107 rfl (lv_at hl 0 rfl) ?_
                refine lv_iconst (v := 0) hx hb dX1_readExtras_108 (by decide) ?_
                refine lv_ldc (v := 999999999) hx hb hown (hg _ w905) dX1_readExtras_109 ?_
                have rl206 : RelC V204 L193 b gT (nx (nx (nx (nx gs 1) 1) 1) 1) := RelC.ag rl197 (show agr [] [54] V192 V204 from (agr.up agr.rf hV204 rfl)) (by decide) (show agL [] L193 L193 from agL.rf) (by decide)
                have r207 : Int32.toInt 999999999 = 999999999 := by decide
                refine gA_int (gA_runV (As := [.int 0, .int 999999999]) (rest := []) (ci := 1) (q0 := 1) hx hb hml hown hg hP hD hK hS hA hnw hgk (x_takeNumber2 l D ks H.size ad kk V204 L193 Z 0 999999999 (((nx (nx (nx (nx gs 1) 1) 1) 1).1 0)) hMV204 (rl206).1 (rl206).2.1.1 (show 0 ≤ (Int32.toInt 0) from by first | exact om_1531b20f57e1 r128 | first | omega | ((try (have i_t134 := Imp.go t134 (by omega))); (try (have i_t133 := Imp.go t133 (by omega))); (try (have i_t133 := Imp.go t133 (by omega))); (try (have i_t134 := Imp.go t134 (by omega))); omega)) (show (Int32.toInt 999999999) ≤ 999999999 from by first | exact om_ffff025b4caa r207 | first | omega | ((try (have i_t134 := Imp.go t134 (by omega))); (try (have i_t133 := Imp.go t133 (by omega))); (try (have i_t133 := Imp.go t133 (by omega))); (try (have i_t134 := Imp.go t134 (by omega))); omega))) w906 w908 w12 w162 w909 rfl xgReader hdV_yX1_takeNumber ⟨Nat.le_of_ble_eq_true rfl, Nat.le_of_ble_eq_true rfl⟩ rfl hl.1 rfl (Nat.le_of_ble_eq_true rfl) dX1_readExtras_111 ⟨Nat.le_of_ble_eq_true rfl, Nat.le_of_ble_eq_true rfl⟩) hP hD hK hS hA (fun z208 u209 H locs w210 hP hD hK hS => ?_)
                obtain ⟨V214, L215⟩ := u209
                obtain ⟨hMV214, ajV214, axL215, rgz208, t211, t212, t213⟩ := w210
                have alL215 : agL [6, 44] L L215 := agL.tr alL193 axL215 (by decide)
                have hP : va_P D vwCl (xw ad kk V214 L215 Z) H := hP
                have hD : va_D A (xw ad kk V214 L215 Z) := hD
                have hMV214 : rgd bX V214 := hMV214
                have ajV214 : agr [(1, 3), (1, 8), (6, 8), (6, 9), (6, 10)] [] V204 V214 := ajV214
                have agV214 : agr [(1, 3), (1, 6), (1, 8), (6, 8), (6, 9), (6, 10)] [43, 44, 52, 53, 54, 55] V V214 := agV204.tr ajV214 (by decide) (by decide)
                have rgz208 : 0 ≤ z208.toInt ∧ z208.toInt ≤ 1 := rgz208
                have t211 : Imp (z208.toInt = 1) ((Int32.toInt 0) ≤ (V214 1 8).toInt ∧ (V214 1 8).toInt ≤ (Int32.toInt 999999999)) := t211
                have t212 : Imp (z208.toInt = 0) (1 ≤ (V214 1 3).toInt) := t212
                have t213 : (z208.toInt = 1 ∧ (V204 12 ((nx (nx (nx (nx gs 1) 1) 1) 1).1 0)).toInt = 2 ∧ (Int32.toInt 0) ≤ (L193 14 ((nx (nx (nx (nx gs 1) 1) 1) 1).1 0)).toInt ∧ (L193 14 ((nx (nx (nx (nx gs 1) 1) 1) 1).1 0)).toInt ≤ (Int32.toInt 999999999) ∧ CUR V214 L215 (((nx (nx (nx (nx gs 1) 1) 1) 1).1 0) + 1) ∧ (V214 1 8).toInt = (L193 14 ((nx (nx (nx (nx gs 1) 1) 1) 1).1 0)).toInt ∧ V214 1 3 = V204 1 3) ∨ (z208.toInt = 0 ∧ (((V204 12 ((nx (nx (nx (nx gs 1) 1) 1) 1).1 0)).toInt ≠ 2 ∧ (V214 1 3).toInt = 1 + 16 * (V204 13 ((nx (nx (nx (nx gs 1) 1) 1) 1).1 0)).toInt) ∨ ((V204 12 ((nx (nx (nx (nx gs 1) 1) 1) 1).1 0)).toInt = 2 ∧ ((L193 14 ((nx (nx (nx (nx gs 1) 1) 1) 1).1 0)).toInt < (Int32.toInt 0) ∨ (Int32.toInt 999999999) < (L193 14 ((nx (nx (nx (nx gs 1) 1) 1) 1).1 0)).toInt) ∧ (V214 1 3).toInt = 4 + 16 * (V204 13 ((nx (nx (nx (nx gs 1) 1) 1) 1).1 0)).toInt))) := t213
                have r216 : 0 ≤ ((V214 1 8)).toInt ∧ ((V214 1 8)).toInt ≤ 999999999 := hMV214 1 8
                have nv224 := congrArg Int64.toInt rl206.tok.2.1
                rcases t213 with ⟨q217, h218, h219, h220, k221, k222, k223⟩ | ⟨q217, ⟨h218, k221⟩ | ⟨h218, h219, k221⟩⟩
                · skip
                  have rl225 : RelC V214 L215 b gT (nx (nx (nx (nx (nx gs 1) 1) 1) 1) 1) := RelC.nx1 rl206 ajV214 (by decide) axL215 (by decide) k221 k223
                  have hr226 : ∀ k, Rc gT (Crun gs (IcalledH ym yc yw :: k)) (Crun (nx (nx (nx (nx (nx gs 1) 1) 1) 1) 1) (Itake 123 :: IaddNm ym yc yw [(gT.2.1 ((nx (nx (nx (nx gs 1) 1) 1) 1).1 0)).toInt.toNat, fx195 + 1, (gT.2.1 ((nx gs 1).1 0)).toInt.toNat, 0] :: Imember :: k)) := fun k => Rc.go1 (hr200 k) (vw_y (rl206.tok.1.trans h218) (by omega) (by omega))
                  have nq227 : (V214 1 8).toInt = (((gT.2.1 ((nx (nx (nx (nx gs 1) 1) 1) 1).1 0)).toInt.toNat : Nat) : Int) := by omega
                  refine lv_if_ne (tgt := 119) hx hb dX1_readExtras_114 (by decide) (fun c228 => ?_) (fun c228 => ?_)
                  · skip
                    have f229 : z208.toInt ≠ 0 := b_neq rfl (by decide) c228
                    refine lv_aload_n hx hb dX1_readExtras_119 rfl (lv_at hl 1 rfl) ?_
                    refine lv_aload_n hx hb dX1_readExtras_120 rfl (lv_at hl 0 rfl) ?_
                    refine va_get (D := D) (ci := 1) (v := .int (V214 1 8)) (fs := (xfReader ad V214 L215 Z)) (C := RX1) (T := TX1) (N := 9) hx hb hg inX1 hown hK hP 1 xgReader rfl 8 (by decide) (hg _ w312) (fun _ h9 => h9) rfl dX1_readExtras_121 ?_
                    refine va_putN (D := D) (ci := 3) (v := .int (V214 1 8)) (ty := tyX3 10) (fs := (xfComp ad V214 gi)) (C := RX3) (T := TX3) (N := 13) hx hb hg inX3 tyX3 tyX3_ok nmX3 hown hK hP hD hS (72 + gi) (xgComp hgi) rfl 10 (by decide) (hnw.use 536 n536 rfl) (fun _ h9 => h9) rfl (tyX3_ok 10 (by decide)) rfl rfl (Nat.le_of_ble_eq_true rfl) dX1_readExtras_124 (fun H locs hP hD hS => ?_)
                    obtain ⟨V230, hV230⟩ : ∃ z, z = up2 V214 55 gi (V214 1 8) := ⟨_, rfl⟩
                    have ew231 : (xw ad kk V214 L215 Z).set (72 + gi) ((ad (72 + gi)), .inr (3, (xfComp ad V214 gi).set 10 (.int (V214 1 8)))) = xw ad kk V230 L215 Z := by rw [hV230]; exact xpComp_whenValue hgi
                    have hP : va_P D vwCl (xw ad kk V230 L215 Z) H := by rw [← ew231]; exact hP
                    have hD : va_D A (xw ad kk V230 L215 Z) := by rw [← ew231]; exact hD
                    have hMV230 : rgd bX V230 := hMV214.put hV230 (i_full _)
                    have agV230 : agr [(1, 3), (1, 6), (1, 8), (6, 8), (6, 9), (6, 10)] [43, 44, 52, 53, 54, 55] V V230 := agV214.up hV230 rfl
                    refine lv_iconst (v := 1) hx hb dX1_readExtras_127 (by decide) ?_
                    have rl232 : RelC V230 L215 b gT (nx (nx (nx (nx (nx gs 1) 1) 1) 1) 1) := RelC.ag rl225 (show agr [] [55] V214 V230 from (agr.up agr.rf hV230 rfl)) (by decide) (show agL [] L215 L215 from agL.rf) (by decide)
                    have cn233 : CNc V136 b gs := CNc.ag cnx (show agr [(1, 3), (1, 8), (6, 8), (6, 9), (6, 10)] [] V V136 from (agr.tr (agr.tr agr.rf ajV123 (by decide) (by decide)) ajV136 (by decide) (by decide))) (by decide) keepC.rf
                    have cn234 : CNc V152 b gs := CNc.up cn233 hV152 (fun q9 => by unfold rdd at q9; omega)
                    have cn235 : CNc V192 b gs := CNc.ag cn234 (show agr [(1, 3), (1, 6), (6, 8), (6, 9), (6, 10)] [] V152 V192 from (agr.tr (agr.tr agr.rf ajV182 (by decide) (by decide)) ajV192 (by decide) (by decide))) (by decide) keepC.rf
                    have cn236 : CNc V204 b gs := CNc.up cn235 hV204 (fun q9 => by unfold rdd at q9; omega)
                    have cn237 : CNc V214 b gs := CNc.ag cn236 (show agr [(1, 3), (1, 8), (6, 8), (6, 9), (6, 10)] [] V204 V214 from (agr.tr agr.rf ajV214 (by decide) (by decide))) (by decide) keepC.rf
                    have cn238 : CNc V230 b gs := CNc.up cn237 hV230 (fun q9 => by unfold rdd at q9; omega)
                    have cn239 : CNc V230 b (nx (nx (nx (nx (nx gs 1) 1) 1) 1) 1) := CNc.mv cn238 (fun _ _ _ => rfl) (keepC.tr (keepC.tr (keepC.tr (keepC.tr (keepC.tr (keepC.rf : keepC gs gs) (keepS.c (keepS.n1 1))) (keepS.c (keepS.n1 1))) (keepS.c (keepS.n1 1))) (keepS.c (keepS.n1 1))) (keepS.c (keepS.n1 1)))
                    have pq240 : (V230 52 gi).toInt = ((V 52 gi)).toInt := congrArg Int32.toInt ((up2_o hV230 (by decide)).trans ((ajV214 52 gi rfl).trans ((up2_o hV204 (by decide)).trans ((ajV192 52 gi rfl).trans ((ajV182 52 gi rfl).trans ((up2_o hV152 (by decide)).trans ((ajV136 52 gi rfl).trans (ajV123 52 gi rfl))))))))
                    have pq241 : (V230 53 gi).toInt = ((V136 1 8)).toInt := congrArg Int32.toInt ((up2_o hV230 (by decide)).trans ((ajV214 53 gi rfl).trans ((up2_o hV204 (by decide)).trans ((ajV192 53 gi rfl).trans ((ajV182 53 gi rfl).trans (up2_s hV152))))))
                    have pq242 : (V230 54 gi).toInt = ((V192 1 6)).toInt := congrArg Int32.toInt ((up2_o hV230 (by decide)).trans ((ajV214 54 gi rfl).trans (up2_s hV204)))
                    have pq243 : (V230 55 gi).toInt = ((V214 1 8)).toInt := congrArg Int32.toInt (up2_s hV230)
                    have rw244 : ROWL b L L215 := (fun k hk => ((axL215 44 k rfl).trans ((axL193 44 k rfl).trans ((axL183 44 k rfl).trans ((axL137 44 k rfl).trans ((axL124 44 k rfl).trans rfl))))))
                    exact W.zret (v := 1) hx hb hr rfl (fun t ht hW => ⟨⟨1, (V230, L215), rfl, ⟨hMV230, agV230, alL215, (by decide), (Or.inl ⟨rfl, (nx (nx (nx (nx (nx gs 1) 1) 1) 1) 1), 0, (gT.2.1 ((nx gs 1).1 0)).toInt.toNat, fx195 + 1, (gT.2.1 ((nx (nx (nx (nx gs 1) 1) 1) 1).1 0)).toInt.toNat, hr226, rl232, keepS.le (keepS.tr (keepS.tr (keepS.tr (keepS.tr (keepS.tr (keepS.rf : keepS gs 0 gs) (keepS.n1 1)) (keepS.n1 1)) (keepS.n1 1)) (keepS.n1 1)) (keepS.n1 1)) (by decide), (show keepL gs (nx (nx (nx (nx (nx gs 1) 1) 1) 1) 1) from fun j9 h9 => ((show ∀ j9, 5 ≤ j9 → (nx (nx (nx (nx (nx gs 1) 1) 1) 1) 1).2.1 j9 = (nx (nx (nx (nx gs 1) 1) 1) 1).2.1 j9 from fun _ _ => rfl) j9 h9).trans ((show keepL gs (nx (nx (nx (nx gs 1) 1) 1) 1) from fun j9 h9 => ((show ∀ j9, 5 ≤ j9 → (nx (nx (nx (nx gs 1) 1) 1) 1).2.1 j9 = (nx (nx (nx gs 1) 1) 1).2.1 j9 from fun _ _ => rfl) j9 h9).trans ((show keepL gs (nx (nx (nx gs 1) 1) 1) from fun j9 h9 => ((show ∀ j9, 5 ≤ j9 → (nx (nx (nx gs 1) 1) 1).2.1 j9 = (nx (nx gs 1) 1).2.1 j9 from fun _ _ => rfl) j9 h9).trans ((show keepL gs (nx (nx gs 1) 1) from fun j9 h9 => ((show ∀ j9, 5 ≤ j9 → (nx (nx gs 1) 1).2.1 j9 = (nx gs 1).2.1 j9 from fun _ _ => rfl) j9 h9).trans ((show keepL gs (nx gs 1) from fun j9 h9 => ((show ∀ j9, 5 ≤ j9 → (nx gs 1).2.1 j9 = gs.2.1 j9 from fun _ _ => rfl) j9 h9).trans ((show keepL gs gs from fun _ _ => rfl) j9 h9)) j9 h9)) j9 h9)) j9 h9)) j9 h9)), cn239, (show (V230 52 gi).toInt + 1 = ((0 : Nat) : Int) from by (first | exact om_c92bb69903d6 c52 pq240 | omega)), (show (V230 53 gi).toInt = (((gT.2.1 ((nx gs 1).1 0)).toInt.toNat : Nat) : Int) from by (first | exact om_adf531c77a0d nq149 pq241 | omega)), (show (V230 54 gi).toInt + 1 = ((fx195 + 1 : Nat) : Int) from by omega), (fun h9 => show (V230 55 gi).toInt = (((gT.2.1 ((nx (nx (nx (nx gs 1) 1) 1) 1).1 0)).toInt.toNat : Nat) : Int) from by omega)⟩), rw244⟩, by rw [ht]; exact hP, va_K.moved hW.alike hK, hD⟩, hS.F ht⟩) hS.2.2 dX1_readExtras_128
                  · skip
                    have f245 : z208.toInt = 0 := b_eq rfl (by decide) c228
                    exfalso; first | exact om_495ee03a60ae q217 f245 | first | omega | ((try (have i_t212 := Imp.go t212 (f245))); (try (have i_t133 := Imp.go t133 (imp_a (rgz130.1) (rgz130.2) (f151)))); omega) | ((try (have i_t212 := Imp.go t212 (by omega))); (try (have i_t211 := Imp.go t211 (by omega))); (try (have i_t134 := Imp.go t134 (by omega))); (try (have i_t133 := Imp.go t133 (by omega))); first | omega | ((try (have i_t133 := Imp.go t133 (by omega))); (try (have i_t134 := Imp.go t134 (by omega))); (try (have i_t211 := Imp.go t211 (by omega))); (try (have i_t212 := Imp.go t212 (by omega))); omega))
                · skip
                  have hb246 : ∀ k, Rc gT (Crun gs (IcalledH ym yc yw :: k)) (Cbad (V214 1 3).toInt) := fun k => Rc.go1 (hr200 k) ((vw_1 (fun h9 => h218 (rl206.tok.1.symm.trans h9))).trans (fl_eq rl206.tok.2.2 k221))
                  refine lv_if_ne (tgt := 119) hx hb dX1_readExtras_114 (by decide) (fun c247 => ?_) (fun c247 => ?_)
                  · skip
                    have f248 : z208.toInt ≠ 0 := b_neq rfl (by decide) c247
                    exfalso; first | exact om_fb320d7600b7 rgz208.1 q217 f248 | first | omega | ((try (have i_t211 := Imp.go t211 (imp_a (rgz208.1) (rgz208.2) (f248)))); (try (have i_t133 := Imp.go t133 (imp_a (rgz130.1) (rgz130.2) (f151)))); omega) | ((try (have i_t212 := Imp.go t212 (by omega))); (try (have i_t211 := Imp.go t211 (by omega))); (try (have i_t134 := Imp.go t134 (by omega))); (try (have i_t133 := Imp.go t133 (by omega))); first | omega | ((try (have i_t133 := Imp.go t133 (by omega))); (try (have i_t134 := Imp.go t134 (by omega))); (try (have i_t211 := Imp.go t211 (by omega))); (try (have i_t212 := Imp.go t212 (by omega))); omega))
                  · skip
                    have f249 : z208.toInt = 0 := b_eq rfl (by decide) c247
                    refine lv_iconst (v := 0) hx hb dX1_readExtras_117 (by decide) ?_
                    have rw250 : ROWL b L L215 := (fun k hk => ((axL215 44 k rfl).trans ((axL193 44 k rfl).trans ((axL183 44 k rfl).trans ((axL137 44 k rfl).trans ((axL124 44 k rfl).trans rfl))))))
                    exact W.zret (v := 0) hx hb hr rfl (fun t ht hW => ⟨⟨0, (V214, L215), rfl, ⟨hMV214, agV214, alL215, (by decide), (Or.inr ⟨rfl, hb246⟩), rw250⟩, by rw [ht]; exact hP, va_K.moved hW.alike hK, hD⟩, hS.F ht⟩) hS.2.2 dX1_readExtras_118
                · skip
                  have hb251 : ∀ k, Rc gT (Crun gs (IcalledH ym yc yw :: k)) (Cbad (V214 1 3).toInt) := fun k => Rc.go1 (hr200 k) ((vw_4 (rl206.tok.1.trans h218) (by omega)).trans (fl_eq rl206.tok.2.2 k221))
                  refine lv_if_ne (tgt := 119) hx hb dX1_readExtras_114 (by decide) (fun c252 => ?_) (fun c252 => ?_)
                  · skip
                    have f253 : z208.toInt ≠ 0 := b_neq rfl (by decide) c252
                    exfalso; first | omega | ((try (have i_t211 := Imp.go t211 (imp_a (rgz208.1) (rgz208.2) (f253)))); (try (have i_t133 := Imp.go t133 (imp_a (rgz130.1) (rgz130.2) (f151)))); omega) | ((try (have i_t212 := Imp.go t212 (by omega))); (try (have i_t211 := Imp.go t211 (by omega))); (try (have i_t134 := Imp.go t134 (by omega))); (try (have i_t133 := Imp.go t133 (by omega))); first | omega | ((try (have i_t133 := Imp.go t133 (by omega))); (try (have i_t134 := Imp.go t134 (by omega))); (try (have i_t211 := Imp.go t211 (by omega))); (try (have i_t212 := Imp.go t212 (by omega))); omega))
                  · skip
                    have f254 : z208.toInt = 0 := b_eq rfl (by decide) c252
                    refine lv_iconst (v := 0) hx hb dX1_readExtras_117 (by decide) ?_
                    have rw255 : ROWL b L L215 := (fun k hk => ((axL215 44 k rfl).trans ((axL193 44 k rfl).trans ((axL183 44 k rfl).trans ((axL137 44 k rfl).trans ((axL124 44 k rfl).trans rfl))))))
                    exact W.zret (v := 0) hx hb hr rfl (fun t ht hW => ⟨⟨0, (V214, L215), rfl, ⟨hMV214, agV214, alL215, (by decide), (Or.inr ⟨rfl, hb251⟩), rw255⟩, by rw [ht]; exact hP, va_K.moved hW.alike hK, hD⟩, hS.F ht⟩) hS.2.2 dX1_readExtras_118
              · skip
                have f256 : z188.toInt = 0 := b_eq rfl (by decide) c201
                exfalso; first | omega | ((try (have i_t134 := Imp.go t134 (by omega))); (try (have i_t133 := Imp.go t133 (by omega))); (try (have i_t133 := Imp.go t133 (by omega))); (try (have i_t134 := Imp.go t134 (by omega))); omega)
            · skip
              have hb257 : ∀ k, Rc gT (Crun gs (IcalledH ym yc yw :: k)) (Cbad (V192 1 3).toInt) := fun k => Rc.go1 (hr170 k) (wS_b h196)
              refine lv_if_ne (tgt := 99) hx hb dX1_readExtras_94 (by decide) (fun c258 => ?_) (fun c258 => ?_)
              · skip
                have f259 : z188.toInt ≠ 0 := b_neq rfl (by decide) c258
                exfalso; first | omega | ((try (have i_t134 := Imp.go t134 (by omega))); (try (have i_t133 := Imp.go t133 (by omega))); (try (have i_t133 := Imp.go t133 (by omega))); (try (have i_t134 := Imp.go t134 (by omega))); omega)
              · skip
                have f260 : z188.toInt = 0 := b_eq rfl (by decide) c258
                refine lv_iconst (v := 0) hx hb dX1_readExtras_97 (by decide) ?_
                have rw261 : ROWL b L L193 := (fun k hk => ((axL193 44 k rfl).trans ((axL183 44 k rfl).trans ((axL137 44 k rfl).trans ((axL124 44 k rfl).trans rfl)))))
                exact W.zret (v := 0) hx hb hr rfl (fun t ht hW => ⟨⟨0, (V192, L193), rfl, ⟨hMV192, agV192, alL193, (by decide), (Or.inr ⟨rfl, hb257⟩), rw261⟩, by rw [ht]; exact hP, va_K.moved hW.alike hK, hD⟩, hS.F ht⟩) hS.2.2 dX1_readExtras_98
        · skip
          have f262 : z130.toInt = 0 := b_eq rfl (by decide) c150
          exfalso; first | exact om_495ee03a60ae q139 f262 | first | omega | ((try (have i_t134 := Imp.go t134 (by omega))); (try (have i_t133 := Imp.go t133 (by omega))); (try (have i_t133 := Imp.go t133 (by omega))); (try (have i_t134 := Imp.go t134 (by omega))); omega)
      · skip
        have hb263 : ∀ k, Rc gT (Crun gs (IcalledH ym yc yw :: k)) (Cbad (V136 1 3).toInt) := fun k => Rc.go1 (hr113 k) ((vr_1 (fun h9 => h140 (rl127.tok.1.symm.trans h9))).trans (fl_eq rl127.tok.2.2 k143))
        refine lv_if_ne (tgt := 62) hx hb dX1_readExtras_57 (by decide) (fun c264 => ?_) (fun c264 => ?_)
        · skip
          have f265 : z130.toInt ≠ 0 := b_neq rfl (by decide) c264
          exfalso; first | exact om_fb320d7600b7 rgz130.1 q139 f265 | first | omega | ((try (have i_t134 := Imp.go t134 (by omega))); (try (have i_t133 := Imp.go t133 (by omega))); (try (have i_t133 := Imp.go t133 (by omega))); (try (have i_t134 := Imp.go t134 (by omega))); omega)
        · skip
          have f266 : z130.toInt = 0 := b_eq rfl (by decide) c264
          refine lv_iconst (v := 0) hx hb dX1_readExtras_60 (by decide) ?_
          have rw267 : ROWL b L L137 := (fun k hk => ((axL137 44 k rfl).trans ((axL124 44 k rfl).trans rfl)))
          exact W.zret (v := 0) hx hb hr rfl (fun t ht hW => ⟨⟨0, (V136, L137), rfl, ⟨hMV136, agV136, alL137, (by decide), (Or.inr ⟨rfl, hb263⟩), rw267⟩, by rw [ht]; exact hP, va_K.moved hW.alike hK, hD⟩, hS.F ht⟩) hS.2.2 dX1_readExtras_61
      · skip
        have hb268 : ∀ k, Rc gT (Crun gs (IcalledH ym yc yw :: k)) (Cbad (V136 1 3).toInt) := fun k => Rc.go1 (hr113 k) ((vr_4 (rl127.tok.1.trans h140) (by omega)).trans (fl_eq rl127.tok.2.2 k143))
        refine lv_if_ne (tgt := 62) hx hb dX1_readExtras_57 (by decide) (fun c269 => ?_) (fun c269 => ?_)
        · skip
          have f270 : z130.toInt ≠ 0 := b_neq rfl (by decide) c269
          exfalso; first | omega | ((try (have i_t134 := Imp.go t134 (by omega))); (try (have i_t133 := Imp.go t133 (by omega))); (try (have i_t133 := Imp.go t133 (by omega))); (try (have i_t134 := Imp.go t134 (by omega))); omega)
        · skip
          have f271 : z130.toInt = 0 := b_eq rfl (by decide) c269
          refine lv_iconst (v := 0) hx hb dX1_readExtras_60 (by decide) ?_
          have rw272 : ROWL b L L137 := (fun k hk => ((axL137 44 k rfl).trans ((axL124 44 k rfl).trans rfl)))
          exact W.zret (v := 0) hx hb hr rfl (fun t ht hW => ⟨⟨0, (V136, L137), rfl, ⟨hMV136, agV136, alL137, (by decide), (Or.inr ⟨rfl, hb268⟩), rw272⟩, by rw [ht]; exact hP, va_K.moved hW.alike hK, hD⟩, hS.F ht⟩) hS.2.2 dX1_readExtras_61
  · skip
    have f273 : ((V 6 9)).toInt = 133 := b_eq rfl (by decide) c3
    refine lv_aload_n hx hb dX1_readExtras_13 rfl (lv_at hl 0 rfl) ?_
    have hr274 : ∀ k, Rc gT (Crun gs (IcalledH ym yc yw :: k)) (Crun gs (IcalledH ym yc yw :: k)) := fun k => Rc.rf
    have kd275 : gT.1 (gs.1 0) = ((V 6 9)).toInt := RelC.kd rel
    have hr276 : ∀ k, Rc gT (Crun gs (IcalledH ym yc yw :: k)) (Crun (nx gs 1) (IwordH ym yc yw :: k)) := fun k => Rc.go1 (hr274 k) (calledH_y ym yc yw (kd275.trans f273))
    refine gA_int (gA_runV (As := []) (rest := []) (ci := 1) (q0 := 1) hx hb hml hown hg hP hD hK hS hA hnw hgk (x_takeCalled3 l D ks H.size ad kk V L Z (b) (gT) (gs) hMV (show b < 2 from by (first | exact om_f940a4667dd6 hb2 | omega)) (show (V 1 1).toInt = (b : Int) from by (first | exact om_08e0c9701055 rbk | omega)) rel (show (V 6 9).toInt = 133 from by (first | exact om_c98ce90bb990 f273 | omega))) w923 w925 w15 w162 w926 rfl xgReader hdV_yX1_takeCalled ⟨Nat.le_of_ble_eq_true rfl, Nat.le_of_ble_eq_true rfl⟩ rfl hl.1 rfl (Nat.le_of_ble_eq_true rfl) dX1_readExtras_14 ⟨Nat.le_of_ble_eq_true rfl, Nat.le_of_ble_eq_true rfl⟩) hP hD hK hS hA (fun z277 u278 H locs w279 hP hD hK hS => ?_)
    obtain ⟨V282, L283⟩ := u278
    obtain ⟨hMV282, ajV282, axL283, rgz277, t280, t281⟩ := w279
    have alL283 : agL [6, 44] L L283 := agL.tr alL axL283 (by decide)
    have hP : va_P D vwCl (xw ad kk V282 L283 Z) H := hP
    have hD : va_D A (xw ad kk V282 L283 Z) := hD
    have hMV282 : rgd bX V282 := hMV282
    have ajV282 : agr [(1, 3), (1, 6), (6, 8), (6, 9), (6, 10)] [43, 44] V V282 := ajV282
    have agV282 : agr [(1, 3), (1, 6), (1, 8), (6, 8), (6, 9), (6, 10)] [43, 44, 52, 53, 54, 55] V V282 := agV.tr ajV282 (by decide) (by decide)
    have rgz277 : 0 ≤ z277.toInt ∧ z277.toInt ≤ 1 := rgz277
    have t280 : KcS (mthW gT (nx gs 1) 4) z277.toInt (V282 1 3).toInt (fun x9 => RelC V282 L283 b gT x9.2 ∧ (V282 1 6).toInt = ((x9.1 : Nat) : Int) ∧ x9.1 < 20 ∧ keepS gs 2 x9.2) := t280
    have t281 : ROWL b L L283 := t281
    rcases t280 with ⟨q284, mx285, h286, rl287, hf288, hb289, kp290⟩ | ⟨q284, h286⟩
    · skip
      have hr291 : ∀ k, Rc gT (Crun gs (IcalledH ym yc yw :: k)) (Crun mx285.2 (Irank ym yc yw [mx285.1 + 1] :: k)) := fun k => Rc.go1 (hr276 k) (wh_y h286)
      refine lv_if_ne (tgt := 22) hx hb dX1_readExtras_17 (by decide) (fun c292 => ?_) (fun c292 => ?_)
      · skip
        have f293 : z277.toInt ≠ 0 := b_neq rfl (by decide) c292
        refine lv_aload_n hx hb dX1_readExtras_22 rfl (lv_at hl 1 rfl) ?_
        refine lv_aload_n hx hb dX1_readExtras_23 rfl (lv_at hl 0 rfl) ?_
        refine va_get (D := D) (ci := 1) (v := .int (V282 1 6)) (fs := (xfReader ad V282 L283 Z)) (C := RX1) (T := TX1) (N := 9) hx hb hg inX1 hown hK hP 1 xgReader rfl 6 (by decide) (hg _ w310) (fun _ h9 => h9) rfl dX1_readExtras_24 ?_
        have r294 : (-1) ≤ ((V282 1 6)).toInt ∧ ((V282 1 6)).toInt ≤ 23 := hMV282 1 6
        refine va_putN (D := D) (ci := 3) (v := .int (V282 1 6)) (ty := tyX3 7) (fs := (xfComp ad V282 gi)) (C := RX3) (T := TX3) (N := 13) hx hb hg inX3 tyX3 tyX3_ok nmX3 hown hK hP hD hS (72 + gi) (xgComp hgi) rfl 7 (by decide) (hnw.use 524 n524 rfl) (fun _ h9 => h9) rfl (tyX3_ok 7 (by decide)) rfl rfl (Nat.le_of_ble_eq_true rfl) dX1_readExtras_27 (fun H locs hP hD hS => ?_)
        obtain ⟨V295, hV295⟩ : ∃ z, z = up2 V282 52 gi (V282 1 6) := ⟨_, rfl⟩
        have ew296 : (xw ad kk V282 L283 Z).set (72 + gi) ((ad (72 + gi)), .inr (3, (xfComp ad V282 gi).set 7 (.int (V282 1 6)))) = xw ad kk V295 L283 Z := by rw [hV295]; exact xpComp_calledWord hgi
        have hP : va_P D vwCl (xw ad kk V295 L283 Z) H := by rw [← ew296]; exact hP
        have hD : va_D A (xw ad kk V295 L283 Z) := by rw [← ew296]; exact hD
        have hMV295 : rgd bX V295 := hMV282.put hV295 (i_full _)
        have agV295 : agr [(1, 3), (1, 6), (1, 8), (6, 8), (6, 9), (6, 10)] [43, 44, 52, 53, 54, 55] V V295 := agV282.up hV295 rfl
        refine lv_aload_n hx hb dX1_readExtras_30 rfl (lv_at hl 0 rfl) ?_
        refine va_get (D := D) (ci := 1) (v := .ref (ad 6)) (fs := (xfReader ad V295 L283 Z)) (C := RX1) (T := TX1) (N := 9) hx hb hg inX1 hown hK hP 1 xgReader rfl 0 (by decide) (hg _ w304) (fun _ h9 => h9) rfl dX1_readExtras_31 ?_
        refine va_getN (D := D) (ci := 9) (v := .int (V295 6 9)) (fs := (xfTape ad V295 L283 Z)) (C := RX9) (T := TX9) (N := 12) hx hb hg inX9 hown hK hP 6 xgTape rfl 9 (by decide) (hnw.use 262 n262 rfl) (fun _ h9 => h9) rfl dX1_readExtras_34 ?_
        refine g_top (v := (V282 6 9)) (up2_o hV295 (by decide)) ?_
        refine lv_sipush (v := 134) hx hb dX1_readExtras_37 (by decide) ?_
        refine lv_icmp_ne (tgt := 70) hx hb dX1_readExtras_40 (by decide) (fun c297 => ?_) (fun c297 => ?_)
        · skip
          have f298 : ((V282 6 9)).toInt ≠ 134 := b_neq rfl (by decide) c297
          refine lv_aload_n hx hb dX1_readExtras_70 rfl (lv_at hl 0 rfl) ?_
          refine va_get (D := D) (ci := 1) (v := .ref (ad 6)) (fs := (xfReader ad V295 L283 Z)) (C := RX1) (T := TX1) (N := 9) hx hb hg inX1 hown hK hP 1 xgReader rfl 0 (by decide) (hg _ w304) (fun _ h9 => h9) rfl dX1_readExtras_71 ?_
          refine va_getN (D := D) (ci := 9) (v := .int (V295 6 9)) (fs := (xfTape ad V295 L283 Z)) (C := RX9) (T := TX9) (N := 12) hx hb hg inX9 hown hK hP 6 xgTape rfl 9 (by decide) (hnw.use 262 n262 rfl) (fun _ h9 => h9) rfl dX1_readExtras_74 ?_
          refine g_top (v := (V282 6 9)) (up2_o hV295 (by decide)) ?_
          refine lv_sipush (v := 135) hx hb dX1_readExtras_77 (by decide) ?_
          refine lv_icmp_ne (tgt := 127) hx hb dX1_readExtras_80 (by decide) (fun c299 => ?_) (fun c299 => ?_)
          · skip
            have f300 : ((V282 6 9)).toInt ≠ 135 := b_neq rfl (by decide) c299
            refine lv_iconst (v := 1) hx hb dX1_readExtras_127 (by decide) ?_
            have rl301 : RelC V295 L283 b gT mx285.2 := RelC.ag rl287 (show agr [] [52] V282 V295 from (agr.up agr.rf hV295 rfl)) (by decide) (show agL [] L283 L283 from agL.rf) (by decide)
            have kd302 : gT.1 (mx285.2.1 0) = ((V282 6 9)).toInt := (RelC.kd rl301).trans (congrArg Int32.toInt (up2_o hV295 (by decide)))
            have hr303 : ∀ k, Rc gT (Crun gs (IcalledH ym yc yw :: k)) (Crun mx285.2 (IwhenI ym yc yw [0, mx285.1 + 1] :: k)) := fun k => Rc.go1 (hr291 k) (rank_n ym yc yw [mx285.1 + 1] (fun h9 => f298 (kd302.symm.trans h9)))
            have hr304 : ∀ k, Rc gT (Crun gs (IcalledH ym yc yw :: k)) (Crun mx285.2 (Itake 123 :: IaddNm ym yc yw [0, 0, 0, mx285.1 + 1] :: Imember :: k)) := fun k => Rc.go1 (hr303 k) (when_n ym yc yw [0, mx285.1 + 1] (fun h9 => f300 (kd302.symm.trans h9)))
            have cn305 : CNc V282 b gs := CNc.ag cnx (show agr [(1, 3), (1, 6), (6, 8), (6, 9), (6, 10)] [43, 44] V V282 from (agr.tr agr.rf ajV282 (by decide) (by decide))) (by decide) keepC.rf
            have cn306 : CNc V295 b gs := CNc.up cn305 hV295 (fun q9 => by unfold rdd at q9; omega)
            have cn307 : CNc V295 b mx285.2 := CNc.mv cn306 (fun _ _ _ => rfl) (keepC.tr (keepC.rf : keepC gs gs) (keepS.c kp290))
            have pq308 : (V295 52 gi).toInt = ((V282 1 6)).toInt := congrArg Int32.toInt (up2_s hV295)
            have pq309 : (V295 53 gi).toInt = ((V 53 gi)).toInt := congrArg Int32.toInt ((up2_o hV295 (by decide)).trans (ajV282 53 gi rfl))
            have pq310 : (V295 54 gi).toInt = ((V 54 gi)).toInt := congrArg Int32.toInt ((up2_o hV295 (by decide)).trans (ajV282 54 gi rfl))
            have pq311 : (V295 55 gi).toInt = ((V 55 gi)).toInt := congrArg Int32.toInt ((up2_o hV295 (by decide)).trans (ajV282 55 gi rfl))
            have rw312 : ROWL b L L283 := (fun k hk => ((t281 k hk).trans rfl))
            exact W.zret (v := 1) hx hb hr rfl (fun t ht hW => ⟨⟨1, (V295, L283), rfl, ⟨hMV295, agV295, alL283, (by decide), (Or.inl ⟨rfl, mx285.2, mx285.1 + 1, 0, 0, 0, hr304, rl301, keepS.le (keepS.tr (keepS.rf : keepS gs 0 gs) kp290) (by decide), (show keepL gs mx285.2 from fun j9 h9 => ((show ∀ j9, 5 ≤ j9 → mx285.2.2.1 j9 = gs.2.1 j9 from (fun j8 h8 => mth_e (s := nx gs 1) (j0 := 4) (by decide) h286 j8 h8)) j9 h9).trans ((show keepL gs gs from fun _ _ => rfl) j9 h9)), cn307, (show (V295 52 gi).toInt + 1 = ((mx285.1 + 1 : Nat) : Int) from by omega), (show (V295 53 gi).toInt = ((0 : Nat) : Int) from by (first | exact om_8e19d9e80009 c53 pq309 | omega)), (show (V295 54 gi).toInt + 1 = ((0 : Nat) : Int) from by (first | exact om_c92bb69903d6 c54 pq310 | omega)), (fun h9 => show (V295 55 gi).toInt = ((0 : Nat) : Int) from by omega)⟩), rw312⟩, by rw [ht]; exact hP, va_K.moved hW.alike hK, hD⟩, hS.F ht⟩) hS.2.2 dX1_readExtras_128
          · skip
            have f313 : ((V282 6 9)).toInt = 135 := b_eq rfl (by decide) c299
            refine lv_aload_n hx hb dX1_readExtras_83 rfl (lv_at hl 0 rfl) ?_
            refine va_get (D := D) (ci := 1) (v := .ref (ad 6)) (fs := (xfReader ad V295 L283 Z)) (C := RX1) (T := TX1) (N := 9) hx hb hg inX1 hown hK hP 1 xgReader rfl 0 (by decide) (hg _ w304) (fun _ h9 => h9) rfl dX1_readExtras_84 ?_
            have rl314 : RelC V295 L283 b gT mx285.2 := RelC.ag rl287 (show agr [] [52] V282 V295 from (agr.up agr.rf hV295 rfl)) (by decide) (show agL [] L283 L283 from agL.rf) (by decide)
            have kd315 : gT.1 (mx285.2.1 0) = ((V282 6 9)).toInt := (RelC.kd rl314).trans (congrArg Int32.toInt (up2_o hV295 (by decide)))
            have hr316 : ∀ k, Rc gT (Crun gs (IcalledH ym yc yw :: k)) (Crun mx285.2 (IwhenI ym yc yw [0, mx285.1 + 1] :: k)) := fun k => Rc.go1 (hr291 k) (rank_n ym yc yw [mx285.1 + 1] (fun h9 => absurd (h9.symm.trans (kd315.trans f313)) (by decide)))
            have hr317 : ∀ k, Rc gT (Crun gs (IcalledH ym yc yw :: k)) (Crun (nx mx285.2 1) (IwhenS ym yc yw [0, mx285.1 + 1] :: k)) := fun k => Rc.go1 (hr316 k) (when_y ym yc yw [0, mx285.1 + 1] (kd315.trans f313))
            have l8318 := RelC.l8 rl314
            have pq319 : (V295 6 8).toInt = ((V282 6 8)).toInt := congrArg Int32.toInt (up2_o hV295 (by decide))
            have r320 : 0 ≤ ((V282 6 8)).toInt ∧ ((V282 6 8)).toInt ≤ 4000 := hMV282 6 8
            have pq321 : (V295 6 7).toInt = ((V 6 7)).toInt := congrArg Int32.toInt ((up2_o hV295 (by decide)).trans (ajV282 6 7 rfl))
            have r322 : 0 ≤ ((V 6 7)).toInt ∧ ((V 6 7)).toInt ≤ 4000 := hMV 6 7
            have pq323 : (V295 6 9).toInt = ((V282 6 9)).toInt := congrArg Int32.toInt (up2_o hV295 (by decide))
            have lk324 := RelC.lk rl314 (show (V295 6 9).toInt ≠ 0 from by (first | exact om_5bc145c9901b f313 pq323 | omega))
            refine gA_void (gA_runV (As := []) (rest := []) (ci := 9) (q0 := 6) hx hb hml hown hg hP hD hK hS hA hnw hgk (x_next2 l D ks H.size ad kk V295 L283 Z  hMV295 (show (V295 6 8).toInt ≤ (V295 6 7).toInt from by (first | exact om_f4906d00fa52 l8318 | omega))) w871 w852 w853 w157 w854 rfl xgTape hdV_yX9_next ⟨Nat.le_of_ble_eq_true rfl, Nat.le_of_ble_eq_true rfl⟩ rfl hl.1 rfl (Nat.le_of_ble_eq_true rfl) dX1_readExtras_87 ⟨Nat.le_of_ble_eq_true rfl, Nat.le_of_ble_eq_true rfl⟩) hP hD hK hS hA (fun u326 H locs w327 hP hD hK hS => ?_)
            obtain ⟨V330, L331⟩ := u326
            obtain ⟨hMV330, ajV330, axL331, t328, t329⟩ := w327
            have alL331 : agL [6, 44] L L331 := agL.tr alL283 axL331 (by decide)
            have hP : va_P D vwCl (xw ad kk V330 L331 Z) H := hP
            have hD : va_D A (xw ad kk V330 L331 Z) := hD
            have hMV330 : rgd bX V330 := hMV330
            have ajV330 : agr [(6, 8), (6, 9), (6, 10)] [] V295 V330 := ajV330
            have agV330 : agr [(1, 3), (1, 6), (1, 8), (6, 8), (6, 9), (6, 10)] [43, 44, 52, 53, 54, 55] V V330 := agV295.tr ajV330 (by decide) (by decide)
            have t328 : (V330 6 8).toInt ≤ (V330 6 7).toInt := t328
            have t329 : CUR V330 L331 (Int32.toNatClampNeg (V295 6 8)) := t329
            have r332 : 0 ≤ ((V330 6 8)).toInt ∧ ((V330 6 8)).toInt ≤ 4000 := hMV330 6 8
            have pq333 : (V330 6 7).toInt = ((V 6 7)).toInt := congrArg Int32.toInt ((ajV330 6 7 rfl).trans ((up2_o hV295 (by decide)).trans (ajV282 6 7 rfl)))
            have rl334 : RelC V330 L331 b gT (nx mx285.2 1) := RelC.nx1 rl314 ajV330 (by decide) axL331 (by decide) (by rw [← lk324]; exact t329) (ajV330 1 3 rfl)
            refine lv_aload_n hx hb dX1_readExtras_90 rfl (lv_at hl 0 rfl) ?_
            have pq335 : (V330 1 1).toInt = ((V 1 1)).toInt := congrArg Int32.toInt ((ajV330 1 1 rfl).trans ((up2_o hV295 (by decide)).trans (ajV282 1 1 rfl)))
            refine gA_int (gA_runV (As := []) (rest := []) (ci := 1) (q0 := 1) hx hb hml hown hg hP hD hK hS hA hnw hgk (x_takeSetting3 l D ks H.size ad kk V330 L331 Z (b) (gT) ((nx mx285.2 1)) hMV330 (show b < 2 from by (first | exact om_f940a4667dd6 hb2 | omega)) (show (V330 1 1).toInt = (b : Int) from by (first | exact om_adf531c77a0d rbk pq335 | omega)) rl334) w931 w933 w17 w162 w934 rfl xgReader hdV_yX1_takeSetting ⟨Nat.le_of_ble_eq_true rfl, Nat.le_of_ble_eq_true rfl⟩ rfl hl.1 rfl (Nat.le_of_ble_eq_true rfl) dX1_readExtras_91 ⟨Nat.le_of_ble_eq_true rfl, Nat.le_of_ble_eq_true rfl⟩) hP hD hK hS hA (fun z336 u337 H locs w338 hP hD hK hS => ?_)
            obtain ⟨V340, L341⟩ := u337
            obtain ⟨hMV340, ajV340, axL341, rgz336, t339⟩ := w338
            have alL341 : agL [6, 44] L L341 := agL.tr alL331 axL341 (by decide)
            have hP : va_P D vwCl (xw ad kk V340 L341 Z) H := hP
            have hD : va_D A (xw ad kk V340 L341 Z) := hD
            have hMV340 : rgd bX V340 := hMV340
            have ajV340 : agr [(1, 3), (1, 6), (6, 8), (6, 9), (6, 10)] [] V330 V340 := ajV340
            have agV340 : agr [(1, 3), (1, 6), (1, 8), (6, 8), (6, 9), (6, 10)] [43, 44, 52, 53, 54, 55] V V340 := agV330.tr ajV340 (by decide) (by decide)
            have rgz336 : 0 ≤ z336.toInt ∧ z336.toInt ≤ 1 := rgz336
            have t339 : KcN (look gT (nx mx285.2 1) ((nx mx285.2 1).2.1 1)) z336.toInt (V340 1 3).toInt (fun f9 => RelC V340 L341 b gT (nx (nx mx285.2 1) 1) ∧ (V340 1 6).toInt = ((f9 : Nat) : Int) ∧ f9 < 12) := t339
            rcases t339 with ⟨q342, fx343, h344, rl345, hf346, hb347⟩ | ⟨q342, h344⟩
            · skip
              have hr348 : ∀ k, Rc gT (Crun gs (IcalledH ym yc yw :: k)) (Crun (nx (nx mx285.2 1) 1) (IwhenN ym yc yw [fx343 + 1, 0, mx285.1 + 1] :: k)) := fun k => Rc.go1 (hr317 k) (wS_y h344)
              refine lv_if_ne (tgt := 99) hx hb dX1_readExtras_94 (by decide) (fun c349 => ?_) (fun c349 => ?_)
              · skip
                have f350 : z336.toInt ≠ 0 := b_neq rfl (by decide) c349
                refine lv_aload_n hx hb dX1_readExtras_99 rfl (lv_at hl 1 rfl) ?_
                refine lv_aload_n hx hb dX1_readExtras_100 rfl (lv_at hl 0 rfl) ?_
                refine va_get (D := D) (ci := 1) (v := .int (V340 1 6)) (fs := (xfReader ad V340 L341 Z)) (C := RX1) (T := TX1) (N := 9) hx hb hg inX1 hown hK hP 1 xgReader rfl 6 (by decide) (hg _ w310) (fun _ h9 => h9) rfl dX1_readExtras_101 ?_
                have r351 : (-1) ≤ ((V340 1 6)).toInt ∧ ((V340 1 6)).toInt ≤ 23 := hMV340 1 6
                refine va_putN (D := D) (ci := 3) (v := .int (V340 1 6)) (ty := tyX3 9) (fs := (xfComp ad V340 gi)) (C := RX3) (T := TX3) (N := 13) hx hb hg inX3 tyX3 tyX3_ok nmX3 hown hK hP hD hS (72 + gi) (xgComp hgi) rfl 9 (by decide) (hnw.use 533 n533 rfl) (fun _ h9 => h9) rfl (tyX3_ok 9 (by decide)) rfl rfl (Nat.le_of_ble_eq_true rfl) dX1_readExtras_104 (fun H locs hP hD hS => ?_)
                obtain ⟨V352, hV352⟩ : ∃ z, z = up2 V340 54 gi (V340 1 6) := ⟨_, rfl⟩
                have ew353 : (xw ad kk V340 L341 Z).set (72 + gi) ((ad (72 + gi)), .inr (3, (xfComp ad V340 gi).set 9 (.int (V340 1 6)))) = xw ad kk V352 L341 Z := by rw [hV352]; exact xpComp_whenSetting hgi
                have hP : va_P D vwCl (xw ad kk V352 L341 Z) H := by rw [← ew353]; exact hP
                have hD : va_D A (xw ad kk V352 L341 Z) := by rw [← ew353]; exact hD
                have hMV352 : rgd bX V352 := hMV340.put hV352 (show (-1) ≤ ((V340 1 6)).toInt ∧ ((V340 1 6)).toInt ≤ 11 from by omega)
                have agV352 : agr [(1, 3), (1, 6), (1, 8), (6, 8), (6, 9), (6, 10)] [43, 44, 52, 53, 54, 55] V V352 := agV340.up hV352 rfl
                refine lv_aload_n hx hb dX1_readExtras_107 rfl (lv_at hl 0 rfl) ?_
                refine lv_iconst (v := 0) hx hb dX1_readExtras_108 (by decide) ?_
                refine lv_ldc (v := 999999999) hx hb hown (hg _ w905) dX1_readExtras_109 ?_
                have rl354 : RelC V352 L341 b gT (nx (nx mx285.2 1) 1) := RelC.ag rl345 (show agr [] [54] V340 V352 from (agr.up agr.rf hV352 rfl)) (by decide) (show agL [] L341 L341 from agL.rf) (by decide)
                have r355 : Int32.toInt 0 = 0 := by decide
                have r356 : Int32.toInt 999999999 = 999999999 := by decide
                refine gA_int (gA_runV (As := [.int 0, .int 999999999]) (rest := []) (ci := 1) (q0 := 1) hx hb hml hown hg hP hD hK hS hA hnw hgk (x_takeNumber2 l D ks H.size ad kk V352 L341 Z 0 999999999 (((nx (nx mx285.2 1) 1).1 0)) hMV352 (rl354).1 (rl354).2.1.1 (show 0 ≤ (Int32.toInt 0) from by (first | exact om_1531b20f57e1 r355 | omega)) (show (Int32.toInt 999999999) ≤ 999999999 from by (first | exact om_ffff025b4caa r356 | omega))) w906 w908 w12 w162 w909 rfl xgReader hdV_yX1_takeNumber ⟨Nat.le_of_ble_eq_true rfl, Nat.le_of_ble_eq_true rfl⟩ rfl hl.1 rfl (Nat.le_of_ble_eq_true rfl) dX1_readExtras_111 ⟨Nat.le_of_ble_eq_true rfl, Nat.le_of_ble_eq_true rfl⟩) hP hD hK hS hA (fun z357 u358 H locs w359 hP hD hK hS => ?_)
                obtain ⟨V363, L364⟩ := u358
                obtain ⟨hMV363, ajV363, axL364, rgz357, t360, t361, t362⟩ := w359
                have alL364 : agL [6, 44] L L364 := agL.tr alL341 axL364 (by decide)
                have hP : va_P D vwCl (xw ad kk V363 L364 Z) H := hP
                have hD : va_D A (xw ad kk V363 L364 Z) := hD
                have hMV363 : rgd bX V363 := hMV363
                have ajV363 : agr [(1, 3), (1, 8), (6, 8), (6, 9), (6, 10)] [] V352 V363 := ajV363
                have agV363 : agr [(1, 3), (1, 6), (1, 8), (6, 8), (6, 9), (6, 10)] [43, 44, 52, 53, 54, 55] V V363 := agV352.tr ajV363 (by decide) (by decide)
                have rgz357 : 0 ≤ z357.toInt ∧ z357.toInt ≤ 1 := rgz357
                have t360 : Imp (z357.toInt = 1) ((Int32.toInt 0) ≤ (V363 1 8).toInt ∧ (V363 1 8).toInt ≤ (Int32.toInt 999999999)) := t360
                have t361 : Imp (z357.toInt = 0) (1 ≤ (V363 1 3).toInt) := t361
                have t362 : (z357.toInt = 1 ∧ (V352 12 ((nx (nx mx285.2 1) 1).1 0)).toInt = 2 ∧ (Int32.toInt 0) ≤ (L341 14 ((nx (nx mx285.2 1) 1).1 0)).toInt ∧ (L341 14 ((nx (nx mx285.2 1) 1).1 0)).toInt ≤ (Int32.toInt 999999999) ∧ CUR V363 L364 (((nx (nx mx285.2 1) 1).1 0) + 1) ∧ (V363 1 8).toInt = (L341 14 ((nx (nx mx285.2 1) 1).1 0)).toInt ∧ V363 1 3 = V352 1 3) ∨ (z357.toInt = 0 ∧ (((V352 12 ((nx (nx mx285.2 1) 1).1 0)).toInt ≠ 2 ∧ (V363 1 3).toInt = 1 + 16 * (V352 13 ((nx (nx mx285.2 1) 1).1 0)).toInt) ∨ ((V352 12 ((nx (nx mx285.2 1) 1).1 0)).toInt = 2 ∧ ((L341 14 ((nx (nx mx285.2 1) 1).1 0)).toInt < (Int32.toInt 0) ∨ (Int32.toInt 999999999) < (L341 14 ((nx (nx mx285.2 1) 1).1 0)).toInt) ∧ (V363 1 3).toInt = 4 + 16 * (V352 13 ((nx (nx mx285.2 1) 1).1 0)).toInt))) := t362
                have r365 : 0 ≤ ((V363 1 8)).toInt ∧ ((V363 1 8)).toInt ≤ 999999999 := hMV363 1 8
                have nv373 := congrArg Int64.toInt rl354.tok.2.1
                rcases t362 with ⟨q366, h367, h368, h369, k370, k371, k372⟩ | ⟨q366, ⟨h367, k370⟩ | ⟨h367, h368, k370⟩⟩
                · skip
                  have rl374 : RelC V363 L364 b gT (nx (nx (nx mx285.2 1) 1) 1) := RelC.nx1 rl354 ajV363 (by decide) axL364 (by decide) k370 k372
                  have hr375 : ∀ k, Rc gT (Crun gs (IcalledH ym yc yw :: k)) (Crun (nx (nx (nx mx285.2 1) 1) 1) (Itake 123 :: IaddNm ym yc yw [(gT.2.1 ((nx (nx mx285.2 1) 1).1 0)).toInt.toNat, fx343 + 1, 0, mx285.1 + 1] :: Imember :: k)) := fun k => Rc.go1 (hr348 k) (vw_y (rl354.tok.1.trans h367) (by omega) (by omega))
                  have nq376 : (V363 1 8).toInt = (((gT.2.1 ((nx (nx mx285.2 1) 1).1 0)).toInt.toNat : Nat) : Int) := by omega
                  refine lv_if_ne (tgt := 119) hx hb dX1_readExtras_114 (by decide) (fun c377 => ?_) (fun c377 => ?_)
                  · skip
                    have f378 : z357.toInt ≠ 0 := b_neq rfl (by decide) c377
                    refine lv_aload_n hx hb dX1_readExtras_119 rfl (lv_at hl 1 rfl) ?_
                    refine lv_aload_n hx hb dX1_readExtras_120 rfl (lv_at hl 0 rfl) ?_
                    refine va_get (D := D) (ci := 1) (v := .int (V363 1 8)) (fs := (xfReader ad V363 L364 Z)) (C := RX1) (T := TX1) (N := 9) hx hb hg inX1 hown hK hP 1 xgReader rfl 8 (by decide) (hg _ w312) (fun _ h9 => h9) rfl dX1_readExtras_121 ?_
                    refine va_putN (D := D) (ci := 3) (v := .int (V363 1 8)) (ty := tyX3 10) (fs := (xfComp ad V363 gi)) (C := RX3) (T := TX3) (N := 13) hx hb hg inX3 tyX3 tyX3_ok nmX3 hown hK hP hD hS (72 + gi) (xgComp hgi) rfl 10 (by decide) (hnw.use 536 n536 rfl) (fun _ h9 => h9) rfl (tyX3_ok 10 (by decide)) rfl rfl (Nat.le_of_ble_eq_true rfl) dX1_readExtras_124 (fun H locs hP hD hS => ?_)
                    obtain ⟨V379, hV379⟩ : ∃ z, z = up2 V363 55 gi (V363 1 8) := ⟨_, rfl⟩
                    have ew380 : (xw ad kk V363 L364 Z).set (72 + gi) ((ad (72 + gi)), .inr (3, (xfComp ad V363 gi).set 10 (.int (V363 1 8)))) = xw ad kk V379 L364 Z := by rw [hV379]; exact xpComp_whenValue hgi
                    have hP : va_P D vwCl (xw ad kk V379 L364 Z) H := by rw [← ew380]; exact hP
                    have hD : va_D A (xw ad kk V379 L364 Z) := by rw [← ew380]; exact hD
                    have hMV379 : rgd bX V379 := hMV363.put hV379 (i_full _)
                    have agV379 : agr [(1, 3), (1, 6), (1, 8), (6, 8), (6, 9), (6, 10)] [43, 44, 52, 53, 54, 55] V V379 := agV363.up hV379 rfl
                    refine lv_iconst (v := 1) hx hb dX1_readExtras_127 (by decide) ?_
                    have rl381 : RelC V379 L364 b gT (nx (nx (nx mx285.2 1) 1) 1) := RelC.ag rl374 (show agr [] [55] V363 V379 from (agr.up agr.rf hV379 rfl)) (by decide) (show agL [] L364 L364 from agL.rf) (by decide)
                    have cn382 : CNc V282 b gs := CNc.ag cnx (show agr [(1, 3), (1, 6), (6, 8), (6, 9), (6, 10)] [43, 44] V V282 from (agr.tr agr.rf ajV282 (by decide) (by decide))) (by decide) keepC.rf
                    have cn383 : CNc V295 b gs := CNc.up cn382 hV295 (fun q9 => by unfold rdd at q9; omega)
                    have cn384 : CNc V340 b gs := CNc.ag cn383 (show agr [(1, 3), (1, 6), (6, 8), (6, 9), (6, 10)] [] V295 V340 from (agr.tr (agr.tr agr.rf ajV330 (by decide) (by decide)) ajV340 (by decide) (by decide))) (by decide) keepC.rf
                    have cn385 : CNc V352 b gs := CNc.up cn384 hV352 (fun q9 => by unfold rdd at q9; omega)
                    have cn386 : CNc V363 b gs := CNc.ag cn385 (show agr [(1, 3), (1, 8), (6, 8), (6, 9), (6, 10)] [] V352 V363 from (agr.tr agr.rf ajV363 (by decide) (by decide))) (by decide) keepC.rf
                    have cn387 : CNc V379 b gs := CNc.up cn386 hV379 (fun q9 => by unfold rdd at q9; omega)
                    have cn388 : CNc V379 b (nx (nx (nx mx285.2 1) 1) 1) := CNc.mv cn387 (fun _ _ _ => rfl) (keepC.tr (keepC.tr (keepC.tr (keepC.tr (keepC.rf : keepC gs gs) (keepS.c kp290)) (keepS.c (keepS.n1 1))) (keepS.c (keepS.n1 1))) (keepS.c (keepS.n1 1)))
                    have pq389 : (V379 52 gi).toInt = ((V282 1 6)).toInt := congrArg Int32.toInt ((up2_o hV379 (by decide)).trans ((ajV363 52 gi rfl).trans ((up2_o hV352 (by decide)).trans ((ajV340 52 gi rfl).trans ((ajV330 52 gi rfl).trans (up2_s hV295))))))
                    have pq390 : (V379 53 gi).toInt = ((V 53 gi)).toInt := congrArg Int32.toInt ((up2_o hV379 (by decide)).trans ((ajV363 53 gi rfl).trans ((up2_o hV352 (by decide)).trans ((ajV340 53 gi rfl).trans ((ajV330 53 gi rfl).trans ((up2_o hV295 (by decide)).trans (ajV282 53 gi rfl)))))))
                    have pq391 : (V379 54 gi).toInt = ((V340 1 6)).toInt := congrArg Int32.toInt ((up2_o hV379 (by decide)).trans ((ajV363 54 gi rfl).trans (up2_s hV352)))
                    have pq392 : (V379 55 gi).toInt = ((V363 1 8)).toInt := congrArg Int32.toInt (up2_s hV379)
                    have rw393 : ROWL b L L364 := (fun k hk => ((axL364 44 k rfl).trans ((axL341 44 k rfl).trans ((axL331 44 k rfl).trans ((t281 k hk).trans rfl)))))
                    exact W.zret (v := 1) hx hb hr rfl (fun t ht hW => ⟨⟨1, (V379, L364), rfl, ⟨hMV379, agV379, alL364, (by decide), (Or.inl ⟨rfl, (nx (nx (nx mx285.2 1) 1) 1), mx285.1 + 1, 0, fx343 + 1, (gT.2.1 ((nx (nx mx285.2 1) 1).1 0)).toInt.toNat, hr375, rl381, keepS.le (keepS.tr (keepS.tr (keepS.tr (keepS.tr (keepS.rf : keepS gs 0 gs) kp290) (keepS.n1 1)) (keepS.n1 1)) (keepS.n1 1)) (by decide), (show keepL gs (nx (nx (nx mx285.2 1) 1) 1) from fun j9 h9 => ((show ∀ j9, 5 ≤ j9 → (nx (nx (nx mx285.2 1) 1) 1).2.1 j9 = (nx (nx mx285.2 1) 1).2.1 j9 from fun _ _ => rfl) j9 h9).trans ((show keepL gs (nx (nx mx285.2 1) 1) from fun j9 h9 => ((show ∀ j9, 5 ≤ j9 → (nx (nx mx285.2 1) 1).2.1 j9 = (nx mx285.2 1).2.1 j9 from fun _ _ => rfl) j9 h9).trans ((show keepL gs (nx mx285.2 1) from fun j9 h9 => ((show ∀ j9, 5 ≤ j9 → (nx mx285.2 1).2.1 j9 = mx285.2.2.1 j9 from fun _ _ => rfl) j9 h9).trans ((show keepL gs mx285.2 from fun j9 h9 => ((show ∀ j9, 5 ≤ j9 → mx285.2.2.1 j9 = gs.2.1 j9 from (fun j8 h8 => mth_e (s := nx gs 1) (j0 := 4) (by decide) h286 j8 h8)) j9 h9).trans ((show keepL gs gs from fun _ _ => rfl) j9 h9)) j9 h9)) j9 h9)) j9 h9)), cn388, (show (V379 52 gi).toInt + 1 = ((mx285.1 + 1 : Nat) : Int) from by omega), (show (V379 53 gi).toInt = ((0 : Nat) : Int) from by (first | exact om_8e19d9e80009 c53 pq390 | omega)), (show (V379 54 gi).toInt + 1 = ((fx343 + 1 : Nat) : Int) from by omega), (fun h9 => show (V379 55 gi).toInt = (((gT.2.1 ((nx (nx mx285.2 1) 1).1 0)).toInt.toNat : Nat) : Int) from by omega)⟩), rw393⟩, by rw [ht]; exact hP, va_K.moved hW.alike hK, hD⟩, hS.F ht⟩) hS.2.2 dX1_readExtras_128
                  · skip
                    have f394 : z357.toInt = 0 := b_eq rfl (by decide) c377
                    exfalso; first | exact om_495ee03a60ae q366 f394 | first | omega | ((try (have i_t361 := Imp.go t361 (by omega))); (try (have i_t360 := Imp.go t360 (by omega))); (try (have i_t360 := Imp.go t360 (by omega))); (try (have i_t361 := Imp.go t361 (by omega))); omega)
                · skip
                  have hb395 : ∀ k, Rc gT (Crun gs (IcalledH ym yc yw :: k)) (Cbad (V363 1 3).toInt) := fun k => Rc.go1 (hr348 k) ((vw_1 (fun h9 => h367 (rl354.tok.1.symm.trans h9))).trans (fl_eq rl354.tok.2.2 k370))
                  refine lv_if_ne (tgt := 119) hx hb dX1_readExtras_114 (by decide) (fun c396 => ?_) (fun c396 => ?_)
                  · skip
                    have f397 : z357.toInt ≠ 0 := b_neq rfl (by decide) c396
                    exfalso; first | exact om_fb320d7600b7 rgz357.1 q366 f397 | first | omega | ((try (have i_t361 := Imp.go t361 (by omega))); (try (have i_t360 := Imp.go t360 (by omega))); (try (have i_t360 := Imp.go t360 (by omega))); (try (have i_t361 := Imp.go t361 (by omega))); omega)
                  · skip
                    have f398 : z357.toInt = 0 := b_eq rfl (by decide) c396
                    refine lv_iconst (v := 0) hx hb dX1_readExtras_117 (by decide) ?_
                    have rw399 : ROWL b L L364 := (fun k hk => ((axL364 44 k rfl).trans ((axL341 44 k rfl).trans ((axL331 44 k rfl).trans ((t281 k hk).trans rfl)))))
                    exact W.zret (v := 0) hx hb hr rfl (fun t ht hW => ⟨⟨0, (V363, L364), rfl, ⟨hMV363, agV363, alL364, (by decide), (Or.inr ⟨rfl, hb395⟩), rw399⟩, by rw [ht]; exact hP, va_K.moved hW.alike hK, hD⟩, hS.F ht⟩) hS.2.2 dX1_readExtras_118
                · skip
                  have hb400 : ∀ k, Rc gT (Crun gs (IcalledH ym yc yw :: k)) (Cbad (V363 1 3).toInt) := fun k => Rc.go1 (hr348 k) ((vw_4 (rl354.tok.1.trans h367) (by omega)).trans (fl_eq rl354.tok.2.2 k370))
                  refine lv_if_ne (tgt := 119) hx hb dX1_readExtras_114 (by decide) (fun c401 => ?_) (fun c401 => ?_)
                  · skip
                    have f402 : z357.toInt ≠ 0 := b_neq rfl (by decide) c401
                    exfalso; first | omega | ((try (have i_t361 := Imp.go t361 (by omega))); (try (have i_t360 := Imp.go t360 (by omega))); (try (have i_t360 := Imp.go t360 (by omega))); (try (have i_t361 := Imp.go t361 (by omega))); omega)
                  · skip
                    have f403 : z357.toInt = 0 := b_eq rfl (by decide) c401
                    refine lv_iconst (v := 0) hx hb dX1_readExtras_117 (by decide) ?_
                    have rw404 : ROWL b L L364 := (fun k hk => ((axL364 44 k rfl).trans ((axL341 44 k rfl).trans ((axL331 44 k rfl).trans ((t281 k hk).trans rfl)))))
                    exact W.zret (v := 0) hx hb hr rfl (fun t ht hW => ⟨⟨0, (V363, L364), rfl, ⟨hMV363, agV363, alL364, (by decide), (Or.inr ⟨rfl, hb400⟩), rw404⟩, by rw [ht]; exact hP, va_K.moved hW.alike hK, hD⟩, hS.F ht⟩) hS.2.2 dX1_readExtras_118
              · skip
                have f405 : z336.toInt = 0 := b_eq rfl (by decide) c349
                exfalso; omega
            · skip
              have hb406 : ∀ k, Rc gT (Crun gs (IcalledH ym yc yw :: k)) (Cbad (V340 1 3).toInt) := fun k => Rc.go1 (hr317 k) (wS_b h344)
              refine lv_if_ne (tgt := 99) hx hb dX1_readExtras_94 (by decide) (fun c407 => ?_) (fun c407 => ?_)
              · skip
                have f408 : z336.toInt ≠ 0 := b_neq rfl (by decide) c407
                exfalso; omega
              · skip
                have f409 : z336.toInt = 0 := b_eq rfl (by decide) c407
                refine lv_iconst (v := 0) hx hb dX1_readExtras_97 (by decide) ?_
                have rw410 : ROWL b L L341 := (fun k hk => ((axL341 44 k rfl).trans ((axL331 44 k rfl).trans ((t281 k hk).trans rfl))))
                exact W.zret (v := 0) hx hb hr rfl (fun t ht hW => ⟨⟨0, (V340, L341), rfl, ⟨hMV340, agV340, alL341, (by decide), (Or.inr ⟨rfl, hb406⟩), rw410⟩, by rw [ht]; exact hP, va_K.moved hW.alike hK, hD⟩, hS.F ht⟩) hS.2.2 dX1_readExtras_98
        · skip
          have f411 : ((V282 6 9)).toInt = 134 := b_eq rfl (by decide) c297
          refine lv_aload_n hx hb dX1_readExtras_43 rfl (lv_at hl 0 rfl) ?_
          refine va_get (D := D) (ci := 1) (v := .ref (ad 6)) (fs := (xfReader ad V295 L283 Z)) (C := RX1) (T := TX1) (N := 9) hx hb hg inX1 hown hK hP 1 xgReader rfl 0 (by decide) (hg _ w304) (fun _ h9 => h9) rfl dX1_readExtras_44 ?_
          have rl412 : RelC V295 L283 b gT mx285.2 := RelC.ag rl287 (show agr [] [52] V282 V295 from (agr.up agr.rf hV295 rfl)) (by decide) (show agL [] L283 L283 from agL.rf) (by decide)
          have kd413 : gT.1 (mx285.2.1 0) = ((V282 6 9)).toInt := (RelC.kd rl412).trans (congrArg Int32.toInt (up2_o hV295 (by decide)))
          have hr414 : ∀ k, Rc gT (Crun gs (IcalledH ym yc yw :: k)) (Crun (nx mx285.2 1) (IrankN ym yc yw [mx285.1 + 1] :: k)) := fun k => Rc.go1 (hr291 k) (rank_y ym yc yw [mx285.1 + 1] (kd413.trans f411))
          have l8415 := RelC.l8 rl412
          have pq416 : (V295 6 8).toInt = ((V282 6 8)).toInt := congrArg Int32.toInt (up2_o hV295 (by decide))
          have r417 : 0 ≤ ((V282 6 8)).toInt ∧ ((V282 6 8)).toInt ≤ 4000 := hMV282 6 8
          have pq418 : (V295 6 7).toInt = ((V 6 7)).toInt := congrArg Int32.toInt ((up2_o hV295 (by decide)).trans (ajV282 6 7 rfl))
          have r419 : 0 ≤ ((V 6 7)).toInt ∧ ((V 6 7)).toInt ≤ 4000 := hMV 6 7
          have pq420 : (V295 6 9).toInt = ((V282 6 9)).toInt := congrArg Int32.toInt (up2_o hV295 (by decide))
          have lk421 := RelC.lk rl412 (show (V295 6 9).toInt ≠ 0 from by (first | exact om_8c1f0c75cf3f f411 pq420 | omega))
          refine gA_void (gA_runV (As := []) (rest := []) (ci := 9) (q0 := 6) hx hb hml hown hg hP hD hK hS hA hnw hgk (x_next2 l D ks H.size ad kk V295 L283 Z  hMV295 (show (V295 6 8).toInt ≤ (V295 6 7).toInt from by (first | exact om_f4906d00fa52 l8415 | omega))) w871 w852 w853 w157 w854 rfl xgTape hdV_yX9_next ⟨Nat.le_of_ble_eq_true rfl, Nat.le_of_ble_eq_true rfl⟩ rfl hl.1 rfl (Nat.le_of_ble_eq_true rfl) dX1_readExtras_47 ⟨Nat.le_of_ble_eq_true rfl, Nat.le_of_ble_eq_true rfl⟩) hP hD hK hS hA (fun u423 H locs w424 hP hD hK hS => ?_)
          obtain ⟨V427, L428⟩ := u423
          obtain ⟨hMV427, ajV427, axL428, t425, t426⟩ := w424
          have alL428 : agL [6, 44] L L428 := agL.tr alL283 axL428 (by decide)
          have hP : va_P D vwCl (xw ad kk V427 L428 Z) H := hP
          have hD : va_D A (xw ad kk V427 L428 Z) := hD
          have hMV427 : rgd bX V427 := hMV427
          have ajV427 : agr [(6, 8), (6, 9), (6, 10)] [] V295 V427 := ajV427
          have agV427 : agr [(1, 3), (1, 6), (1, 8), (6, 8), (6, 9), (6, 10)] [43, 44, 52, 53, 54, 55] V V427 := agV295.tr ajV427 (by decide) (by decide)
          have t425 : (V427 6 8).toInt ≤ (V427 6 7).toInt := t425
          have t426 : CUR V427 L428 (Int32.toNatClampNeg (V295 6 8)) := t426
          have r429 : 0 ≤ ((V427 6 8)).toInt ∧ ((V427 6 8)).toInt ≤ 4000 := hMV427 6 8
          have pq430 : (V427 6 7).toInt = ((V 6 7)).toInt := congrArg Int32.toInt ((ajV427 6 7 rfl).trans ((up2_o hV295 (by decide)).trans (ajV282 6 7 rfl)))
          have rl431 : RelC V427 L428 b gT (nx mx285.2 1) := RelC.nx1 rl412 ajV427 (by decide) axL428 (by decide) (by rw [← lk421]; exact t426) (ajV427 1 3 rfl)
          refine lv_aload_n hx hb dX1_readExtras_50 rfl (lv_at hl 0 rfl) ?_
          refine lv_iconst (v := 0) hx hb dX1_readExtras_51 (by decide) ?_
          refine lv_bipush (v := 9) hx hb dX1_readExtras_52 (by decide) ?_
          have r432 : Int32.toInt 0 = 0 := by decide
          have r433 : Int32.toInt 9 = 9 := by decide
          refine gA_int (gA_runV (As := [.int 0, .int 9]) (rest := []) (ci := 1) (q0 := 1) hx hb hml hown hg hP hD hK hS hA hnw hgk (x_takeNumber2 l D ks H.size ad kk V427 L428 Z 0 9 (((nx mx285.2 1).1 0)) hMV427 (rl431).1 (rl431).2.1.1 (show 0 ≤ (Int32.toInt 0) from by (first | exact om_1531b20f57e1 r432 | omega)) (show (Int32.toInt 9) ≤ 999999999 from by (first | exact om_e577f9a5b80c r433 | omega))) w906 w908 w12 w162 w909 rfl xgReader hdV_yX1_takeNumber ⟨Nat.le_of_ble_eq_true rfl, Nat.le_of_ble_eq_true rfl⟩ rfl hl.1 rfl (Nat.le_of_ble_eq_true rfl) dX1_readExtras_54 ⟨Nat.le_of_ble_eq_true rfl, Nat.le_of_ble_eq_true rfl⟩) hP hD hK hS hA (fun z434 u435 H locs w436 hP hD hK hS => ?_)
          obtain ⟨V440, L441⟩ := u435
          obtain ⟨hMV440, ajV440, axL441, rgz434, t437, t438, t439⟩ := w436
          have alL441 : agL [6, 44] L L441 := agL.tr alL428 axL441 (by decide)
          have hP : va_P D vwCl (xw ad kk V440 L441 Z) H := hP
          have hD : va_D A (xw ad kk V440 L441 Z) := hD
          have hMV440 : rgd bX V440 := hMV440
          have ajV440 : agr [(1, 3), (1, 8), (6, 8), (6, 9), (6, 10)] [] V427 V440 := ajV440
          have agV440 : agr [(1, 3), (1, 6), (1, 8), (6, 8), (6, 9), (6, 10)] [43, 44, 52, 53, 54, 55] V V440 := agV427.tr ajV440 (by decide) (by decide)
          have rgz434 : 0 ≤ z434.toInt ∧ z434.toInt ≤ 1 := rgz434
          have t437 : Imp (z434.toInt = 1) ((Int32.toInt 0) ≤ (V440 1 8).toInt ∧ (V440 1 8).toInt ≤ (Int32.toInt 9)) := t437
          have t438 : Imp (z434.toInt = 0) (1 ≤ (V440 1 3).toInt) := t438
          have t439 : (z434.toInt = 1 ∧ (V427 12 ((nx mx285.2 1).1 0)).toInt = 2 ∧ (Int32.toInt 0) ≤ (L428 14 ((nx mx285.2 1).1 0)).toInt ∧ (L428 14 ((nx mx285.2 1).1 0)).toInt ≤ (Int32.toInt 9) ∧ CUR V440 L441 (((nx mx285.2 1).1 0) + 1) ∧ (V440 1 8).toInt = (L428 14 ((nx mx285.2 1).1 0)).toInt ∧ V440 1 3 = V427 1 3) ∨ (z434.toInt = 0 ∧ (((V427 12 ((nx mx285.2 1).1 0)).toInt ≠ 2 ∧ (V440 1 3).toInt = 1 + 16 * (V427 13 ((nx mx285.2 1).1 0)).toInt) ∨ ((V427 12 ((nx mx285.2 1).1 0)).toInt = 2 ∧ ((L428 14 ((nx mx285.2 1).1 0)).toInt < (Int32.toInt 0) ∨ (Int32.toInt 9) < (L428 14 ((nx mx285.2 1).1 0)).toInt) ∧ (V440 1 3).toInt = 4 + 16 * (V427 13 ((nx mx285.2 1).1 0)).toInt))) := t439
          have r442 : 0 ≤ ((V440 1 8)).toInt ∧ ((V440 1 8)).toInt ≤ 999999999 := hMV440 1 8
          have nv450 := congrArg Int64.toInt rl431.tok.2.1
          rcases t439 with ⟨q443, h444, h445, h446, k447, k448, k449⟩ | ⟨q443, ⟨h444, k447⟩ | ⟨h444, h445, k447⟩⟩
          · skip
            have rl451 : RelC V440 L441 b gT (nx (nx mx285.2 1) 1) := RelC.nx1 rl431 ajV440 (by decide) axL441 (by decide) k447 k449
            have hr452 : ∀ k, Rc gT (Crun gs (IcalledH ym yc yw :: k)) (Crun (nx (nx mx285.2 1) 1) (IwhenI ym yc yw [(gT.2.1 ((nx mx285.2 1).1 0)).toInt.toNat, mx285.1 + 1] :: k)) := fun k => Rc.go1 (hr414 k) (vr_y (rl431.tok.1.trans h444) (by omega) (by omega))
            have nq453 : (V440 1 8).toInt = (((gT.2.1 ((nx mx285.2 1).1 0)).toInt.toNat : Nat) : Int) := by omega
            refine lv_if_ne (tgt := 62) hx hb dX1_readExtras_57 (by decide) (fun c454 => ?_) (fun c454 => ?_)
            · skip
              have f455 : z434.toInt ≠ 0 := b_neq rfl (by decide) c454
              refine lv_aload_n hx hb dX1_readExtras_62 rfl (lv_at hl 1 rfl) ?_
              refine lv_aload_n hx hb dX1_readExtras_63 rfl (lv_at hl 0 rfl) ?_
              refine va_get (D := D) (ci := 1) (v := .int (V440 1 8)) (fs := (xfReader ad V440 L441 Z)) (C := RX1) (T := TX1) (N := 9) hx hb hg inX1 hown hK hP 1 xgReader rfl 8 (by decide) (hg _ w312) (fun _ h9 => h9) rfl dX1_readExtras_64 ?_
              refine va_putN (D := D) (ci := 3) (v := .int (V440 1 8)) (ty := tyX3 8) (fs := (xfComp ad V440 gi)) (C := RX3) (T := TX3) (N := 13) hx hb hg inX3 tyX3 tyX3_ok nmX3 hown hK hP hD hS (72 + gi) (xgComp hgi) rfl 8 (by decide) (hnw.use 528 n528 rfl) (fun _ h9 => h9) rfl (tyX3_ok 8 (by decide)) rfl rfl (Nat.le_of_ble_eq_true rfl) dX1_readExtras_67 (fun H locs hP hD hS => ?_)
              obtain ⟨V456, hV456⟩ : ∃ z, z = up2 V440 53 gi (V440 1 8) := ⟨_, rfl⟩
              have ew457 : (xw ad kk V440 L441 Z).set (72 + gi) ((ad (72 + gi)), .inr (3, (xfComp ad V440 gi).set 8 (.int (V440 1 8)))) = xw ad kk V456 L441 Z := by rw [hV456]; exact xpComp_rank hgi
              have hP : va_P D vwCl (xw ad kk V456 L441 Z) H := by rw [← ew457]; exact hP
              have hD : va_D A (xw ad kk V456 L441 Z) := by rw [← ew457]; exact hD
              have hMV456 : rgd bX V456 := hMV440.put hV456 (i_full _)
              have agV456 : agr [(1, 3), (1, 6), (1, 8), (6, 8), (6, 9), (6, 10)] [43, 44, 52, 53, 54, 55] V V456 := agV440.up hV456 rfl
              refine lv_aload_n hx hb dX1_readExtras_70 rfl (lv_at hl 0 rfl) ?_
              refine va_get (D := D) (ci := 1) (v := .ref (ad 6)) (fs := (xfReader ad V456 L441 Z)) (C := RX1) (T := TX1) (N := 9) hx hb hg inX1 hown hK hP 1 xgReader rfl 0 (by decide) (hg _ w304) (fun _ h9 => h9) rfl dX1_readExtras_71 ?_
              refine va_getN (D := D) (ci := 9) (v := .int (V456 6 9)) (fs := (xfTape ad V456 L441 Z)) (C := RX9) (T := TX9) (N := 12) hx hb hg inX9 hown hK hP 6 xgTape rfl 9 (by decide) (hnw.use 262 n262 rfl) (fun _ h9 => h9) rfl dX1_readExtras_74 ?_
              refine g_top (v := (V440 6 9)) (up2_o hV456 (by decide)) ?_
              refine lv_sipush (v := 135) hx hb dX1_readExtras_77 (by decide) ?_
              refine lv_icmp_ne (tgt := 127) hx hb dX1_readExtras_80 (by decide) (fun c458 => ?_) (fun c458 => ?_)
              · skip
                have f459 : ((V440 6 9)).toInt ≠ 135 := b_neq rfl (by decide) c458
                refine lv_iconst (v := 1) hx hb dX1_readExtras_127 (by decide) ?_
                have rl460 : RelC V456 L441 b gT (nx (nx mx285.2 1) 1) := RelC.ag rl451 (show agr [] [53] V440 V456 from (agr.up agr.rf hV456 rfl)) (by decide) (show agL [] L441 L441 from agL.rf) (by decide)
                have kd461 : gT.1 ((nx (nx mx285.2 1) 1).1 0) = ((V440 6 9)).toInt := (RelC.kd rl460).trans (congrArg Int32.toInt (up2_o hV456 (by decide)))
                have hr462 : ∀ k, Rc gT (Crun gs (IcalledH ym yc yw :: k)) (Crun (nx (nx mx285.2 1) 1) (Itake 123 :: IaddNm ym yc yw [0, 0, (gT.2.1 ((nx mx285.2 1).1 0)).toInt.toNat, mx285.1 + 1] :: Imember :: k)) := fun k => Rc.go1 (hr452 k) (when_n ym yc yw [(gT.2.1 ((nx mx285.2 1).1 0)).toInt.toNat, mx285.1 + 1] (fun h9 => f459 (kd461.symm.trans h9)))
                have cn463 : CNc V282 b gs := CNc.ag cnx (show agr [(1, 3), (1, 6), (6, 8), (6, 9), (6, 10)] [43, 44] V V282 from (agr.tr agr.rf ajV282 (by decide) (by decide))) (by decide) keepC.rf
                have cn464 : CNc V295 b gs := CNc.up cn463 hV295 (fun q9 => by unfold rdd at q9; omega)
                have cn465 : CNc V440 b gs := CNc.ag cn464 (show agr [(1, 3), (1, 8), (6, 8), (6, 9), (6, 10)] [] V295 V440 from (agr.tr (agr.tr agr.rf ajV427 (by decide) (by decide)) ajV440 (by decide) (by decide))) (by decide) keepC.rf
                have cn466 : CNc V456 b gs := CNc.up cn465 hV456 (fun q9 => by unfold rdd at q9; omega)
                have cn467 : CNc V456 b (nx (nx mx285.2 1) 1) := CNc.mv cn466 (fun _ _ _ => rfl) (keepC.tr (keepC.tr (keepC.tr (keepC.rf : keepC gs gs) (keepS.c kp290)) (keepS.c (keepS.n1 1))) (keepS.c (keepS.n1 1)))
                have pq468 : (V456 52 gi).toInt = ((V282 1 6)).toInt := congrArg Int32.toInt ((up2_o hV456 (by decide)).trans ((ajV440 52 gi rfl).trans ((ajV427 52 gi rfl).trans (up2_s hV295))))
                have pq469 : (V456 53 gi).toInt = ((V440 1 8)).toInt := congrArg Int32.toInt (up2_s hV456)
                have pq470 : (V456 54 gi).toInt = ((V 54 gi)).toInt := congrArg Int32.toInt ((up2_o hV456 (by decide)).trans ((ajV440 54 gi rfl).trans ((ajV427 54 gi rfl).trans ((up2_o hV295 (by decide)).trans (ajV282 54 gi rfl)))))
                have pq471 : (V456 55 gi).toInt = ((V 55 gi)).toInt := congrArg Int32.toInt ((up2_o hV456 (by decide)).trans ((ajV440 55 gi rfl).trans ((ajV427 55 gi rfl).trans ((up2_o hV295 (by decide)).trans (ajV282 55 gi rfl)))))
                have rw472 : ROWL b L L441 := (fun k hk => ((axL441 44 k rfl).trans ((axL428 44 k rfl).trans ((t281 k hk).trans rfl))))
                exact W.zret (v := 1) hx hb hr rfl (fun t ht hW => ⟨⟨1, (V456, L441), rfl, ⟨hMV456, agV456, alL441, (by decide), (Or.inl ⟨rfl, (nx (nx mx285.2 1) 1), mx285.1 + 1, (gT.2.1 ((nx mx285.2 1).1 0)).toInt.toNat, 0, 0, hr462, rl460, keepS.le (keepS.tr (keepS.tr (keepS.tr (keepS.rf : keepS gs 0 gs) kp290) (keepS.n1 1)) (keepS.n1 1)) (by decide), (show keepL gs (nx (nx mx285.2 1) 1) from fun j9 h9 => ((show ∀ j9, 5 ≤ j9 → (nx (nx mx285.2 1) 1).2.1 j9 = (nx mx285.2 1).2.1 j9 from fun _ _ => rfl) j9 h9).trans ((show keepL gs (nx mx285.2 1) from fun j9 h9 => ((show ∀ j9, 5 ≤ j9 → (nx mx285.2 1).2.1 j9 = mx285.2.2.1 j9 from fun _ _ => rfl) j9 h9).trans ((show keepL gs mx285.2 from fun j9 h9 => ((show ∀ j9, 5 ≤ j9 → mx285.2.2.1 j9 = gs.2.1 j9 from (fun j8 h8 => mth_e (s := nx gs 1) (j0 := 4) (by decide) h286 j8 h8)) j9 h9).trans ((show keepL gs gs from fun _ _ => rfl) j9 h9)) j9 h9)) j9 h9)), cn467, (show (V456 52 gi).toInt + 1 = ((mx285.1 + 1 : Nat) : Int) from by omega), (show (V456 53 gi).toInt = (((gT.2.1 ((nx mx285.2 1).1 0)).toInt.toNat : Nat) : Int) from by (first | exact om_adf531c77a0d nq453 pq469 | omega)), (show (V456 54 gi).toInt + 1 = ((0 : Nat) : Int) from by (first | exact om_c92bb69903d6 c54 pq470 | omega)), (fun h9 => show (V456 55 gi).toInt = ((0 : Nat) : Int) from by omega)⟩), rw472⟩, by rw [ht]; exact hP, va_K.moved hW.alike hK, hD⟩, hS.F ht⟩) hS.2.2 dX1_readExtras_128
              · skip
                have f473 : ((V440 6 9)).toInt = 135 := b_eq rfl (by decide) c458
                refine lv_aload_n hx hb dX1_readExtras_83 rfl (lv_at hl 0 rfl) ?_
                refine va_get (D := D) (ci := 1) (v := .ref (ad 6)) (fs := (xfReader ad V456 L441 Z)) (C := RX1) (T := TX1) (N := 9) hx hb hg inX1 hown hK hP 1 xgReader rfl 0 (by decide) (hg _ w304) (fun _ h9 => h9) rfl dX1_readExtras_84 ?_
                have rl474 : RelC V456 L441 b gT (nx (nx mx285.2 1) 1) := RelC.ag rl451 (show agr [] [53] V440 V456 from (agr.up agr.rf hV456 rfl)) (by decide) (show agL [] L441 L441 from agL.rf) (by decide)
                have kd475 : gT.1 ((nx (nx mx285.2 1) 1).1 0) = ((V440 6 9)).toInt := (RelC.kd rl474).trans (congrArg Int32.toInt (up2_o hV456 (by decide)))
                have hr476 : ∀ k, Rc gT (Crun gs (IcalledH ym yc yw :: k)) (Crun (nx (nx (nx mx285.2 1) 1) 1) (IwhenS ym yc yw [(gT.2.1 ((nx mx285.2 1).1 0)).toInt.toNat, mx285.1 + 1] :: k)) := fun k => Rc.go1 (hr452 k) (when_y ym yc yw [(gT.2.1 ((nx mx285.2 1).1 0)).toInt.toNat, mx285.1 + 1] (kd475.trans f473))
                have l8477 := RelC.l8 rl474
                have pq478 : (V456 6 8).toInt = ((V440 6 8)).toInt := congrArg Int32.toInt (up2_o hV456 (by decide))
                have r479 : 0 ≤ ((V440 6 8)).toInt ∧ ((V440 6 8)).toInt ≤ 4000 := hMV440 6 8
                have pq480 : (V456 6 7).toInt = ((V 6 7)).toInt := congrArg Int32.toInt ((up2_o hV456 (by decide)).trans ((ajV440 6 7 rfl).trans ((ajV427 6 7 rfl).trans ((up2_o hV295 (by decide)).trans (ajV282 6 7 rfl)))))
                have pq481 : (V456 6 9).toInt = ((V440 6 9)).toInt := congrArg Int32.toInt (up2_o hV456 (by decide))
                have lk482 := RelC.lk rl474 (show (V456 6 9).toInt ≠ 0 from by (first | exact om_5bc145c9901b f473 pq481 | omega))
                refine gA_void (gA_runV (As := []) (rest := []) (ci := 9) (q0 := 6) hx hb hml hown hg hP hD hK hS hA hnw hgk (x_next2 l D ks H.size ad kk V456 L441 Z  hMV456 (show (V456 6 8).toInt ≤ (V456 6 7).toInt from by first | exact om_f4906d00fa52 l8477 | first | omega | ((try (have i_t438 := Imp.go t438 (by omega))); (try (have i_t437 := Imp.go t437 (by omega))); (try (have i_t437 := Imp.go t437 (by omega))); (try (have i_t438 := Imp.go t438 (by omega))); omega))) w871 w852 w853 w157 w854 rfl xgTape hdV_yX9_next ⟨Nat.le_of_ble_eq_true rfl, Nat.le_of_ble_eq_true rfl⟩ rfl hl.1 rfl (Nat.le_of_ble_eq_true rfl) dX1_readExtras_87 ⟨Nat.le_of_ble_eq_true rfl, Nat.le_of_ble_eq_true rfl⟩) hP hD hK hS hA (fun u484 H locs w485 hP hD hK hS => ?_)
                obtain ⟨V488, L489⟩ := u484
                obtain ⟨hMV488, ajV488, axL489, t486, t487⟩ := w485
                have alL489 : agL [6, 44] L L489 := agL.tr alL441 axL489 (by decide)
                have hP : va_P D vwCl (xw ad kk V488 L489 Z) H := hP
                have hD : va_D A (xw ad kk V488 L489 Z) := hD
                have hMV488 : rgd bX V488 := hMV488
                have ajV488 : agr [(6, 8), (6, 9), (6, 10)] [] V456 V488 := ajV488
                have agV488 : agr [(1, 3), (1, 6), (1, 8), (6, 8), (6, 9), (6, 10)] [43, 44, 52, 53, 54, 55] V V488 := agV456.tr ajV488 (by decide) (by decide)
                have t486 : (V488 6 8).toInt ≤ (V488 6 7).toInt := t486
                have t487 : CUR V488 L489 (Int32.toNatClampNeg (V456 6 8)) := t487
                have r490 : 0 ≤ ((V488 6 8)).toInt ∧ ((V488 6 8)).toInt ≤ 4000 := hMV488 6 8
                have pq491 : (V488 6 7).toInt = ((V 6 7)).toInt := congrArg Int32.toInt ((ajV488 6 7 rfl).trans ((up2_o hV456 (by decide)).trans ((ajV440 6 7 rfl).trans ((ajV427 6 7 rfl).trans ((up2_o hV295 (by decide)).trans (ajV282 6 7 rfl))))))
                have rl492 : RelC V488 L489 b gT (nx (nx (nx mx285.2 1) 1) 1) := RelC.nx1 rl474 ajV488 (by decide) axL489 (by decide) (by rw [← lk482]; exact t487) (ajV488 1 3 rfl)
                refine lv_aload_n hx hb dX1_readExtras_90 rfl (lv_at hl 0 rfl) ?_
                have pq493 : (V488 1 1).toInt = ((V 1 1)).toInt := congrArg Int32.toInt ((ajV488 1 1 rfl).trans ((up2_o hV456 (by decide)).trans ((ajV440 1 1 rfl).trans ((ajV427 1 1 rfl).trans ((up2_o hV295 (by decide)).trans (ajV282 1 1 rfl))))))
                refine gA_int (gA_runV (As := []) (rest := []) (ci := 1) (q0 := 1) hx hb hml hown hg hP hD hK hS hA hnw hgk (x_takeSetting3 l D ks H.size ad kk V488 L489 Z (b) (gT) ((nx (nx (nx mx285.2 1) 1) 1)) hMV488 (show b < 2 from by first | exact om_f940a4667dd6 hb2 | first | omega | ((try (have i_t438 := Imp.go t438 (by omega))); (try (have i_t437 := Imp.go t437 (by omega))); (try (have i_t437 := Imp.go t437 (by omega))); (try (have i_t438 := Imp.go t438 (by omega))); omega)) (show (V488 1 1).toInt = (b : Int) from by first | exact om_adf531c77a0d rbk pq493 | first | omega | ((try (have i_t438 := Imp.go t438 (by omega))); (try (have i_t437 := Imp.go t437 (by omega))); (try (have i_t437 := Imp.go t437 (by omega))); (try (have i_t438 := Imp.go t438 (by omega))); omega)) rl492) w931 w933 w17 w162 w934 rfl xgReader hdV_yX1_takeSetting ⟨Nat.le_of_ble_eq_true rfl, Nat.le_of_ble_eq_true rfl⟩ rfl hl.1 rfl (Nat.le_of_ble_eq_true rfl) dX1_readExtras_91 ⟨Nat.le_of_ble_eq_true rfl, Nat.le_of_ble_eq_true rfl⟩) hP hD hK hS hA (fun z494 u495 H locs w496 hP hD hK hS => ?_)
                obtain ⟨V498, L499⟩ := u495
                obtain ⟨hMV498, ajV498, axL499, rgz494, t497⟩ := w496
                have alL499 : agL [6, 44] L L499 := agL.tr alL489 axL499 (by decide)
                have hP : va_P D vwCl (xw ad kk V498 L499 Z) H := hP
                have hD : va_D A (xw ad kk V498 L499 Z) := hD
                have hMV498 : rgd bX V498 := hMV498
                have ajV498 : agr [(1, 3), (1, 6), (6, 8), (6, 9), (6, 10)] [] V488 V498 := ajV498
                have agV498 : agr [(1, 3), (1, 6), (1, 8), (6, 8), (6, 9), (6, 10)] [43, 44, 52, 53, 54, 55] V V498 := agV488.tr ajV498 (by decide) (by decide)
                have rgz494 : 0 ≤ z494.toInt ∧ z494.toInt ≤ 1 := rgz494
                have t497 : KcN (look gT (nx (nx (nx mx285.2 1) 1) 1) ((nx (nx (nx mx285.2 1) 1) 1).2.1 1)) z494.toInt (V498 1 3).toInt (fun f9 => RelC V498 L499 b gT (nx (nx (nx (nx mx285.2 1) 1) 1) 1) ∧ (V498 1 6).toInt = ((f9 : Nat) : Int) ∧ f9 < 12) := t497
                rcases t497 with ⟨q500, fx501, h502, rl503, hf504, hb505⟩ | ⟨q500, h502⟩
                · skip
                  have hr506 : ∀ k, Rc gT (Crun gs (IcalledH ym yc yw :: k)) (Crun (nx (nx (nx (nx mx285.2 1) 1) 1) 1) (IwhenN ym yc yw [fx501 + 1, (gT.2.1 ((nx mx285.2 1).1 0)).toInt.toNat, mx285.1 + 1] :: k)) := fun k => Rc.go1 (hr476 k) (wS_y h502)
                  refine lv_if_ne (tgt := 99) hx hb dX1_readExtras_94 (by decide) (fun c507 => ?_) (fun c507 => ?_)
                  · skip
                    have f508 : z494.toInt ≠ 0 := b_neq rfl (by decide) c507
                    refine lv_aload_n hx hb dX1_readExtras_99 rfl (lv_at hl 1 rfl) ?_
                    refine lv_aload_n hx hb dX1_readExtras_100 rfl (lv_at hl 0 rfl) ?_
                    refine va_get (D := D) (ci := 1) (v := .int (V498 1 6)) (fs := (xfReader ad V498 L499 Z)) (C := RX1) (T := TX1) (N := 9) hx hb hg inX1 hown hK hP 1 xgReader rfl 6 (by decide) (hg _ w310) (fun _ h9 => h9) rfl dX1_readExtras_101 ?_
                    have r509 : (-1) ≤ ((V498 1 6)).toInt ∧ ((V498 1 6)).toInt ≤ 23 := hMV498 1 6
                    refine va_putN (D := D) (ci := 3) (v := .int (V498 1 6)) (ty := tyX3 9) (fs := (xfComp ad V498 gi)) (C := RX3) (T := TX3) (N := 13) hx hb hg inX3 tyX3 tyX3_ok nmX3 hown hK hP hD hS (72 + gi) (xgComp hgi) rfl 9 (by decide) (hnw.use 533 n533 rfl) (fun _ h9 => h9) rfl (tyX3_ok 9 (by decide)) rfl rfl (Nat.le_of_ble_eq_true rfl) dX1_readExtras_104 (fun H locs hP hD hS => ?_)
                    obtain ⟨V510, hV510⟩ : ∃ z, z = up2 V498 54 gi (V498 1 6) := ⟨_, rfl⟩
                    have ew511 : (xw ad kk V498 L499 Z).set (72 + gi) ((ad (72 + gi)), .inr (3, (xfComp ad V498 gi).set 9 (.int (V498 1 6)))) = xw ad kk V510 L499 Z := by rw [hV510]; exact xpComp_whenSetting hgi
                    have hP : va_P D vwCl (xw ad kk V510 L499 Z) H := by rw [← ew511]; exact hP
                    have hD : va_D A (xw ad kk V510 L499 Z) := by rw [← ew511]; exact hD
                    have hMV510 : rgd bX V510 := hMV498.put hV510 (show (-1) ≤ ((V498 1 6)).toInt ∧ ((V498 1 6)).toInt ≤ 11 from by first | omega | ((try (have i_t438 := Imp.go t438 (by omega))); (try (have i_t437 := Imp.go t437 (by omega))); (try (have i_t437 := Imp.go t437 (by omega))); (try (have i_t438 := Imp.go t438 (by omega))); omega))
                    have agV510 : agr [(1, 3), (1, 6), (1, 8), (6, 8), (6, 9), (6, 10)] [43, 44, 52, 53, 54, 55] V V510 := agV498.up hV510 rfl
                    refine lv_aload_n hx hb dX1_readExtras_107 rfl (lv_at hl 0 rfl) ?_
                    refine lv_iconst (v := 0) hx hb dX1_readExtras_108 (by decide) ?_
                    refine lv_ldc (v := 999999999) hx hb hown (hg _ w905) dX1_readExtras_109 ?_
                    have rl512 : RelC V510 L499 b gT (nx (nx (nx (nx mx285.2 1) 1) 1) 1) := RelC.ag rl503 (show agr [] [54] V498 V510 from (agr.up agr.rf hV510 rfl)) (by decide) (show agL [] L499 L499 from agL.rf) (by decide)
                    have r513 : Int32.toInt 999999999 = 999999999 := by decide
                    refine gA_int (gA_runV (As := [.int 0, .int 999999999]) (rest := []) (ci := 1) (q0 := 1) hx hb hml hown hg hP hD hK hS hA hnw hgk (x_takeNumber2 l D ks H.size ad kk V510 L499 Z 0 999999999 (((nx (nx (nx (nx mx285.2 1) 1) 1) 1).1 0)) hMV510 (rl512).1 (rl512).2.1.1 (show 0 ≤ (Int32.toInt 0) from by first | exact om_1531b20f57e1 r432 | first | omega | ((try (have i_t438 := Imp.go t438 (by omega))); (try (have i_t437 := Imp.go t437 (by omega))); (try (have i_t437 := Imp.go t437 (by omega))); (try (have i_t438 := Imp.go t438 (by omega))); omega)) (show (Int32.toInt 999999999) ≤ 999999999 from by first | exact om_ffff025b4caa r513 | first | omega | ((try (have i_t438 := Imp.go t438 (by omega))); (try (have i_t437 := Imp.go t437 (by omega))); (try (have i_t437 := Imp.go t437 (by omega))); (try (have i_t438 := Imp.go t438 (by omega))); omega))) w906 w908 w12 w162 w909 rfl xgReader hdV_yX1_takeNumber ⟨Nat.le_of_ble_eq_true rfl, Nat.le_of_ble_eq_true rfl⟩ rfl hl.1 rfl (Nat.le_of_ble_eq_true rfl) dX1_readExtras_111 ⟨Nat.le_of_ble_eq_true rfl, Nat.le_of_ble_eq_true rfl⟩) hP hD hK hS hA (fun z514 u515 H locs w516 hP hD hK hS => ?_)
                    obtain ⟨V520, L521⟩ := u515
                    obtain ⟨hMV520, ajV520, axL521, rgz514, t517, t518, t519⟩ := w516
                    have alL521 : agL [6, 44] L L521 := agL.tr alL499 axL521 (by decide)
                    have hP : va_P D vwCl (xw ad kk V520 L521 Z) H := hP
                    have hD : va_D A (xw ad kk V520 L521 Z) := hD
                    have hMV520 : rgd bX V520 := hMV520
                    have ajV520 : agr [(1, 3), (1, 8), (6, 8), (6, 9), (6, 10)] [] V510 V520 := ajV520
                    have agV520 : agr [(1, 3), (1, 6), (1, 8), (6, 8), (6, 9), (6, 10)] [43, 44, 52, 53, 54, 55] V V520 := agV510.tr ajV520 (by decide) (by decide)
                    have rgz514 : 0 ≤ z514.toInt ∧ z514.toInt ≤ 1 := rgz514
                    have t517 : Imp (z514.toInt = 1) ((Int32.toInt 0) ≤ (V520 1 8).toInt ∧ (V520 1 8).toInt ≤ (Int32.toInt 999999999)) := t517
                    have t518 : Imp (z514.toInt = 0) (1 ≤ (V520 1 3).toInt) := t518
                    have t519 : (z514.toInt = 1 ∧ (V510 12 ((nx (nx (nx (nx mx285.2 1) 1) 1) 1).1 0)).toInt = 2 ∧ (Int32.toInt 0) ≤ (L499 14 ((nx (nx (nx (nx mx285.2 1) 1) 1) 1).1 0)).toInt ∧ (L499 14 ((nx (nx (nx (nx mx285.2 1) 1) 1) 1).1 0)).toInt ≤ (Int32.toInt 999999999) ∧ CUR V520 L521 (((nx (nx (nx (nx mx285.2 1) 1) 1) 1).1 0) + 1) ∧ (V520 1 8).toInt = (L499 14 ((nx (nx (nx (nx mx285.2 1) 1) 1) 1).1 0)).toInt ∧ V520 1 3 = V510 1 3) ∨ (z514.toInt = 0 ∧ (((V510 12 ((nx (nx (nx (nx mx285.2 1) 1) 1) 1).1 0)).toInt ≠ 2 ∧ (V520 1 3).toInt = 1 + 16 * (V510 13 ((nx (nx (nx (nx mx285.2 1) 1) 1) 1).1 0)).toInt) ∨ ((V510 12 ((nx (nx (nx (nx mx285.2 1) 1) 1) 1).1 0)).toInt = 2 ∧ ((L499 14 ((nx (nx (nx (nx mx285.2 1) 1) 1) 1).1 0)).toInt < (Int32.toInt 0) ∨ (Int32.toInt 999999999) < (L499 14 ((nx (nx (nx (nx mx285.2 1) 1) 1) 1).1 0)).toInt) ∧ (V520 1 3).toInt = 4 + 16 * (V510 13 ((nx (nx (nx (nx mx285.2 1) 1) 1) 1).1 0)).toInt))) := t519
                    have r522 : 0 ≤ ((V520 1 8)).toInt ∧ ((V520 1 8)).toInt ≤ 999999999 := hMV520 1 8
                    have nv530 := congrArg Int64.toInt rl512.tok.2.1
                    rcases t519 with ⟨q523, h524, h525, h526, k527, k528, k529⟩ | ⟨q523, ⟨h524, k527⟩ | ⟨h524, h525, k527⟩⟩
                    · skip
                      have rl531 : RelC V520 L521 b gT (nx (nx (nx (nx (nx mx285.2 1) 1) 1) 1) 1) := RelC.nx1 rl512 ajV520 (by decide) axL521 (by decide) k527 k529
                      have hr532 : ∀ k, Rc gT (Crun gs (IcalledH ym yc yw :: k)) (Crun (nx (nx (nx (nx (nx mx285.2 1) 1) 1) 1) 1) (Itake 123 :: IaddNm ym yc yw [(gT.2.1 ((nx (nx (nx (nx mx285.2 1) 1) 1) 1).1 0)).toInt.toNat, fx501 + 1, (gT.2.1 ((nx mx285.2 1).1 0)).toInt.toNat, mx285.1 + 1] :: Imember :: k)) := fun k => Rc.go1 (hr506 k) (vw_y (rl512.tok.1.trans h524) (by omega) (by omega))
                      have nq533 : (V520 1 8).toInt = (((gT.2.1 ((nx (nx (nx (nx mx285.2 1) 1) 1) 1).1 0)).toInt.toNat : Nat) : Int) := by omega
                      refine lv_if_ne (tgt := 119) hx hb dX1_readExtras_114 (by decide) (fun c534 => ?_) (fun c534 => ?_)
                      · skip
                        have f535 : z514.toInt ≠ 0 := b_neq rfl (by decide) c534
                        refine lv_aload_n hx hb dX1_readExtras_119 rfl (lv_at hl 1 rfl) ?_
                        refine lv_aload_n hx hb dX1_readExtras_120 rfl (lv_at hl 0 rfl) ?_
                        refine va_get (D := D) (ci := 1) (v := .int (V520 1 8)) (fs := (xfReader ad V520 L521 Z)) (C := RX1) (T := TX1) (N := 9) hx hb hg inX1 hown hK hP 1 xgReader rfl 8 (by decide) (hg _ w312) (fun _ h9 => h9) rfl dX1_readExtras_121 ?_
                        refine va_putN (D := D) (ci := 3) (v := .int (V520 1 8)) (ty := tyX3 10) (fs := (xfComp ad V520 gi)) (C := RX3) (T := TX3) (N := 13) hx hb hg inX3 tyX3 tyX3_ok nmX3 hown hK hP hD hS (72 + gi) (xgComp hgi) rfl 10 (by decide) (hnw.use 536 n536 rfl) (fun _ h9 => h9) rfl (tyX3_ok 10 (by decide)) rfl rfl (Nat.le_of_ble_eq_true rfl) dX1_readExtras_124 (fun H locs hP hD hS => ?_)
                        obtain ⟨V536, hV536⟩ : ∃ z, z = up2 V520 55 gi (V520 1 8) := ⟨_, rfl⟩
                        have ew537 : (xw ad kk V520 L521 Z).set (72 + gi) ((ad (72 + gi)), .inr (3, (xfComp ad V520 gi).set 10 (.int (V520 1 8)))) = xw ad kk V536 L521 Z := by rw [hV536]; exact xpComp_whenValue hgi
                        have hP : va_P D vwCl (xw ad kk V536 L521 Z) H := by rw [← ew537]; exact hP
                        have hD : va_D A (xw ad kk V536 L521 Z) := by rw [← ew537]; exact hD
                        have hMV536 : rgd bX V536 := hMV520.put hV536 (i_full _)
                        have agV536 : agr [(1, 3), (1, 6), (1, 8), (6, 8), (6, 9), (6, 10)] [43, 44, 52, 53, 54, 55] V V536 := agV520.up hV536 rfl
                        refine lv_iconst (v := 1) hx hb dX1_readExtras_127 (by decide) ?_
                        have rl538 : RelC V536 L521 b gT (nx (nx (nx (nx (nx mx285.2 1) 1) 1) 1) 1) := RelC.ag rl531 (show agr [] [55] V520 V536 from (agr.up agr.rf hV536 rfl)) (by decide) (show agL [] L521 L521 from agL.rf) (by decide)
                        have cn539 : CNc V282 b gs := CNc.ag cnx (show agr [(1, 3), (1, 6), (6, 8), (6, 9), (6, 10)] [43, 44] V V282 from (agr.tr agr.rf ajV282 (by decide) (by decide))) (by decide) keepC.rf
                        have cn540 : CNc V295 b gs := CNc.up cn539 hV295 (fun q9 => by unfold rdd at q9; omega)
                        have cn541 : CNc V440 b gs := CNc.ag cn540 (show agr [(1, 3), (1, 8), (6, 8), (6, 9), (6, 10)] [] V295 V440 from (agr.tr (agr.tr agr.rf ajV427 (by decide) (by decide)) ajV440 (by decide) (by decide))) (by decide) keepC.rf
                        have cn542 : CNc V456 b gs := CNc.up cn541 hV456 (fun q9 => by unfold rdd at q9; omega)
                        have cn543 : CNc V498 b gs := CNc.ag cn542 (show agr [(1, 3), (1, 6), (6, 8), (6, 9), (6, 10)] [] V456 V498 from (agr.tr (agr.tr agr.rf ajV488 (by decide) (by decide)) ajV498 (by decide) (by decide))) (by decide) keepC.rf
                        have cn544 : CNc V510 b gs := CNc.up cn543 hV510 (fun q9 => by unfold rdd at q9; omega)
                        have cn545 : CNc V520 b gs := CNc.ag cn544 (show agr [(1, 3), (1, 8), (6, 8), (6, 9), (6, 10)] [] V510 V520 from (agr.tr agr.rf ajV520 (by decide) (by decide))) (by decide) keepC.rf
                        have cn546 : CNc V536 b gs := CNc.up cn545 hV536 (fun q9 => by unfold rdd at q9; omega)
                        have cn547 : CNc V536 b (nx (nx (nx (nx (nx mx285.2 1) 1) 1) 1) 1) := CNc.mv cn546 (fun _ _ _ => rfl) (keepC.tr (keepC.tr (keepC.tr (keepC.tr (keepC.tr (keepC.tr (keepC.rf : keepC gs gs) (keepS.c kp290)) (keepS.c (keepS.n1 1))) (keepS.c (keepS.n1 1))) (keepS.c (keepS.n1 1))) (keepS.c (keepS.n1 1))) (keepS.c (keepS.n1 1)))
                        have pq548 : (V536 52 gi).toInt = ((V282 1 6)).toInt := congrArg Int32.toInt ((up2_o hV536 (by decide)).trans ((ajV520 52 gi rfl).trans ((up2_o hV510 (by decide)).trans ((ajV498 52 gi rfl).trans ((ajV488 52 gi rfl).trans ((up2_o hV456 (by decide)).trans ((ajV440 52 gi rfl).trans ((ajV427 52 gi rfl).trans (up2_s hV295)))))))))
                        have pq549 : (V536 53 gi).toInt = ((V440 1 8)).toInt := congrArg Int32.toInt ((up2_o hV536 (by decide)).trans ((ajV520 53 gi rfl).trans ((up2_o hV510 (by decide)).trans ((ajV498 53 gi rfl).trans ((ajV488 53 gi rfl).trans (up2_s hV456))))))
                        have pq550 : (V536 54 gi).toInt = ((V498 1 6)).toInt := congrArg Int32.toInt ((up2_o hV536 (by decide)).trans ((ajV520 54 gi rfl).trans (up2_s hV510)))
                        have pq551 : (V536 55 gi).toInt = ((V520 1 8)).toInt := congrArg Int32.toInt (up2_s hV536)
                        have rw552 : ROWL b L L521 := (fun k hk => ((axL521 44 k rfl).trans ((axL499 44 k rfl).trans ((axL489 44 k rfl).trans ((axL441 44 k rfl).trans ((axL428 44 k rfl).trans ((t281 k hk).trans rfl)))))))
                        exact W.zret (v := 1) hx hb hr rfl (fun t ht hW => ⟨⟨1, (V536, L521), rfl, ⟨hMV536, agV536, alL521, (by decide), (Or.inl ⟨rfl, (nx (nx (nx (nx (nx mx285.2 1) 1) 1) 1) 1), mx285.1 + 1, (gT.2.1 ((nx mx285.2 1).1 0)).toInt.toNat, fx501 + 1, (gT.2.1 ((nx (nx (nx (nx mx285.2 1) 1) 1) 1).1 0)).toInt.toNat, hr532, rl538, keepS.le (keepS.tr (keepS.tr (keepS.tr (keepS.tr (keepS.tr (keepS.tr (keepS.rf : keepS gs 0 gs) kp290) (keepS.n1 1)) (keepS.n1 1)) (keepS.n1 1)) (keepS.n1 1)) (keepS.n1 1)) (by decide), (show keepL gs (nx (nx (nx (nx (nx mx285.2 1) 1) 1) 1) 1) from fun j9 h9 => ((show ∀ j9, 5 ≤ j9 → (nx (nx (nx (nx (nx mx285.2 1) 1) 1) 1) 1).2.1 j9 = (nx (nx (nx (nx mx285.2 1) 1) 1) 1).2.1 j9 from fun _ _ => rfl) j9 h9).trans ((show keepL gs (nx (nx (nx (nx mx285.2 1) 1) 1) 1) from fun j9 h9 => ((show ∀ j9, 5 ≤ j9 → (nx (nx (nx (nx mx285.2 1) 1) 1) 1).2.1 j9 = (nx (nx (nx mx285.2 1) 1) 1).2.1 j9 from fun _ _ => rfl) j9 h9).trans ((show keepL gs (nx (nx (nx mx285.2 1) 1) 1) from fun j9 h9 => ((show ∀ j9, 5 ≤ j9 → (nx (nx (nx mx285.2 1) 1) 1).2.1 j9 = (nx (nx mx285.2 1) 1).2.1 j9 from fun _ _ => rfl) j9 h9).trans ((show keepL gs (nx (nx mx285.2 1) 1) from fun j9 h9 => ((show ∀ j9, 5 ≤ j9 → (nx (nx mx285.2 1) 1).2.1 j9 = (nx mx285.2 1).2.1 j9 from fun _ _ => rfl) j9 h9).trans ((show keepL gs (nx mx285.2 1) from fun j9 h9 => ((show ∀ j9, 5 ≤ j9 → (nx mx285.2 1).2.1 j9 = mx285.2.2.1 j9 from fun _ _ => rfl) j9 h9).trans ((show keepL gs mx285.2 from fun j9 h9 => ((show ∀ j9, 5 ≤ j9 → mx285.2.2.1 j9 = gs.2.1 j9 from (fun j8 h8 => mth_e (s := nx gs 1) (j0 := 4) (by decide) h286 j8 h8)) j9 h9).trans ((show keepL gs gs from fun _ _ => rfl) j9 h9)) j9 h9)) j9 h9)) j9 h9)) j9 h9)) j9 h9)), cn547, (show (V536 52 gi).toInt + 1 = ((mx285.1 + 1 : Nat) : Int) from by omega), (show (V536 53 gi).toInt = (((gT.2.1 ((nx mx285.2 1).1 0)).toInt.toNat : Nat) : Int) from by (first | exact om_adf531c77a0d nq453 pq549 | omega)), (show (V536 54 gi).toInt + 1 = ((fx501 + 1 : Nat) : Int) from by omega), (fun h9 => show (V536 55 gi).toInt = (((gT.2.1 ((nx (nx (nx (nx mx285.2 1) 1) 1) 1).1 0)).toInt.toNat : Nat) : Int) from by omega)⟩), rw552⟩, by rw [ht]; exact hP, va_K.moved hW.alike hK, hD⟩, hS.F ht⟩) hS.2.2 dX1_readExtras_128
                      · skip
                        have f553 : z514.toInt = 0 := b_eq rfl (by decide) c534
                        exfalso; first | exact om_495ee03a60ae q523 f553 | first | omega | ((try (have i_t518 := Imp.go t518 (f553))); (try (have i_t437 := Imp.go t437 (imp_a (rgz434.1) (rgz434.2) (f455)))); omega) | ((try (have i_t518 := Imp.go t518 (by omega))); (try (have i_t517 := Imp.go t517 (by omega))); (try (have i_t438 := Imp.go t438 (by omega))); (try (have i_t437 := Imp.go t437 (by omega))); first | omega | ((try (have i_t437 := Imp.go t437 (by omega))); (try (have i_t438 := Imp.go t438 (by omega))); (try (have i_t517 := Imp.go t517 (by omega))); (try (have i_t518 := Imp.go t518 (by omega))); omega))
                    · skip
                      have hb554 : ∀ k, Rc gT (Crun gs (IcalledH ym yc yw :: k)) (Cbad (V520 1 3).toInt) := fun k => Rc.go1 (hr506 k) ((vw_1 (fun h9 => h524 (rl512.tok.1.symm.trans h9))).trans (fl_eq rl512.tok.2.2 k527))
                      refine lv_if_ne (tgt := 119) hx hb dX1_readExtras_114 (by decide) (fun c555 => ?_) (fun c555 => ?_)
                      · skip
                        have f556 : z514.toInt ≠ 0 := b_neq rfl (by decide) c555
                        exfalso; first | exact om_fb320d7600b7 rgz514.1 q523 f556 | first | omega | ((try (have i_t517 := Imp.go t517 (imp_a (rgz514.1) (rgz514.2) (f556)))); (try (have i_t437 := Imp.go t437 (imp_a (rgz434.1) (rgz434.2) (f455)))); omega) | ((try (have i_t518 := Imp.go t518 (by omega))); (try (have i_t517 := Imp.go t517 (by omega))); (try (have i_t438 := Imp.go t438 (by omega))); (try (have i_t437 := Imp.go t437 (by omega))); first | omega | ((try (have i_t437 := Imp.go t437 (by omega))); (try (have i_t438 := Imp.go t438 (by omega))); (try (have i_t517 := Imp.go t517 (by omega))); (try (have i_t518 := Imp.go t518 (by omega))); omega))
                      · skip
                        have f557 : z514.toInt = 0 := b_eq rfl (by decide) c555
                        refine lv_iconst (v := 0) hx hb dX1_readExtras_117 (by decide) ?_
                        have rw558 : ROWL b L L521 := (fun k hk => ((axL521 44 k rfl).trans ((axL499 44 k rfl).trans ((axL489 44 k rfl).trans ((axL441 44 k rfl).trans ((axL428 44 k rfl).trans ((t281 k hk).trans rfl)))))))
                        exact W.zret (v := 0) hx hb hr rfl (fun t ht hW => ⟨⟨0, (V520, L521), rfl, ⟨hMV520, agV520, alL521, (by decide), (Or.inr ⟨rfl, hb554⟩), rw558⟩, by rw [ht]; exact hP, va_K.moved hW.alike hK, hD⟩, hS.F ht⟩) hS.2.2 dX1_readExtras_118
                    · skip
                      have hb559 : ∀ k, Rc gT (Crun gs (IcalledH ym yc yw :: k)) (Cbad (V520 1 3).toInt) := fun k => Rc.go1 (hr506 k) ((vw_4 (rl512.tok.1.trans h524) (by omega)).trans (fl_eq rl512.tok.2.2 k527))
                      refine lv_if_ne (tgt := 119) hx hb dX1_readExtras_114 (by decide) (fun c560 => ?_) (fun c560 => ?_)
                      · skip
                        have f561 : z514.toInt ≠ 0 := b_neq rfl (by decide) c560
                        exfalso; first | omega | ((try (have i_t517 := Imp.go t517 (imp_a (rgz514.1) (rgz514.2) (f561)))); (try (have i_t437 := Imp.go t437 (imp_a (rgz434.1) (rgz434.2) (f455)))); omega) | ((try (have i_t518 := Imp.go t518 (by omega))); (try (have i_t517 := Imp.go t517 (by omega))); (try (have i_t438 := Imp.go t438 (by omega))); (try (have i_t437 := Imp.go t437 (by omega))); first | omega | ((try (have i_t437 := Imp.go t437 (by omega))); (try (have i_t438 := Imp.go t438 (by omega))); (try (have i_t517 := Imp.go t517 (by omega))); (try (have i_t518 := Imp.go t518 (by omega))); omega))
                      · skip
                        have f562 : z514.toInt = 0 := b_eq rfl (by decide) c560
                        refine lv_iconst (v := 0) hx hb dX1_readExtras_117 (by decide) ?_
                        have rw563 : ROWL b L L521 := (fun k hk => ((axL521 44 k rfl).trans ((axL499 44 k rfl).trans ((axL489 44 k rfl).trans ((axL441 44 k rfl).trans ((axL428 44 k rfl).trans ((t281 k hk).trans rfl)))))))
                        exact W.zret (v := 0) hx hb hr rfl (fun t ht hW => ⟨⟨0, (V520, L521), rfl, ⟨hMV520, agV520, alL521, (by decide), (Or.inr ⟨rfl, hb559⟩), rw563⟩, by rw [ht]; exact hP, va_K.moved hW.alike hK, hD⟩, hS.F ht⟩) hS.2.2 dX1_readExtras_118
                  · skip
                    have f564 : z494.toInt = 0 := b_eq rfl (by decide) c507
                    exfalso; first | omega | ((try (have i_t438 := Imp.go t438 (by omega))); (try (have i_t437 := Imp.go t437 (by omega))); (try (have i_t437 := Imp.go t437 (by omega))); (try (have i_t438 := Imp.go t438 (by omega))); omega)
                · skip
                  have hb565 : ∀ k, Rc gT (Crun gs (IcalledH ym yc yw :: k)) (Cbad (V498 1 3).toInt) := fun k => Rc.go1 (hr476 k) (wS_b h502)
                  refine lv_if_ne (tgt := 99) hx hb dX1_readExtras_94 (by decide) (fun c566 => ?_) (fun c566 => ?_)
                  · skip
                    have f567 : z494.toInt ≠ 0 := b_neq rfl (by decide) c566
                    exfalso; first | omega | ((try (have i_t438 := Imp.go t438 (by omega))); (try (have i_t437 := Imp.go t437 (by omega))); (try (have i_t437 := Imp.go t437 (by omega))); (try (have i_t438 := Imp.go t438 (by omega))); omega)
                  · skip
                    have f568 : z494.toInt = 0 := b_eq rfl (by decide) c566
                    refine lv_iconst (v := 0) hx hb dX1_readExtras_97 (by decide) ?_
                    have rw569 : ROWL b L L499 := (fun k hk => ((axL499 44 k rfl).trans ((axL489 44 k rfl).trans ((axL441 44 k rfl).trans ((axL428 44 k rfl).trans ((t281 k hk).trans rfl))))))
                    exact W.zret (v := 0) hx hb hr rfl (fun t ht hW => ⟨⟨0, (V498, L499), rfl, ⟨hMV498, agV498, alL499, (by decide), (Or.inr ⟨rfl, hb565⟩), rw569⟩, by rw [ht]; exact hP, va_K.moved hW.alike hK, hD⟩, hS.F ht⟩) hS.2.2 dX1_readExtras_98
            · skip
              have f570 : z434.toInt = 0 := b_eq rfl (by decide) c454
              exfalso; first | exact om_495ee03a60ae q443 f570 | first | omega | ((try (have i_t438 := Imp.go t438 (by omega))); (try (have i_t437 := Imp.go t437 (by omega))); (try (have i_t437 := Imp.go t437 (by omega))); (try (have i_t438 := Imp.go t438 (by omega))); omega)
          · skip
            have hb571 : ∀ k, Rc gT (Crun gs (IcalledH ym yc yw :: k)) (Cbad (V440 1 3).toInt) := fun k => Rc.go1 (hr414 k) ((vr_1 (fun h9 => h444 (rl431.tok.1.symm.trans h9))).trans (fl_eq rl431.tok.2.2 k447))
            refine lv_if_ne (tgt := 62) hx hb dX1_readExtras_57 (by decide) (fun c572 => ?_) (fun c572 => ?_)
            · skip
              have f573 : z434.toInt ≠ 0 := b_neq rfl (by decide) c572
              exfalso; first | exact om_fb320d7600b7 rgz434.1 q443 f573 | first | omega | ((try (have i_t438 := Imp.go t438 (by omega))); (try (have i_t437 := Imp.go t437 (by omega))); (try (have i_t437 := Imp.go t437 (by omega))); (try (have i_t438 := Imp.go t438 (by omega))); omega)
            · skip
              have f574 : z434.toInt = 0 := b_eq rfl (by decide) c572
              refine lv_iconst (v := 0) hx hb dX1_readExtras_60 (by decide) ?_
              have rw575 : ROWL b L L441 := (fun k hk => ((axL441 44 k rfl).trans ((axL428 44 k rfl).trans ((t281 k hk).trans rfl))))
              exact W.zret (v := 0) hx hb hr rfl (fun t ht hW => ⟨⟨0, (V440, L441), rfl, ⟨hMV440, agV440, alL441, (by decide), (Or.inr ⟨rfl, hb571⟩), rw575⟩, by rw [ht]; exact hP, va_K.moved hW.alike hK, hD⟩, hS.F ht⟩) hS.2.2 dX1_readExtras_61
          · skip
            have hb576 : ∀ k, Rc gT (Crun gs (IcalledH ym yc yw :: k)) (Cbad (V440 1 3).toInt) := fun k => Rc.go1 (hr414 k) ((vr_4 (rl431.tok.1.trans h444) (by omega)).trans (fl_eq rl431.tok.2.2 k447))
            refine lv_if_ne (tgt := 62) hx hb dX1_readExtras_57 (by decide) (fun c577 => ?_) (fun c577 => ?_)
            · skip
              have f578 : z434.toInt ≠ 0 := b_neq rfl (by decide) c577
              exfalso; first | omega | ((try (have i_t438 := Imp.go t438 (by omega))); (try (have i_t437 := Imp.go t437 (by omega))); (try (have i_t437 := Imp.go t437 (by omega))); (try (have i_t438 := Imp.go t438 (by omega))); omega)
            · skip
              have f579 : z434.toInt = 0 := b_eq rfl (by decide) c577
              refine lv_iconst (v := 0) hx hb dX1_readExtras_60 (by decide) ?_
              have rw580 : ROWL b L L441 := (fun k hk => ((axL441 44 k rfl).trans ((axL428 44 k rfl).trans ((t281 k hk).trans rfl))))
              exact W.zret (v := 0) hx hb hr rfl (fun t ht hW => ⟨⟨0, (V440, L441), rfl, ⟨hMV440, agV440, alL441, (by decide), (Or.inr ⟨rfl, hb576⟩), rw580⟩, by rw [ht]; exact hP, va_K.moved hW.alike hK, hD⟩, hS.F ht⟩) hS.2.2 dX1_readExtras_61
      · skip
        have f581 : z277.toInt = 0 := b_eq rfl (by decide) c292
        exfalso; omega
    · skip
      have hb582 : ∀ k, Rc gT (Crun gs (IcalledH ym yc yw :: k)) (Cbad (V282 1 3).toInt) := fun k => Rc.go1 (hr276 k) (wh_b h286)
      refine lv_if_ne (tgt := 22) hx hb dX1_readExtras_17 (by decide) (fun c583 => ?_) (fun c583 => ?_)
      · skip
        have f584 : z277.toInt ≠ 0 := b_neq rfl (by decide) c583
        exfalso; omega
      · skip
        have f585 : z277.toInt = 0 := b_eq rfl (by decide) c583
        refine lv_iconst (v := 0) hx hb dX1_readExtras_20 (by decide) ?_
        have rw586 : ROWL b L L283 := (fun k hk => ((t281 k hk).trans rfl))
        exact W.zret (v := 0) hx hb hr rfl (fun t ht hW => ⟨⟨0, (V282, L283), rfl, ⟨hMV282, agV282, alL283, (by decide), (Or.inr ⟨rfl, hb582⟩), rw586⟩, by rw [ht]; exact hP, va_K.moved hW.alike hK, hD⟩, hS.F ht⟩) hS.2.2 dX1_readExtras_21
abbrev r_x_readType3 : Room := { frames := 3, cells := 0, slots := 0, locals := 65 }
abbrev q_x_readType3 (D : va_G) (ks : KS) (ad : Nat → Nat) (kk : Nat → ClassId) (V : Vf) (L : Lf) (Z : XZ) (b : Nat) (gT : Tk) (gs : St) (A : Nat → Prop) : Array Value → State → Outcome → State → Prop := va_Qi (fun (r : Int32) (u : Vf × Lf) => rgd bX u.1 ∧ agr [(1, 3), (1, 6), (1, 7), (6, 8), (6, 9), (6, 10)] [43, 44, 45] V u.1 ∧ agL [1, 6, 44] L u.2 ∧ (0 ≤ r.toInt ∧ r.toInt ≤ 1) ∧ (Rd gT gs (fun k => Istmt :: k) (fun k => Istmt :: k) r.toInt (u.1 1 3).toInt (fun s9 => RelC u.1 u.2 b gT s9 ∧ gs.1 0 + 1 ≤ s9.1 0 ∧ CNo u.1 b s9 ∧ CEo u.1 b s9)) ∧ (ROWL b L u.2)) (fun u t => gq D A (xw ad kk u.1 u.2 Z) (xty kk Z) t) A
set_option maxHeartbeats 4000000 in
set_option maxRecDepth 100000 in
theorem x_readType3 (l : Launch) (D : va_G) (ks : KS) (sz : Nat) (ad : Nat → Nat) (kk : Nat → ClassId) (V : Vf) (L : Lf) (Z : XZ) (b : Nat) (gT : Tk) (gs : St) (hMV : rgd bX V) (hb2 : b < 2) (rbk : (V 1 1).toInt = (b : Int)) (own : (V 1 2).toInt = -1) (rel : RelC V L b gT gs) (cno : CNo V b gs) (ceo : CEo V b gs) (kd9 : (V 6 9).toInt = 128)  : Met l yX1_readType (Cond.code yX1_readType cX1_readType 4 (some .boolean) :: GW) r_x_readType3 (va_Pc [.ref (ad 1)] (gp D ks (xw ad kk V L Z) (xty kk Z) sz)) (q_x_readType3 D ks ad kk V L Z  b gT gs (va_A (xw ad kk V L Z) sz)) 0 0 (va_A (xw ad kk V L Z) sz) := by
  refine g_met (q_x_readType3 D ks ad kk V L Z  b gT gs) (by decide) (Nat.le_of_ble_eq_true rfl) ?_
  intro p e s m below meth c A ls H locs hx hb hr hml hown hg hlocks hin hnw hgk hP hK hD hS hA hl
  have hown : s.vm.findClass RX1 = some m.cls := hown
  have hl : lv_has ls 4 [(0, .ref (ad 1))] := hl
  have hP : va_P D vwCl (xw ad kk V L Z) H := hP
  have hD : va_D A (xw ad kk V L Z) := hD
  have hK : va_K D vwCl (xty kk Z) s := hK
  have agV : agr [(1, 3), (1, 6), (1, 7), (6, 8), (6, 9), (6, 10)] [43, 44, 45] V V := agr.rf
  have alL : agL [1, 6, 44] L L := agL.rf
  have r1 : (-1) ≤ ((V 1 1)).toInt ∧ ((V 1 1)).toInt ≤ 1 := hMV 1 1
  have r2 : (-1) ≤ ((V 1 2)).toInt ∧ ((V 1 2)).toInt ≤ 47 := hMV 1 2
  have ln0 := (rel.2.2.1 0 (by decide)).1
  have r3 : xcap (5 * b + 0) = 24 := xcap_0
  refine lv_aload_n hx hb dX1_readType_0 rfl (lv_at hl 0 rfl) ?_
  refine va_get (D := D) (ci := 1) (v := rfN ad 38 (V 1 1)) (fs := (xfReader ad V L Z)) (C := RX1) (T := TX1) (N := 9) hx hb hg inX1 hown hK hP 1 xgReader rfl 1 (by decide) (hg _ w305) (fun _ h9 => h9) rfl dX1_readType_1 ?_
  refine g_topv (v := .ref (ad (38 + b))) (rfN_r (by omega)) ?_
  refine va_getN (D := D) (ci := 0) (v := .ref (ad (40 + (5 * b + 0)))) (fs := (xfBook ad V b)) (C := RX0) (T := TX0) (N := 13) hx hb hg inX0 hown hK hP (38 + b) (xgBook hb2) rfl 0 (by decide) (hnw.use 594 n594 rfl) (fun _ h9 => h9) rfl dX1_readType_4 ?_
  have il4 : (5 * b + 0) < 10 := by (first | exact om_99c4753a5d76 hb2 | omega)
  refine gA_int (gA_runV (As := []) (rest := []) (ci := 6) (q0 := (40 + (5 * b + 0))) hx hb hml hown hg hP hD hK hS hA hnw hgk (x_isFull2 l D ks H.size ad kk V L Z ((5 * b + 0)) hMV (show (5 * b + 0) < 10 from by (first | exact om_99c4753a5d76 hb2 | omega))) w863 w864 w865 w168 w866 rfl (xgNames il4) hdV_yX6_isFull ⟨Nat.le_of_ble_eq_true rfl, Nat.le_of_ble_eq_true rfl⟩ rfl hl.1 rfl (Nat.le_of_ble_eq_true rfl) dX1_readType_7 ⟨Nat.le_of_ble_eq_true rfl, Nat.le_of_ble_eq_true rfl⟩) hP hD hK hS hA (fun z5 u6 H locs w7 hP hD hK hS => ?_)
  obtain ⟨rgz5, t8, t9⟩ := w7
  have rgz5 : 0 ≤ z5.toInt ∧ z5.toInt ≤ 1 := rgz5
  have t8 : Imp (z5.toInt = 0) ((V 43 (5 * b + 0)).toInt < ((xcap (5 * b + 0) : Nat) : Int)) := t8
  have t9 : Imp (z5.toInt = 1) (((xcap (5 * b + 0) : Nat) : Int) ≤ (V 43 (5 * b + 0)).toInt) := t9
  refine lv_if_eq (tgt := 19) hx hb dX1_readType_10 (by decide) (fun c10 => ?_) (fun c10 => ?_)
  · skip
    have f11 : z5.toInt = 0 := b_eq rfl (by decide) c10
    refine lv_aload_n hx hb dX1_readType_19 rfl (lv_at hl 0 rfl) ?_
    refine va_get (D := D) (ci := 1) (v := .ref (ad 6)) (fs := (xfReader ad V L Z)) (C := RX1) (T := TX1) (N := 9) hx hb hg inX1 hown hK hP 1 xgReader rfl 0 (by decide) (hg _ w304) (fun _ h9 => h9) rfl dX1_readType_20 ?_
    have hr12 : ∀ k, Rc gT (Crun gs (Istmt :: k)) (Crun gs (Istmt :: k)) := fun k => Rc.rf
    have kd13 : gT.1 (gs.1 0) = ((V 6 9)).toInt := RelC.kd rel
    have hr14 : ∀ k, Rc gT (Crun gs (Istmt :: k)) (Crun (nx gs 1) (InewType :: k)) := fun k => Rc.go1 (hr12 k) (st_128 (kd13.trans kd9) (by first | omega | ((try (have i_t9 := Imp.go t9 (by omega))); (try (have i_t8 := Imp.go t8 (by omega))); (try (have i_t8 := Imp.go t8 (by omega))); (try (have i_t9 := Imp.go t9 (by omega))); omega)))
    have l815 := RelC.l8 rel
    have r16 : 0 ≤ ((V 6 8)).toInt ∧ ((V 6 8)).toInt ≤ 4000 := hMV 6 8
    have r17 : 0 ≤ ((V 6 7)).toInt ∧ ((V 6 7)).toInt ≤ 4000 := hMV 6 7
    have lk18 := RelC.lk rel (show (V 6 9).toInt ≠ 0 from by (first | exact om_eb2cbbd63ad9 kd9 | omega))
    refine gA_void (gA_runV (As := []) (rest := []) (ci := 9) (q0 := 6) hx hb hml hown hg hP hD hK hS hA hnw hgk (x_next2 l D ks H.size ad kk V L Z  hMV (show (V 6 8).toInt ≤ (V 6 7).toInt from by first | exact om_f4906d00fa52 l815 | first | omega | ((try (have i_t9 := Imp.go t9 (by omega))); (try (have i_t8 := Imp.go t8 (by omega))); (try (have i_t8 := Imp.go t8 (by omega))); (try (have i_t9 := Imp.go t9 (by omega))); omega))) w871 w852 w853 w157 w854 rfl xgTape hdV_yX9_next ⟨Nat.le_of_ble_eq_true rfl, Nat.le_of_ble_eq_true rfl⟩ rfl hl.1 rfl (Nat.le_of_ble_eq_true rfl) dX1_readType_23 ⟨Nat.le_of_ble_eq_true rfl, Nat.le_of_ble_eq_true rfl⟩) hP hD hK hS hA (fun u20 H locs w21 hP hD hK hS => ?_)
    obtain ⟨V24, L25⟩ := u20
    obtain ⟨hMV24, ajV24, axL25, t22, t23⟩ := w21
    have alL25 : agL [1, 6, 44] L L25 := agL.tr alL axL25 (by decide)
    have hP : va_P D vwCl (xw ad kk V24 L25 Z) H := hP
    have hD : va_D A (xw ad kk V24 L25 Z) := hD
    have hMV24 : rgd bX V24 := hMV24
    have ajV24 : agr [(6, 8), (6, 9), (6, 10)] [] V V24 := ajV24
    have agV24 : agr [(1, 3), (1, 6), (1, 7), (6, 8), (6, 9), (6, 10)] [43, 44, 45] V V24 := agV.tr ajV24 (by decide) (by decide)
    have t22 : (V24 6 8).toInt ≤ (V24 6 7).toInt := t22
    have t23 : CUR V24 L25 (Int32.toNatClampNeg (V 6 8)) := t23
    have r26 : 0 ≤ ((V24 6 8)).toInt ∧ ((V24 6 8)).toInt ≤ 4000 := hMV24 6 8
    have pq27 : (V24 6 7).toInt = ((V 6 7)).toInt := congrArg Int32.toInt (ajV24 6 7 rfl)
    have rl28 : RelC V24 L25 b gT (nx gs 1) := RelC.nx1 rel ajV24 (by decide) axL25 (by decide) (by rw [← lk18]; exact t23) (ajV24 1 3 rfl)
    refine lv_aload_n hx hb dX1_readType_26 rfl (lv_at hl 0 rfl) ?_
    have pq29 : (V24 1 1).toInt = ((V 1 1)).toInt := congrArg Int32.toInt (ajV24 1 1 rfl)
    refine gA_int (gA_runV (As := []) (rest := []) (ci := 1) (q0 := 1) hx hb hml hown hg hP hD hK hS hA hnw hgk (x_takeNewName3 l D ks H.size ad kk V24 L25 Z (b) (gT) ((nx gs 1)) hMV24 (show b < 2 from by first | exact om_f940a4667dd6 hb2 | first | omega | ((try (have i_t9 := Imp.go t9 (by omega))); (try (have i_t8 := Imp.go t8 (by omega))); (try (have i_t8 := Imp.go t8 (by omega))); (try (have i_t9 := Imp.go t9 (by omega))); omega)) (show (V24 1 1).toInt = (b : Int) from by first | exact om_adf531c77a0d rbk pq29 | first | omega | ((try (have i_t9 := Imp.go t9 (by omega))); (try (have i_t8 := Imp.go t8 (by omega))); (try (have i_t8 := Imp.go t8 (by omega))); (try (have i_t9 := Imp.go t9 (by omega))); omega)) rl28) w872 w874 w7 w162 w875 rfl xgReader hdV_yX1_takeNewName ⟨Nat.le_of_ble_eq_true rfl, Nat.le_of_ble_eq_true rfl⟩ rfl hl.1 rfl (Nat.le_of_ble_eq_true rfl) dX1_readType_27 ⟨Nat.le_of_ble_eq_true rfl, Nat.le_of_ble_eq_true rfl⟩) hP hD hK hS hA (fun z30 u31 H locs w32 hP hD hK hS => ?_)
    obtain ⟨V34, L35⟩ := u31
    obtain ⟨hMV34, ajV34, axL35, rgz30, t33⟩ := w32
    have alL35 : agL [1, 6, 44] L L35 := agL.tr alL25 axL35 (by decide)
    have hP : va_P D vwCl (xw ad kk V34 L35 Z) H := hP
    have hD : va_D A (xw ad kk V34 L35 Z) := hD
    have hMV34 : rgd bX V34 := hMV34
    have ajV34 : agr [(1, 3), (6, 8), (6, 9), (6, 10)] [] V24 V34 := ajV34
    have agV34 : agr [(1, 3), (1, 6), (1, 7), (6, 8), (6, 9), (6, 10)] [43, 44, 45] V V34 := agV24.tr ajV34 (by decide) (by decide)
    have rgz30 : 0 ≤ z30.toInt ∧ z30.toInt ≤ 1 := rgz30
    have t33 : KcW (newN gT (nx gs 1)) z30.toInt (V34 1 3).toInt (fun w9 => RelC V34 L35 b gT (nx (nx gs 1) 1) ∧ L35 1 5 = w9) := t33
    rcases t33 with ⟨q36, wx37, h38, rl39, hw40⟩ | ⟨q36, h38⟩
    · skip
      have hr41 : ∀ k, Rc gT (Crun gs (Istmt :: k)) (Crun (nx (nx gs 1) 1) (Ilike wx37 :: k)) := fun k => Rc.go1 (hr14 k) (nt_y h38)
      refine lv_if_ne (tgt := 35) hx hb dX1_readType_30 (by decide) (fun c42 => ?_) (fun c42 => ?_)
      · skip
        have f43 : z30.toInt ≠ 0 := b_neq rfl (by decide) c42
        refine lv_aload_n hx hb dX1_readType_35 rfl (lv_at hl 0 rfl) ?_
        refine va_get (D := D) (ci := 1) (v := .long (L35 1 5)) (fs := (xfReader ad V34 L35 Z)) (C := RX1) (T := TX1) (N := 9) hx hb hg inX1 hown hK hP 1 xgReader rfl 5 (by decide) (hg _ w309) (fun _ h9 => h9) rfl dX1_readType_36 ?_
        refine lv_lstore_n (lv' := [(1, .long (L35 1 5)), (0, .ref (ad 1))]) hx hb dX1_readType_39 rfl hl (by decide) rfl (fun ls hl => ?_)
        refine lv_aload_n hx hb dX1_readType_40 rfl (lv_at hl 1 rfl) ?_
        refine lv_iconst (v := 0) hx hb dX1_readType_41 (by decide) ?_
        refine va_put (D := D) (ci := 1) (v := .int 0) (ty := tyX1 7) (fs := (xfReader ad V34 L35 Z)) (C := RX1) (T := TX1) (N := 9) hx hb hg inX1 tyX1 tyX1_ok nmX1 hown hK hP hD hS 1 xgReader rfl 7 (by decide) (hg _ w311) (fun _ h9 => h9) rfl (tyX1_ok 7 (by decide)) rfl rfl (Nat.le_of_ble_eq_true rfl) dX1_readType_42 (fun H locs hP hD hS => ?_)
        obtain ⟨V44, hV44⟩ : ∃ z, z = up2 V34 1 7 0 := ⟨_, rfl⟩
        have ew45 : (xw ad kk V34 L35 Z).set 1 ((ad 1), .inr (1, (xfReader ad V34 L35 Z).set 7 (.int 0))) = xw ad kk V44 L35 Z := by rw [hV44]; exact xw_ss (by decide) rfl (xb_si (by decide))
        have hP : va_P D vwCl (xw ad kk V44 L35 Z) H := by rw [← ew45]; exact hP
        have hD : va_D A (xw ad kk V44 L35 Z) := by rw [← ew45]; exact hD
        have hMV44 : rgd bX V44 := hMV34.put hV44 (i_full _)
        have agV44 : agr [(1, 3), (1, 6), (1, 7), (6, 8), (6, 9), (6, 10)] [43, 44, 45] V V44 := agV34.up hV44 rfl
        refine lv_aload_n hx hb dX1_readType_45 rfl (lv_at hl 1 rfl) ?_
        refine va_get (D := D) (ci := 1) (v := .ref (ad 6)) (fs := (xfReader ad V44 L35 Z)) (C := RX1) (T := TX1) (N := 9) hx hb hg inX1 hown hK hP 1 xgReader rfl 0 (by decide) (hg _ w304) (fun _ h9 => h9) rfl dX1_readType_46 ?_
        refine va_getN (D := D) (ci := 9) (v := .int (V44 6 9)) (fs := (xfTape ad V44 L35 Z)) (C := RX9) (T := TX9) (N := 12) hx hb hg inX9 hown hK hP 6 xgTape rfl 9 (by decide) (hnw.use 262 n262 rfl) (fun _ h9 => h9) rfl dX1_readType_49 ?_
        refine g_top (v := (V34 6 9)) (up2_o hV44 (by decide)) ?_
        refine lv_sipush (v := 129) hx hb dX1_readType_52 (by decide) ?_
        refine lv_icmp_ne (tgt := 74) hx hb dX1_readType_55 (by decide) (fun c46 => ?_) (fun c46 => ?_)
        · skip
          have f47 : ((V34 6 9)).toInt ≠ 129 := b_neq rfl (by decide) c46
          refine lv_aload_n hx hb dX1_readType_74 rfl (lv_at hl 1 rfl) ?_
          refine lv_bipush (v := 59) hx hb dX1_readType_75 (by decide) ?_
          have rl48 : RelC V44 L35 b gT (nx (nx gs 1) 1) := RelC.ag rl39 (show agr [(1, 7)] [] V34 V44 from (agr.up agr.rf hV44 rfl)) (by decide) (show agL [] L35 L35 from agL.rf) (by decide)
          have kd49 : gT.1 ((nx (nx gs 1) 1).1 0) = ((V34 6 9)).toInt := (RelC.kd rl48).trans (congrArg Int32.toInt (up2_o hV44 (by decide)))
          have hr50 : ∀ k, Rc gT (Crun gs (Istmt :: k)) (Crun (nx (nx gs 1) 1) (Itake 59 :: IaddTy wx37 [] :: Istmt :: k)) := fun k => Rc.go1 (hr41 k) (like_n wx37 (fun h9 => f47 (kd49.symm.trans h9)))
          have r51 : Int32.toInt 59 = 59 := by decide
          refine gA_int (gA_runV (As := [.int 59]) (rest := []) (ci := 1) (q0 := 1) hx hb hml hown hg hP hD hK hS hA hnw hgk (x_take2 l D ks H.size ad kk V44 L35 Z 59 (((nx (nx gs 1) 1).1 0)) hMV44 (rl48).1 (rl48).2.1.1 (show 1 ≤ (Int32.toInt 59) from by first | exact om_de934181d724 r51 | first | omega | ((try (have i_t9 := Imp.go t9 (by omega))); (try (have i_t8 := Imp.go t8 (by omega))); (try (have i_t8 := Imp.go t8 (by omega))); (try (have i_t9 := Imp.go t9 (by omega))); omega))) w893 w895 w10 w162 w896 rfl xgReader hdV_yX1_take ⟨Nat.le_of_ble_eq_true rfl, Nat.le_of_ble_eq_true rfl⟩ rfl hl.1 rfl (Nat.le_of_ble_eq_true rfl) dX1_readType_77 ⟨Nat.le_of_ble_eq_true rfl, Nat.le_of_ble_eq_true rfl⟩) hP hD hK hS hA (fun z52 u53 H locs w54 hP hD hK hS => ?_)
          obtain ⟨V57, L58⟩ := u53
          obtain ⟨hMV57, ajV57, axL58, rgz52, t55, t56⟩ := w54
          have alL58 : agL [1, 6, 44] L L58 := agL.tr alL35 axL58 (by decide)
          have hP : va_P D vwCl (xw ad kk V57 L58 Z) H := hP
          have hD : va_D A (xw ad kk V57 L58 Z) := hD
          have hMV57 : rgd bX V57 := hMV57
          have ajV57 : agr [(1, 3), (6, 8), (6, 9), (6, 10)] [] V44 V57 := ajV57
          have agV57 : agr [(1, 3), (1, 6), (1, 7), (6, 8), (6, 9), (6, 10)] [43, 44, 45] V V57 := agV44.tr ajV57 (by decide) (by decide)
          have rgz52 : 0 ≤ z52.toInt ∧ z52.toInt ≤ 1 := rgz52
          have t55 : Imp (z52.toInt = 0) (1 ≤ (V57 1 3).toInt) := t55
          have t56 : (z52.toInt = 1 ∧ (V44 12 ((nx (nx gs 1) 1).1 0)).toInt = (Int32.toInt 59) ∧ CUR V57 L58 (((nx (nx gs 1) 1).1 0) + 1) ∧ V57 1 3 = V44 1 3) ∨ (z52.toInt = 0 ∧ (V44 12 ((nx (nx gs 1) 1).1 0)).toInt ≠ (Int32.toInt 59) ∧ (V57 1 3).toInt = 1 + 16 * (V44 13 ((nx (nx gs 1) 1).1 0)).toInt) := t56
          rcases t56 with ⟨q59, h60, k61, k62⟩ | ⟨q59, h60, k61⟩
          · skip
            have rl63 : RelC V57 L58 b gT (nx (nx (nx gs 1) 1) 1) := RelC.nx1 rl48 ajV57 (by decide) axL58 (by decide) k61 k62
            have hr64 : ∀ k, Rc gT (Crun gs (Istmt :: k)) (Crun (nx (nx (nx gs 1) 1) 1) (IaddTy wx37 [] :: Istmt :: k)) := fun k => Rc.go1 (hr50 k) (tk_y (rl48.tok.1.trans (h60.trans (by decide))))
            refine lv_if_ne (tgt := 85) hx hb dX1_readType_80 (by decide) (fun c65 => ?_) (fun c65 => ?_)
            · skip
              have f66 : z52.toInt ≠ 0 := b_neq rfl (by decide) c65
              refine lv_aload_n hx hb dX1_readType_85 rfl (lv_at hl 1 rfl) ?_
              refine va_get (D := D) (ci := 1) (v := rfN ad 38 (V57 1 1)) (fs := (xfReader ad V57 L58 Z)) (C := RX1) (T := TX1) (N := 9) hx hb hg inX1 hown hK hP 1 xgReader rfl 1 (by decide) (hg _ w305) (fun _ h9 => h9) rfl dX1_readType_86 ?_
              have pq67 : (V57 1 1).toInt = ((V 1 1)).toInt := congrArg Int32.toInt ((ajV57 1 1 rfl).trans ((up2_k hV44 (by decide)).trans ((ajV34 1 1 rfl).trans (ajV24 1 1 rfl))))
              refine g_topv (v := .ref (ad (38 + b))) (rfN_r (by first | omega | ((try (have i_t55 := Imp.go t55 (by omega))); (try (have i_t9 := Imp.go t9 (by omega))); (try (have i_t8 := Imp.go t8 (by omega))); (try (have i_t8 := Imp.go t8 (by omega))); (try (have i_t9 := Imp.go t9 (by omega))); (try (have i_t55 := Imp.go t55 (by omega))); omega))) ?_
              refine va_getN (D := D) (ci := 0) (v := .ref (ad (40 + (5 * b + 0)))) (fs := (xfBook ad V57 b)) (C := RX0) (T := TX0) (N := 13) hx hb hg inX0 hown hK hP (38 + b) (xgBook hb2) rfl 0 (by decide) (hnw.use 594 n594 rfl) (fun _ h9 => h9) rfl dX1_readType_89 ?_
              refine lv_lload_n hx hb dX1_readType_92 rfl (lv_at hl 0 rfl) ?_
              have ad1 := (rl63.2.2.1 0 (by decide)).1
              have ad2 := congrArg List.length (((keepS.tr (keepS.tr (keepS.tr (keepS.rf : keepS gs 0 gs) (keepS.n1 1)) (keepS.n1 1)) (keepS.n1 1))).2.2.1 0 (by decide))
              have ad3 := ln0
              refine gA_int (gA_runV (As := [.long (L35 1 5)]) (rest := []) (ci := 6) (q0 := (40 + (5 * b + 0))) hx hb hml hown hg hP hD hK hS hA hnw hgk (x_add2 l D ks H.size ad kk V57 L58 Z (L35 1 5) ((5 * b + 0)) hMV57 (show (5 * b + 0) < 10 from by first | exact om_99c4753a5d76 hb2 | first | omega | ((try (have i_t55 := Imp.go t55 (by omega))); (try (have i_t9 := Imp.go t9 (by omega))); (try (have i_t8 := Imp.go t8 (by omega))); (try (have i_t8 := Imp.go t8 (by omega))); (try (have i_t9 := Imp.go t9 (by omega))); (try (have i_t55 := Imp.go t55 (by omega))); omega))) w897 w898 w899 w168 w900 rfl (xgNames il4) hdV_yX6_add ⟨Nat.le_of_ble_eq_true rfl, Nat.le_of_ble_eq_true rfl⟩ rfl hl.1 rfl (Nat.le_of_ble_eq_true rfl) dX1_readType_93 ⟨Nat.le_of_ble_eq_true rfl, Nat.le_of_ble_eq_true rfl⟩) hP hD hK hS hA (fun z68 u69 H locs w70 hP hD hK hS => ?_)
              obtain ⟨V76, L77⟩ := u69
              obtain ⟨hMV76, ajV76, axL77, fyV76, rgz68, t71, t72, t73, t74, t75⟩ := w70
              have alL77 : agL [1, 6, 44] L L77 := agL.tr alL58 axL77 (by decide)
              have hP : va_P D vwCl (xw ad kk V76 L77 Z) H := hP
              have hD : va_D A (xw ad kk V76 L77 Z) := hD
              have hMV76 : rgd bX V76 := hMV76
              have ajV76 : agr [] [43, 44] V57 V76 := ajV76
              have agV76 : agr [(1, 3), (1, 6), (1, 7), (6, 8), (6, 9), (6, 10)] [43, 44, 45] V V76 := agV57.tr ajV76 (by decide) (by decide)
              have rgz68 : (-1) ≤ z68.toInt ∧ z68.toInt ≤ 23 := rgz68
              have t71 : z68.toInt < (V76 43 (5 * b + 0)).toInt := t71
              have t72 : Imp ((V57 43 (5 * b + 0)).toInt < ((xcap (5 * b + 0) : Nat) : Int)) (z68.toInt = (V57 43 (5 * b + 0)).toInt ∧ (V76 43 (5 * b + 0)).toInt = (V57 43 (5 * b + 0)).toInt + 1) := t72
              have t73 : Imp (((xcap (5 * b + 0) : Nat) : Int) ≤ (V57 43 (5 * b + 0)).toInt) (z68.toInt = -1 ∧ (V76 43 (5 * b + 0)).toInt = (V57 43 (5 * b + 0)).toInt) := t73
              have t74 : ∀ n : Nat, ¬ n = (5 * b + 0) → V76 43 n = V57 43 n := t74
              have t75 : (z68.toInt = -1 ∧ L77 = L58) ∨ (0 ≤ z68.toInt ∧ L77 = upL L58 44 (24 * (5 * b + 0) + Int32.toNatClampNeg (V57 43 (5 * b + 0))) (L35 1 5)) := t75
              have ig80 := Imp.go t72 (by first | omega | ((try (have i_t55 := Imp.go t55 (by omega))); (try (have i_t9 := Imp.go t9 (by omega))); (try (have i_t8 := Imp.go t8 (by omega))); (try (have i_t8 := Imp.go t8 (by omega))); (try (have i_t9 := Imp.go t9 (by omega))); (try (have i_t55 := Imp.go t55 (by omega))); omega))
              rcases t75 with ⟨q78, h79⟩ | ⟨q78, h79⟩
              · exfalso; omega
              · skip
                have rl81 : RelC V76 L77 b gT (sA (nx (nx (nx gs 1) 1) 1) 0 wx37) := RelC.add rl63 (by decide) ajV76 (by decide) t74 ig80.2 (by rw [← hw40]; exact h79) (sz24 hMV57) (by (first | exact om_760006048021 rgz68.2 ig80.1 | omega))
                have rl82 : RelC V76 L77 b gT (tyS (nx (nx (nx gs 1) 1) 1) wx37 []) := RelC.nu rl81 tyS_5 rfl
                have hr83 : ∀ k, Rc gT (Crun gs (Istmt :: k)) (Crun (tyS (nx (nx (nx gs 1) 1) 1) wx37 []) (Istmt :: k)) := fun k => Rc.go1 (hr64 k) (m_addTy wx37 [])
                refine lv_istore_n (lv' := [(3, .int z68), (1, .long (L35 1 5)), (0, .ref (ad 1))]) hx hb dX1_readType_96 rfl hl (by decide) rfl (fun ls hl => ?_)
                refine lv_iload_n hx hb dX1_readType_97 rfl (lv_at hl 0 rfl) ?_
                refine lv_iconst (v := (-1)) hx hb dX1_readType_98 (by decide) ?_
                refine lv_icmp_eq (tgt := 119) hx hb dX1_readType_99 (by decide) (fun c84 => ?_) (fun c84 => ?_)
                · skip
                  have f85 : z68.toInt = (-1) := b_eq rfl (by decide) c84
                  exfalso; first | exact om_336fd5583133 q78 f85 | first | omega | ((try (have i_t8 := Imp.go t8 (f11))); omega) | ((try (have i_t73 := Imp.go t73 (by omega))); (try (have i_t72 := Imp.go t72 (by omega))); (try (have i_t55 := Imp.go t55 (by omega))); (try (have i_t9 := Imp.go t9 (by omega))); first | omega | ((try (have i_t8 := Imp.go t8 (by omega))); (try (have i_t8 := Imp.go t8 (by omega))); (try (have i_t9 := Imp.go t9 (by omega))); (try (have i_t55 := Imp.go t55 (by omega))); (try (have i_t72 := Imp.go t72 (by omega))); (try (have i_t73 := Imp.go t73 (by omega))); omega))
                · skip
                  have f86 : z68.toInt ≠ (-1) := b_neq rfl (by decide) c84
                  refine lv_aload_n hx hb dX1_readType_102 rfl (lv_at hl 2 rfl) ?_
                  refine va_get (D := D) (ci := 1) (v := rfN ad 38 (V76 1 1)) (fs := (xfReader ad V76 L77 Z)) (C := RX1) (T := TX1) (N := 9) hx hb hg inX1 hown hK hP 1 xgReader rfl 1 (by decide) (hg _ w305) (fun _ h9 => h9) rfl dX1_readType_103 ?_
                  have pq87 : (V76 1 1).toInt = ((V 1 1)).toInt := congrArg Int32.toInt ((ajV76 1 1 rfl).trans ((ajV57 1 1 rfl).trans ((up2_k hV44 (by decide)).trans ((ajV34 1 1 rfl).trans (ajV24 1 1 rfl)))))
                  refine g_topv (v := .ref (ad (38 + b))) (rfN_r (by first | omega | ((try (have i_t8 := Imp.go t8 (f11))); omega) | ((try (have i_t73 := Imp.go t73 (by omega))); (try (have i_t72 := Imp.go t72 (by omega))); (try (have i_t55 := Imp.go t55 (by omega))); (try (have i_t9 := Imp.go t9 (by omega))); first | omega | ((try (have i_t8 := Imp.go t8 (by omega))); (try (have i_t8 := Imp.go t8 (by omega))); (try (have i_t9 := Imp.go t9 (by omega))); (try (have i_t55 := Imp.go t55 (by omega))); (try (have i_t72 := Imp.go t72 (by omega))); (try (have i_t73 := Imp.go t73 (by omega))); omega)))) ?_
                  refine va_getN (D := D) (ci := 0) (v := .ref (ad (60 + b))) (fs := (xfBook ad V76 b)) (C := RX0) (T := TX0) (N := 13) hx hb hg inX0 hown hK hP (38 + b) (xgBook hb2) rfl 5 (by decide) (hnw.use 609 n609 rfl) (fun _ h9 => h9) rfl dX1_readType_106 ?_
                  refine lv_iload_n hx hb dX1_readType_109 rfl (lv_at hl 0 rfl) ?_
                  refine lv_aload_n hx hb dX1_readType_110 rfl (lv_at hl 2 rfl) ?_
                  refine va_get (D := D) (ci := 1) (v := .int (V76 1 7)) (fs := (xfReader ad V76 L77 Z)) (C := RX1) (T := TX1) (N := 9) hx hb hg inX1 hown hK hP 1 xgReader rfl 7 (by decide) (hg _ w311) (fun _ h9 => h9) rfl dX1_readType_111 ?_
                  refine g_top (v := 0) ((ajV76 1 7 rfl).trans ((ajV57 1 7 rfl).trans (up2_s hV44))) ?_
                  refine lv_iconst (v := 1) hx hb dX1_readType_114 (by decide) ?_
                  refine lv_iload_n hx hb dX1_readType_115 rfl (lv_at hl 0 rfl) ?_
                  refine lv_ishl hx hb dX1_readType_116 ?_
                  refine lv_topi (fun z88 ez88 => ?_)
                  have hz88 : 0 ≤ z88.toInt ∧ z88.toInt < 16777216 := shl1 ez88 (by first | omega | ((try (have i_t8 := Imp.go t8 (f11))); omega) | ((try (have i_t73 := Imp.go t73 (by omega))); (try (have i_t72 := Imp.go t72 (by omega))); (try (have i_t55 := Imp.go t55 (by omega))); (try (have i_t9 := Imp.go t9 (by omega))); first | omega | ((try (have i_t8 := Imp.go t8 (by omega))); (try (have i_t8 := Imp.go t8 (by omega))); (try (have i_t9 := Imp.go t9 (by omega))); (try (have i_t55 := Imp.go t55 (by omega))); (try (have i_t72 := Imp.go t72 (by omega))); (try (have i_t73 := Imp.go t73 (by omega))); omega)))
                  refine lv_ior hx hb dX1_readType_117 ?_
                  refine lv_topi (fun z89 ez89 => ?_)
                  have hz89 : 0 ≤ z89.toInt ∧ z89.toInt < 16777216 := or24 ez89 (by decide) (by first | omega | ((try (have i_t8 := Imp.go t8 (f11))); omega) | ((try (have i_t73 := Imp.go t73 (by omega))); (try (have i_t72 := Imp.go t72 (by omega))); (try (have i_t55 := Imp.go t55 (by omega))); (try (have i_t9 := Imp.go t9 (by omega))); first | omega | ((try (have i_t8 := Imp.go t8 (by omega))); (try (have i_t8 := Imp.go t8 (by omega))); (try (have i_t9 := Imp.go t9 (by omega))); (try (have i_t55 := Imp.go t55 (by omega))); (try (have i_t72 := Imp.go t72 (by omega))); (try (have i_t73 := Imp.go t73 (by omega))); omega)))
                  have il90 : b < 2 := by first | exact om_f940a4667dd6 hb2 | first | omega | ((try (have i_t8 := Imp.go t8 (f11))); omega) | ((try (have i_t73 := Imp.go t73 (by omega))); (try (have i_t72 := Imp.go t72 (by omega))); (try (have i_t55 := Imp.go t55 (by omega))); (try (have i_t9 := Imp.go t9 (by omega))); first | omega | ((try (have i_t8 := Imp.go t8 (by omega))); (try (have i_t8 := Imp.go t8 (by omega))); (try (have i_t9 := Imp.go t9 (by omega))); (try (have i_t55 := Imp.go t55 (by omega))); (try (have i_t72 := Imp.go t72 (by omega))); (try (have i_t73 := Imp.go t73 (by omega))); omega))
                  refine va_iast (D := D) (i := z68) (x := z89) hx hb hK hP hD hS (60 + b) (53 + b) (xgtypeUnder il90) (xttypeUnder il90) (i_in (a := z68.toInt) rfl (by first | exact om_d6faf715ef82 rgz68.1 rgz68.2 f86 | first | omega | ((try (have i_t8 := Imp.go t8 (f11))); omega) | ((try (have i_t73 := Imp.go t73 (by omega))); (try (have i_t72 := Imp.go t72 (by omega))); (try (have i_t55 := Imp.go t55 (by omega))); (try (have i_t9 := Imp.go t9 (by omega))); first | omega | ((try (have i_t8 := Imp.go t8 (by omega))); (try (have i_t8 := Imp.go t8 (by omega))); (try (have i_t9 := Imp.go t9 (by omega))); (try (have i_t55 := Imp.go t55 (by omega))); (try (have i_t72 := Imp.go t72 (by omega))); (try (have i_t73 := Imp.go t73 (by omega))); omega)))) dX1_readType_118 (fun H locs hP hD hS => ?_)
                  have kc91 := i_clamp (x := z68) rfl (by first | exact om_e3b1d6ac9ce8 rgz68.1 f86 | first | omega | ((try (have i_t8 := Imp.go t8 (f11))); omega) | ((try (have i_t73 := Imp.go t73 (by omega))); (try (have i_t72 := Imp.go t72 (by omega))); (try (have i_t55 := Imp.go t55 (by omega))); (try (have i_t9 := Imp.go t9 (by omega))); first | omega | ((try (have i_t8 := Imp.go t8 (by omega))); (try (have i_t8 := Imp.go t8 (by omega))); (try (have i_t9 := Imp.go t9 (by omega))); (try (have i_t55 := Imp.go t55 (by omega))); (try (have i_t72 := Imp.go t72 (by omega))); (try (have i_t73 := Imp.go t73 (by omega))); omega)))
                  have kl92 : (Int32.toNatClampNeg z68) < 24 := by first | exact om_c7c513f8a5c3 rgz68.2 kc91 | first | omega | ((try (have i_t8 := Imp.go t8 (f11))); omega) | ((try (have i_t73 := Imp.go t73 (by omega))); (try (have i_t72 := Imp.go t72 (by omega))); (try (have i_t55 := Imp.go t55 (by omega))); (try (have i_t9 := Imp.go t9 (by omega))); first | omega | ((try (have i_t8 := Imp.go t8 (by omega))); (try (have i_t8 := Imp.go t8 (by omega))); (try (have i_t9 := Imp.go t9 (by omega))); (try (have i_t55 := Imp.go t55 (by omega))); (try (have i_t72 := Imp.go t72 (by omega))); (try (have i_t73 := Imp.go t73 (by omega))); omega))
                  obtain ⟨V93, hV93⟩ : ∃ z, z = up2 V76 45 (24 * b + (Int32.toNatClampNeg z68)) z89 := ⟨_, rfl⟩
                  have ew94 : (xw ad kk V76 L77 Z).set (60 + b) ((ad (60 + b)), .inl ((kk (60 + b)), 24, .inl (upd (fun q => if q < 24 then V76 45 (24 * b + q) else 0) (Int32.toNatClampNeg z68) z89))) = xw ad kk V93 L77 Z := by rw [hV93]; exact xptypeUnder il90 kl92
                  have hP : va_P D vwCl (xw ad kk V93 L77 Z) H := by rw [← ew94]; exact hP
                  have hD : va_D A (xw ad kk V93 L77 Z) := by rw [← ew94]; exact hD
                  have hMV93 : rgd bX V93 := hMV76.put hV93 (i_full _)
                  have agV93 : agr [(1, 3), (1, 6), (1, 7), (6, 8), (6, 9), (6, 10)] [43, 44, 45] V V93 := agV76.up hV93 rfl
                  have cn95 : CNc V76 b gs := CNc.ag cno.1 (show agr [(1, 3), (1, 7), (6, 8), (6, 9), (6, 10)] [43, 44] V V76 from (agr.tr (agr.tr (agr.up (agr.tr (agr.tr agr.rf ajV24 (by decide) (by decide)) ajV34 (by decide) (by decide)) hV44 rfl) ajV57 (by decide) (by decide)) ajV76 (by decide) (by decide))) (by decide) keepC.rf
                  have cn96 : CNc V76 b (nx (nx (nx gs 1) 1) 1) := CNc.mv cn95 (fun _ _ _ => rfl) (keepC.tr (keepC.tr (keepC.tr (keepC.rf : keepC gs gs) (keepS.c (keepS.n1 1))) (keepS.c (keepS.n1 1))) (keepS.c (keepS.n1 1)))
                  have kp9 : (24 * b + (Int32.toNatClampNeg z68)) = 24 * b + ((nx (nx (nx gs 1) 1) 1).2.1 0).length := by have h9 := i_clamp (x := z68) rfl (by (first | exact om_e3b1d6ac9ce8 rgz68.1 f86 | omega)); omega
                  have cn97 : CNc V93 b (tyS (nx (nx (nx gs 1) 1) 1) wx37 []) := CNc.ty cn96 hV93 kp9 (UND.ty (x := 0) (y := z68) (UND.z (nx (nx (nx gs 1) 1) 1).1) ez88 ez89 (show z68.toInt = ((((nx (nx (nx gs 1) 1) 1).2.1 0).length : Nat) : Int) from by (first | exact om_66659e2cd4d6 kc91 kp9 | omega)) (by omega)) (by (first | exact om_afd15366e1d9 rgz68.2 kc91 kp9 | omega))
                  refine lv_iconst (v := 1) hx hb dX1_readType_119 (by decide) ?_
                  have rl98 : RelC V93 L77 b gT (tyS (nx (nx (nx gs 1) 1) 1) wx37 []) := RelC.ag rl82 (show agr [] [45] V76 V93 from (agr.up agr.rf hV93 rfl)) (by decide) (show agL [] L77 L77 from agL.rf) (by decide)
                  have pq99 : (V93 1 2).toInt = ((V 1 2)).toInt := congrArg Int32.toInt ((up2_o hV93 (by decide)).trans ((ajV76 1 2 rfl).trans ((ajV57 1 2 rfl).trans ((up2_k hV44 (by decide)).trans ((ajV34 1 2 rfl).trans (ajV24 1 2 rfl))))))
                  have cd100 : CDc V93 b gs := CDc.ag ceo.1 (show agr [(1, 3), (1, 7), (6, 8), (6, 9), (6, 10)] [43, 44, 45] V V93 from (agr.up (agr.tr (agr.tr (agr.up (agr.tr (agr.tr agr.rf ajV24 (by decide) (by decide)) ajV34 (by decide) (by decide)) hV44 rfl) ajV57 (by decide) (by decide)) ajV76 (by decide) (by decide)) hV93 rfl)) (fun _ => rfl) (fun _ => rfl)
                  have cd101 : CDc V93 b (tyS (nx (nx (nx gs 1) 1) 1) wx37 []) := CDc.mv cd100 (fun j9 h9 => ((show ∀ j9, j9 = 5 ∨ 2000 ≤ j9 → (tyS (nx (nx (nx gs 1) 1) 1) wx37 []).2.1 j9 = (nx (nx (nx gs 1) 1) 1).2.1 j9 from fun j9 h9 => (show ∀ j9, 5 ≤ j9 → (tyS (nx (nx (nx gs 1) 1) 1) wx37 []).2.1 j9 = (nx (nx (nx gs 1) 1) 1).2.1 j9 from fun j9 h9 => upB_p _ _ _ (by omega)) j9 (by omega)) j9 h9).trans ((fun j9 h9 => ((show ∀ j9, j9 = 5 ∨ 2000 ≤ j9 → (nx (nx (nx gs 1) 1) 1).2.1 j9 = (nx (nx gs 1) 1).2.1 j9 from fun j9 h9 => (show ∀ j9, 5 ≤ j9 → (nx (nx (nx gs 1) 1) 1).2.1 j9 = (nx (nx gs 1) 1).2.1 j9 from fun _ _ => rfl) j9 (by omega)) j9 h9).trans ((fun j9 h9 => ((show ∀ j9, j9 = 5 ∨ 2000 ≤ j9 → (nx (nx gs 1) 1).2.1 j9 = (nx gs 1).2.1 j9 from fun j9 h9 => (show ∀ j9, 5 ≤ j9 → (nx (nx gs 1) 1).2.1 j9 = (nx gs 1).2.1 j9 from fun _ _ => rfl) j9 (by omega)) j9 h9).trans ((show ∀ j9, j9 = 5 ∨ 2000 ≤ j9 → (nx gs 1).2.1 j9 = gs.2.1 j9 from fun j9 h9 => (show ∀ j9, 5 ≤ j9 → (nx gs 1).2.1 j9 = gs.2.1 j9 from fun _ _ => rfl) j9 (by omega)) j9 h9)) j9 h9)) j9 h9))
                  have re102 : REc V93 b gs := REc.ag ceo.2.1 (show agr [(1, 3), (1, 7), (6, 8), (6, 9), (6, 10)] [43, 44, 45] V V93 from (agr.up (agr.tr (agr.tr (agr.up (agr.tr (agr.tr agr.rf ajV24 (by decide) (by decide)) ajV34 (by decide) (by decide)) hV44 rfl) ajV57 (by decide) (by decide)) ajV76 (by decide) (by decide)) hV93 rfl)) (fun _ => rfl) (fun _ => rfl) (fun _ => rfl) keepE.rf rfl
                  have re103 : REc V93 b (tyS (nx (nx (nx gs 1) 1) 1) wx37 []) := REc.mv re102 (fun _ _ _ _ => rfl) (keepE.tr (keepE.tr (keepE.tr (keepE.tr (keepE.rf : keepE gs gs) (show keepE gs (nx gs 1) from keepE.eq (show ∀ j9, 5 ≤ j9 → (nx gs 1).2.1 j9 = gs.2.1 j9 from fun _ _ => rfl))) (show keepE (nx gs 1) (nx (nx gs 1) 1) from keepE.eq (show ∀ j9, 5 ≤ j9 → (nx (nx gs 1) 1).2.1 j9 = (nx gs 1).2.1 j9 from fun _ _ => rfl))) (show keepE (nx (nx gs 1) 1) (nx (nx (nx gs 1) 1) 1) from keepE.eq (show ∀ j9, 5 ≤ j9 → (nx (nx (nx gs 1) 1) 1).2.1 j9 = (nx (nx gs 1) 1).2.1 j9 from fun _ _ => rfl))) (show keepE (nx (nx (nx gs 1) 1) 1) (tyS (nx (nx (nx gs 1) 1) 1) wx37 []) from keepE.eq (show ∀ j9, 5 ≤ j9 → (tyS (nx (nx (nx gs 1) 1) 1) wx37 []).2.1 j9 = (nx (nx (nx gs 1) 1) 1).2.1 j9 from fun j9 h9 => upB_p _ _ _ (by omega)))) ((rfl : (tyS (nx (nx (nx gs 1) 1) 1) wx37 []).2.1 2 = (nx (nx (nx gs 1) 1) 1).2.1 2).trans (((show keepS (nx (nx gs 1) 1) 1 (nx (nx (nx gs 1) 1) 1) from (keepS.n1 1)).2.2.1 2 (by decide)).trans (((show keepS (nx gs 1) 1 (nx (nx gs 1) 1) from (keepS.n1 1)).2.2.1 2 (by decide)).trans (((show keepS gs 1 (nx gs 1) from (keepS.n1 1)).2.2.1 2 (by decide)).trans (rfl : gs.2.1 2 = gs.2.1 2)))))
                  have ww104 : WWc V93 b gs := WWc.ag ceo.2.2.1 (show agr [(1, 3), (1, 7), (6, 8), (6, 9), (6, 10)] [43, 44, 45] V V93 from (agr.up (agr.tr (agr.tr (agr.up (agr.tr (agr.tr agr.rf ajV24 (by decide) (by decide)) ajV34 (by decide) (by decide)) hV44 rfl) ajV57 (by decide) (by decide)) ajV76 (by decide) (by decide)) hV93 rfl)) (fun _ => ⟨rfl, rfl, rfl, rfl, rfl⟩) keepE.rf rfl
                  have ww105 : WWc V93 b (tyS (nx (nx (nx gs 1) 1) 1) wx37 []) := WWc.mv ww104 (fun _ _ _ _ _ => rfl) (keepE.tr (keepE.tr (keepE.tr (keepE.tr (keepE.rf : keepE gs gs) (show keepE gs (nx gs 1) from keepE.eq (show ∀ j9, 5 ≤ j9 → (nx gs 1).2.1 j9 = gs.2.1 j9 from fun _ _ => rfl))) (show keepE (nx gs 1) (nx (nx gs 1) 1) from keepE.eq (show ∀ j9, 5 ≤ j9 → (nx (nx gs 1) 1).2.1 j9 = (nx gs 1).2.1 j9 from fun _ _ => rfl))) (show keepE (nx (nx gs 1) 1) (nx (nx (nx gs 1) 1) 1) from keepE.eq (show ∀ j9, 5 ≤ j9 → (nx (nx (nx gs 1) 1) 1).2.1 j9 = (nx (nx gs 1) 1).2.1 j9 from fun _ _ => rfl))) (show keepE (nx (nx (nx gs 1) 1) 1) (tyS (nx (nx (nx gs 1) 1) 1) wx37 []) from keepE.eq (show ∀ j9, 5 ≤ j9 → (tyS (nx (nx (nx gs 1) 1) 1) wx37 []).2.1 j9 = (nx (nx (nx gs 1) 1) 1).2.1 j9 from fun j9 h9 => upB_p _ _ _ (by omega)))) ((rfl : (tyS (nx (nx (nx gs 1) 1) 1) wx37 []).2.2.1 = (nx (nx (nx gs 1) 1) 1).2.2.1).trans ((congrArg (fun q9 : List (Nat × Bool) × List Nat => q9.1) (show keepS (nx (nx gs 1) 1) 1 (nx (nx (nx gs 1) 1) 1) from (keepS.n1 1)).2.2.2).trans ((congrArg (fun q9 : List (Nat × Bool) × List Nat => q9.1) (show keepS (nx gs 1) 1 (nx (nx gs 1) 1) from (keepS.n1 1)).2.2.2).trans ((congrArg (fun q9 : List (Nat × Bool) × List Nat => q9.1) (show keepS gs 1 (nx gs 1) from (keepS.n1 1)).2.2.2).trans (rfl : gs.2.2.1 = gs.2.2.1)))))
                  have hwl : wl gs ≤ 2 * gs.1 0 := ceo.2.2.2
                  have wk106 : wl (nx gs 1) = wl gs ∧ (nx gs 1).1 0 = gs.1 0 + 1 := ⟨rfl, rfl⟩
                  have wk107 : wl (nx (nx gs 1) 1) = wl (nx gs 1) ∧ (nx (nx gs 1) 1).1 0 = (nx gs 1).1 0 + 1 := ⟨rfl, rfl⟩
                  have wk108 : wl (nx (nx (nx gs 1) 1) 1) = wl (nx (nx gs 1) 1) ∧ (nx (nx (nx gs 1) 1) 1).1 0 = (nx (nx gs 1) 1).1 0 + 1 := ⟨rfl, rfl⟩
                  have wk109 : wl (tyS (nx (nx (nx gs 1) 1) 1) wx37 []) = wl (nx (nx (nx gs 1) 1) 1) ∧ (tyS (nx (nx (nx gs 1) 1) 1) wx37 []).1 0 = (nx (nx (nx gs 1) 1) 1).1 0 := ⟨wl_e (show ∀ j9, j9 = 5 ∨ 2000 ≤ j9 → (tyS (nx (nx (nx gs 1) 1) 1) wx37 []).2.1 j9 = (nx (nx (nx gs 1) 1) 1).2.1 j9 from fun j9 h9 => (show ∀ j9, 5 ≤ j9 → (tyS (nx (nx (nx gs 1) 1) 1) wx37 []).2.1 j9 = (nx (nx (nx gs 1) 1) 1).2.1 j9 from fun j9 h9 => upB_p _ _ _ (by omega)) j9 (by omega)), tyS_5 0 (by decide)⟩
                  have ps110 : gs.1 0 + 1 ≤ (nx gs 1).1 0 := ((keepS.n1 1)).1
                  have ps111 : (nx gs 1).1 0 + 1 ≤ (nx (nx gs 1) 1).1 0 := ((keepS.n1 1)).1
                  have ps112 : (nx (nx gs 1) 1).1 0 + 1 ≤ (nx (nx (nx gs 1) 1) 1).1 0 := ((keepS.n1 1)).1
                  have ps113 : (tyS (nx (nx (nx gs 1) 1) 1) wx37 []).1 0 = (nx (nx (nx gs 1) 1) 1).1 0 := tyS_5 0 (by decide)
                  have rw114 : ROWL b L L77 := (fun k hk => ((ROWL.ad t75 t73 (hMV57 43 _).1 (by omega) hk).trans ((axL58 44 k rfl).trans ((axL35 44 k rfl).trans ((axL25 44 k rfl).trans rfl)))))
                  exact W.zret (v := 1) hx hb hr rfl (fun t ht hW => ⟨⟨1, (V93, L77), rfl, ⟨hMV93, agV93, alL77, (by decide), (Or.inl ⟨rfl, (tyS (nx (nx (nx gs 1) 1) 1) wx37 []), hr83, rl98, (by omega), ⟨cn97, (OWl.n (show (V93 1 2).toInt < 0 from by (first | exact om_517d2fcd5b60 own pq99 | omega)))⟩, ⟨cd101, re103, ww105, (show wl (tyS (nx (nx (nx gs 1) 1) 1) wx37 []) ≤ 2 * (tyS (nx (nx (nx gs 1) 1) 1) wx37 []).1 0 from by omega)⟩⟩), rw114⟩, by rw [ht]; exact hP, va_K.moved hW.alike hK, hD⟩, hS.F ht⟩) hS.2.2 dX1_readType_120
            · skip
              have f115 : z52.toInt = 0 := b_eq rfl (by decide) c65
              exfalso; first | exact om_495ee03a60ae q59 f115 | first | omega | ((try (have i_t55 := Imp.go t55 (by omega))); (try (have i_t9 := Imp.go t9 (by omega))); (try (have i_t8 := Imp.go t8 (by omega))); (try (have i_t8 := Imp.go t8 (by omega))); (try (have i_t9 := Imp.go t9 (by omega))); (try (have i_t55 := Imp.go t55 (by omega))); omega)
          · skip
            have hb116 : ∀ k, Rc gT (Crun gs (Istmt :: k)) (Cbad (V57 1 3).toInt) := fun k => Rc.go1 (hr50 k) ((tk_n (fun h9 => h60 (rl48.tok.1.symm.trans (h9.trans (by decide))))).trans (fl_eq rl48.tok.2.2 k61))
            refine lv_if_ne (tgt := 85) hx hb dX1_readType_80 (by decide) (fun c117 => ?_) (fun c117 => ?_)
            · skip
              have f118 : z52.toInt ≠ 0 := b_neq rfl (by decide) c117
              exfalso; first | exact om_fb320d7600b7 rgz52.1 q59 f118 | first | omega | ((try (have i_t55 := Imp.go t55 (by omega))); (try (have i_t9 := Imp.go t9 (by omega))); (try (have i_t8 := Imp.go t8 (by omega))); (try (have i_t8 := Imp.go t8 (by omega))); (try (have i_t9 := Imp.go t9 (by omega))); (try (have i_t55 := Imp.go t55 (by omega))); omega)
            · skip
              have f119 : z52.toInt = 0 := b_eq rfl (by decide) c117
              refine lv_iconst (v := 0) hx hb dX1_readType_83 (by decide) ?_
              have rw120 : ROWL b L L58 := (fun k hk => ((axL58 44 k rfl).trans ((axL35 44 k rfl).trans ((axL25 44 k rfl).trans rfl))))
              exact W.zret (v := 0) hx hb hr rfl (fun t ht hW => ⟨⟨0, (V57, L58), rfl, ⟨hMV57, agV57, alL58, (by decide), (Or.inr ⟨rfl, hb116⟩), rw120⟩, by rw [ht]; exact hP, va_K.moved hW.alike hK, hD⟩, hS.F ht⟩) hS.2.2 dX1_readType_84
        · skip
          have f121 : ((V34 6 9)).toInt = 129 := b_eq rfl (by decide) c46
          refine lv_aload_n hx hb dX1_readType_58 rfl (lv_at hl 1 rfl) ?_
          refine va_get (D := D) (ci := 1) (v := .ref (ad 6)) (fs := (xfReader ad V44 L35 Z)) (C := RX1) (T := TX1) (N := 9) hx hb hg inX1 hown hK hP 1 xgReader rfl 0 (by decide) (hg _ w304) (fun _ h9 => h9) rfl dX1_readType_59 ?_
          have rl122 : RelC V44 L35 b gT (nx (nx gs 1) 1) := RelC.ag rl39 (show agr [(1, 7)] [] V34 V44 from (agr.up agr.rf hV44 rfl)) (by decide) (show agL [] L35 L35 from agL.rf) (by decide)
          have kd123 : gT.1 ((nx (nx gs 1) 1).1 0) = ((V34 6 9)).toInt := (RelC.kd rl122).trans (congrArg Int32.toInt (up2_o hV44 (by decide)))
          have hr124 : ∀ k, Rc gT (Crun gs (Istmt :: k)) (Crun (nx (nx (nx gs 1) 1) 1) (Itypes 0 wx37 0 [] :: k)) := fun k => Rc.go1 (hr41 k) (like_y wx37 (kd123.trans f121))
          have l8125 := RelC.l8 rl122
          have pq126 : (V44 6 8).toInt = ((V34 6 8)).toInt := congrArg Int32.toInt (up2_o hV44 (by decide))
          have r127 : 0 ≤ ((V34 6 8)).toInt ∧ ((V34 6 8)).toInt ≤ 4000 := hMV34 6 8
          have pq128 : (V44 6 7).toInt = ((V 6 7)).toInt := congrArg Int32.toInt ((up2_o hV44 (by decide)).trans ((ajV34 6 7 rfl).trans (ajV24 6 7 rfl)))
          have pq129 : (V44 6 9).toInt = ((V34 6 9)).toInt := congrArg Int32.toInt (up2_o hV44 (by decide))
          have lk130 := RelC.lk rl122 (show (V44 6 9).toInt ≠ 0 from by (first | exact om_6da7dbaf1b84 f121 pq129 | omega))
          refine gA_void (gA_runV (As := []) (rest := []) (ci := 9) (q0 := 6) hx hb hml hown hg hP hD hK hS hA hnw hgk (x_next2 l D ks H.size ad kk V44 L35 Z  hMV44 (show (V44 6 8).toInt ≤ (V44 6 7).toInt from by first | exact om_f4906d00fa52 l8125 | first | omega | ((try (have i_t9 := Imp.go t9 (by omega))); (try (have i_t8 := Imp.go t8 (by omega))); (try (have i_t8 := Imp.go t8 (by omega))); (try (have i_t9 := Imp.go t9 (by omega))); omega))) w871 w852 w853 w157 w854 rfl xgTape hdV_yX9_next ⟨Nat.le_of_ble_eq_true rfl, Nat.le_of_ble_eq_true rfl⟩ rfl hl.1 rfl (Nat.le_of_ble_eq_true rfl) dX1_readType_62 ⟨Nat.le_of_ble_eq_true rfl, Nat.le_of_ble_eq_true rfl⟩) hP hD hK hS hA (fun u132 H locs w133 hP hD hK hS => ?_)
          obtain ⟨V136, L137⟩ := u132
          obtain ⟨hMV136, ajV136, axL137, t134, t135⟩ := w133
          have alL137 : agL [1, 6, 44] L L137 := agL.tr alL35 axL137 (by decide)
          have hP : va_P D vwCl (xw ad kk V136 L137 Z) H := hP
          have hD : va_D A (xw ad kk V136 L137 Z) := hD
          have hMV136 : rgd bX V136 := hMV136
          have ajV136 : agr [(6, 8), (6, 9), (6, 10)] [] V44 V136 := ajV136
          have agV136 : agr [(1, 3), (1, 6), (1, 7), (6, 8), (6, 9), (6, 10)] [43, 44, 45] V V136 := agV44.tr ajV136 (by decide) (by decide)
          have t134 : (V136 6 8).toInt ≤ (V136 6 7).toInt := t134
          have t135 : CUR V136 L137 (Int32.toNatClampNeg (V44 6 8)) := t135
          have r138 : 0 ≤ ((V136 6 8)).toInt ∧ ((V136 6 8)).toInt ≤ 4000 := hMV136 6 8
          have pq139 : (V136 6 7).toInt = ((V 6 7)).toInt := congrArg Int32.toInt ((ajV136 6 7 rfl).trans ((up2_o hV44 (by decide)).trans ((ajV34 6 7 rfl).trans (ajV24 6 7 rfl))))
          have rl140 : RelC V136 L137 b gT (nx (nx (nx gs 1) 1) 1) := RelC.nx1 rl122 ajV136 (by decide) axL137 (by decide) (by rw [← lk130]; exact t135) (ajV136 1 3 rfl)
          refine lv_aload_n hx hb dX1_readType_65 rfl (lv_at hl 1 rfl) ?_
          have pq141 : (V136 1 1).toInt = ((V 1 1)).toInt := congrArg Int32.toInt ((ajV136 1 1 rfl).trans ((up2_k hV44 (by decide)).trans ((ajV34 1 1 rfl).trans (ajV24 1 1 rfl))))
          have cn142 : CNc V136 b gs := CNc.ag cno.1 (show agr [(1, 3), (1, 7), (6, 8), (6, 9), (6, 10)] [] V V136 from (agr.tr (agr.up (agr.tr (agr.tr agr.rf ajV24 (by decide) (by decide)) ajV34 (by decide) (by decide)) hV44 rfl) ajV136 (by decide) (by decide))) (by decide) keepC.rf
          have cn143 : CNc V136 b (nx (nx (nx gs 1) 1) 1) := CNc.mv cn142 (fun _ _ _ => rfl) (keepC.tr (keepC.tr (keepC.tr (keepC.rf : keepC gs gs) (keepS.c (keepS.n1 1))) (keepS.c (keepS.n1 1))) (keepS.c (keepS.n1 1)))
          refine gA_int (gA_runV (As := []) (rest := []) (ci := 1) (q0 := 1) hx hb hml hown hg hP hD hK hS hA hnw hgk (x_takeTypes3 l D ks H.size ad kk V136 L137 Z (b) (gT) ((nx (nx (nx gs 1) 1) 1)) (0) (wx37) hMV136 (show b < 2 from by first | exact om_f940a4667dd6 hb2 | first | omega | ((try (have i_t9 := Imp.go t9 (by omega))); (try (have i_t8 := Imp.go t8 (by omega))); (try (have i_t8 := Imp.go t8 (by omega))); (try (have i_t9 := Imp.go t9 (by omega))); omega)) (show (V136 1 1).toInt = (b : Int) from by first | exact om_adf531c77a0d rbk pq141 | first | omega | ((try (have i_t9 := Imp.go t9 (by omega))); (try (have i_t8 := Imp.go t8 (by omega))); (try (have i_t8 := Imp.go t8 (by omega))); (try (have i_t9 := Imp.go t9 (by omega))); omega)) rl140 cn143.2.2.1) w884 w886 w8 w162 w887 rfl xgReader hdV_yX1_takeTypes ⟨Nat.le_of_ble_eq_true rfl, Nat.le_of_ble_eq_true rfl⟩ rfl hl.1 rfl (Nat.le_of_ble_eq_true rfl) dX1_readType_66 ⟨Nat.le_of_ble_eq_true rfl, Nat.le_of_ble_eq_true rfl⟩) hP hD hK hS hA (fun z144 u145 H locs w146 hP hD hK hS => ?_)
          obtain ⟨V148, L149⟩ := u145
          obtain ⟨hMV148, ajV148, axL149, rgz144, t147⟩ := w146
          have alL149 : agL [1, 6, 44] L L149 := agL.tr alL137 axL149 (by decide)
          have hP : va_P D vwCl (xw ad kk V148 L149 Z) H := hP
          have hD : va_D A (xw ad kk V148 L149 Z) := hD
          have hMV148 : rgd bX V148 := hMV148
          have ajV148 : agr [(1, 3), (1, 6), (1, 7), (6, 8), (6, 9), (6, 10)] [] V136 V148 := ajV148
          have agV148 : agr [(1, 3), (1, 6), (1, 7), (6, 8), (6, 9), (6, 10)] [43, 44, 45] V V148 := agV136.tr ajV148 (by decide) (by decide)
          have rgz144 : 0 ≤ z144.toInt ∧ z144.toInt ≤ 1 := rgz144
          have t147 : RdT gT (nx (nx (nx gs 1) 1) 1) 0 wx37 z144.toInt (V148 1 3).toInt (fun s9 sn => RelC V148 L149 b gT s9 ∧ keepS (nx (nx (nx gs 1) 1) 1) 1 s9 ∧ UND (V148 1 7) (nx (nx (nx gs 1) 1) 1).1 sn ∧ keepL (nx (nx (nx gs 1) 1) 1) s9) := t147
          rcases t147 with ⟨q150, sx151, sn152, h153, rl154, kp155, un156, ll157⟩ | ⟨q150, h153⟩
          · skip
            have hr158 : ∀ k, Rc gT (Crun gs (Istmt :: k)) (Crun sx151 (ItyD 0 wx37 sn152 :: k)) := fun k => (hr124 k).tr (h153 (k))
            refine lv_if_ne (tgt := 74) hx hb dX1_readType_69 (by decide) (fun c159 => ?_) (fun c159 => ?_)
            · skip
              have f160 : z144.toInt ≠ 0 := b_neq rfl (by decide) c159
              refine lv_aload_n hx hb dX1_readType_74 rfl (lv_at hl 1 rfl) ?_
              refine lv_bipush (v := 59) hx hb dX1_readType_75 (by decide) ?_
              have hr161 : ∀ k, Rc gT (Crun gs (Istmt :: k)) (Crun sx151 (Itake 59 :: IaddTy wx37 sn152 :: Istmt :: k)) := fun k => Rc.go1 (hr158 k) (td_0 wx37 sn152)
              have r162 : Int32.toInt 59 = 59 := by decide
              refine gA_int (gA_runV (As := [.int 59]) (rest := []) (ci := 1) (q0 := 1) hx hb hml hown hg hP hD hK hS hA hnw hgk (x_take2 l D ks H.size ad kk V148 L149 Z 59 ((sx151.1 0)) hMV148 (rl154).1 (rl154).2.1.1 (show 1 ≤ (Int32.toInt 59) from by first | exact om_de934181d724 r162 | first | omega | ((try (have i_t9 := Imp.go t9 (by omega))); (try (have i_t8 := Imp.go t8 (by omega))); (try (have i_t8 := Imp.go t8 (by omega))); (try (have i_t9 := Imp.go t9 (by omega))); omega))) w893 w895 w10 w162 w896 rfl xgReader hdV_yX1_take ⟨Nat.le_of_ble_eq_true rfl, Nat.le_of_ble_eq_true rfl⟩ rfl hl.1 rfl (Nat.le_of_ble_eq_true rfl) dX1_readType_77 ⟨Nat.le_of_ble_eq_true rfl, Nat.le_of_ble_eq_true rfl⟩) hP hD hK hS hA (fun z163 u164 H locs w165 hP hD hK hS => ?_)
              obtain ⟨V168, L169⟩ := u164
              obtain ⟨hMV168, ajV168, axL169, rgz163, t166, t167⟩ := w165
              have alL169 : agL [1, 6, 44] L L169 := agL.tr alL149 axL169 (by decide)
              have hP : va_P D vwCl (xw ad kk V168 L169 Z) H := hP
              have hD : va_D A (xw ad kk V168 L169 Z) := hD
              have hMV168 : rgd bX V168 := hMV168
              have ajV168 : agr [(1, 3), (6, 8), (6, 9), (6, 10)] [] V148 V168 := ajV168
              have agV168 : agr [(1, 3), (1, 6), (1, 7), (6, 8), (6, 9), (6, 10)] [43, 44, 45] V V168 := agV148.tr ajV168 (by decide) (by decide)
              have rgz163 : 0 ≤ z163.toInt ∧ z163.toInt ≤ 1 := rgz163
              have t166 : Imp (z163.toInt = 0) (1 ≤ (V168 1 3).toInt) := t166
              have t167 : (z163.toInt = 1 ∧ (V148 12 (sx151.1 0)).toInt = (Int32.toInt 59) ∧ CUR V168 L169 ((sx151.1 0) + 1) ∧ V168 1 3 = V148 1 3) ∨ (z163.toInt = 0 ∧ (V148 12 (sx151.1 0)).toInt ≠ (Int32.toInt 59) ∧ (V168 1 3).toInt = 1 + 16 * (V148 13 (sx151.1 0)).toInt) := t167
              rcases t167 with ⟨q170, h171, k172, k173⟩ | ⟨q170, h171, k172⟩
              · skip
                have rl174 : RelC V168 L169 b gT (nx sx151 1) := RelC.nx1 rl154 ajV168 (by decide) axL169 (by decide) k172 k173
                have hr175 : ∀ k, Rc gT (Crun gs (Istmt :: k)) (Crun (nx sx151 1) (IaddTy wx37 sn152 :: Istmt :: k)) := fun k => Rc.go1 (hr161 k) (tk_y (rl154.tok.1.trans (h171.trans (by decide))))
                refine lv_if_ne (tgt := 85) hx hb dX1_readType_80 (by decide) (fun c176 => ?_) (fun c176 => ?_)
                · skip
                  have f177 : z163.toInt ≠ 0 := b_neq rfl (by decide) c176
                  refine lv_aload_n hx hb dX1_readType_85 rfl (lv_at hl 1 rfl) ?_
                  refine va_get (D := D) (ci := 1) (v := rfN ad 38 (V168 1 1)) (fs := (xfReader ad V168 L169 Z)) (C := RX1) (T := TX1) (N := 9) hx hb hg inX1 hown hK hP 1 xgReader rfl 1 (by decide) (hg _ w305) (fun _ h9 => h9) rfl dX1_readType_86 ?_
                  have pq178 : (V168 1 1).toInt = ((V 1 1)).toInt := congrArg Int32.toInt ((ajV168 1 1 rfl).trans ((ajV148 1 1 rfl).trans ((ajV136 1 1 rfl).trans ((up2_k hV44 (by decide)).trans ((ajV34 1 1 rfl).trans (ajV24 1 1 rfl))))))
                  refine g_topv (v := .ref (ad (38 + b))) (rfN_r (by first | omega | ((try (have i_t166 := Imp.go t166 (by omega))); (try (have i_t9 := Imp.go t9 (by omega))); (try (have i_t8 := Imp.go t8 (by omega))); (try (have i_t8 := Imp.go t8 (by omega))); (try (have i_t9 := Imp.go t9 (by omega))); (try (have i_t166 := Imp.go t166 (by omega))); omega))) ?_
                  refine va_getN (D := D) (ci := 0) (v := .ref (ad (40 + (5 * b + 0)))) (fs := (xfBook ad V168 b)) (C := RX0) (T := TX0) (N := 13) hx hb hg inX0 hown hK hP (38 + b) (xgBook hb2) rfl 0 (by decide) (hnw.use 594 n594 rfl) (fun _ h9 => h9) rfl dX1_readType_89 ?_
                  refine lv_lload_n hx hb dX1_readType_92 rfl (lv_at hl 0 rfl) ?_
                  have ad1 := (rl174.2.2.1 0 (by decide)).1
                  have ad2 := congrArg List.length (((keepS.tr (keepS.tr (keepS.tr (keepS.tr (keepS.tr (keepS.rf : keepS gs 0 gs) (keepS.n1 1)) (keepS.n1 1)) (keepS.n1 1)) kp155) (keepS.n1 1))).2.2.1 0 (by decide))
                  have ad3 := ln0
                  refine gA_int (gA_runV (As := [.long (L35 1 5)]) (rest := []) (ci := 6) (q0 := (40 + (5 * b + 0))) hx hb hml hown hg hP hD hK hS hA hnw hgk (x_add2 l D ks H.size ad kk V168 L169 Z (L35 1 5) ((5 * b + 0)) hMV168 (show (5 * b + 0) < 10 from by first | exact om_99c4753a5d76 hb2 | first | omega | ((try (have i_t166 := Imp.go t166 (by omega))); (try (have i_t9 := Imp.go t9 (by omega))); (try (have i_t8 := Imp.go t8 (by omega))); (try (have i_t8 := Imp.go t8 (by omega))); (try (have i_t9 := Imp.go t9 (by omega))); (try (have i_t166 := Imp.go t166 (by omega))); omega))) w897 w898 w899 w168 w900 rfl (xgNames il4) hdV_yX6_add ⟨Nat.le_of_ble_eq_true rfl, Nat.le_of_ble_eq_true rfl⟩ rfl hl.1 rfl (Nat.le_of_ble_eq_true rfl) dX1_readType_93 ⟨Nat.le_of_ble_eq_true rfl, Nat.le_of_ble_eq_true rfl⟩) hP hD hK hS hA (fun z179 u180 H locs w181 hP hD hK hS => ?_)
                  obtain ⟨V187, L188⟩ := u180
                  obtain ⟨hMV187, ajV187, axL188, fyV187, rgz179, t182, t183, t184, t185, t186⟩ := w181
                  have alL188 : agL [1, 6, 44] L L188 := agL.tr alL169 axL188 (by decide)
                  have hP : va_P D vwCl (xw ad kk V187 L188 Z) H := hP
                  have hD : va_D A (xw ad kk V187 L188 Z) := hD
                  have hMV187 : rgd bX V187 := hMV187
                  have ajV187 : agr [] [43, 44] V168 V187 := ajV187
                  have agV187 : agr [(1, 3), (1, 6), (1, 7), (6, 8), (6, 9), (6, 10)] [43, 44, 45] V V187 := agV168.tr ajV187 (by decide) (by decide)
                  have rgz179 : (-1) ≤ z179.toInt ∧ z179.toInt ≤ 23 := rgz179
                  have t182 : z179.toInt < (V187 43 (5 * b + 0)).toInt := t182
                  have t183 : Imp ((V168 43 (5 * b + 0)).toInt < ((xcap (5 * b + 0) : Nat) : Int)) (z179.toInt = (V168 43 (5 * b + 0)).toInt ∧ (V187 43 (5 * b + 0)).toInt = (V168 43 (5 * b + 0)).toInt + 1) := t183
                  have t184 : Imp (((xcap (5 * b + 0) : Nat) : Int) ≤ (V168 43 (5 * b + 0)).toInt) (z179.toInt = -1 ∧ (V187 43 (5 * b + 0)).toInt = (V168 43 (5 * b + 0)).toInt) := t184
                  have t185 : ∀ n : Nat, ¬ n = (5 * b + 0) → V187 43 n = V168 43 n := t185
                  have t186 : (z179.toInt = -1 ∧ L188 = L169) ∨ (0 ≤ z179.toInt ∧ L188 = upL L169 44 (24 * (5 * b + 0) + Int32.toNatClampNeg (V168 43 (5 * b + 0))) (L35 1 5)) := t186
                  have ig191 := Imp.go t183 (by first | omega | ((try (have i_t166 := Imp.go t166 (by omega))); (try (have i_t9 := Imp.go t9 (by omega))); (try (have i_t8 := Imp.go t8 (by omega))); (try (have i_t8 := Imp.go t8 (by omega))); (try (have i_t9 := Imp.go t9 (by omega))); (try (have i_t166 := Imp.go t166 (by omega))); omega))
                  rcases t186 with ⟨q189, h190⟩ | ⟨q189, h190⟩
                  · exfalso; omega
                  · skip
                    have rl192 : RelC V187 L188 b gT (sA (nx sx151 1) 0 wx37) := RelC.add rl174 (by decide) ajV187 (by decide) t185 ig191.2 (by rw [← hw40]; exact h190) (sz24 hMV168) (by (first | exact om_760006048021 rgz179.2 ig191.1 | omega))
                    have rl193 : RelC V187 L188 b gT (tyS (nx sx151 1) wx37 sn152) := RelC.nu rl192 tyS_5 rfl
                    have hr194 : ∀ k, Rc gT (Crun gs (Istmt :: k)) (Crun (tyS (nx sx151 1) wx37 sn152) (Istmt :: k)) := fun k => Rc.go1 (hr175 k) (m_addTy wx37 sn152)
                    refine lv_istore_n (lv' := [(3, .int z179), (1, .long (L35 1 5)), (0, .ref (ad 1))]) hx hb dX1_readType_96 rfl hl (by decide) rfl (fun ls hl => ?_)
                    refine lv_iload_n hx hb dX1_readType_97 rfl (lv_at hl 0 rfl) ?_
                    refine lv_iconst (v := (-1)) hx hb dX1_readType_98 (by decide) ?_
                    refine lv_icmp_eq (tgt := 119) hx hb dX1_readType_99 (by decide) (fun c195 => ?_) (fun c195 => ?_)
                    · skip
                      have f196 : z179.toInt = (-1) := b_eq rfl (by decide) c195
                      exfalso; first | exact om_336fd5583133 q189 f196 | first | omega | ((try (have i_t8 := Imp.go t8 (f11))); omega) | ((try (have i_t184 := Imp.go t184 (by omega))); (try (have i_t183 := Imp.go t183 (by omega))); (try (have i_t166 := Imp.go t166 (by omega))); (try (have i_t9 := Imp.go t9 (by omega))); first | omega | ((try (have i_t8 := Imp.go t8 (by omega))); (try (have i_t8 := Imp.go t8 (by omega))); (try (have i_t9 := Imp.go t9 (by omega))); (try (have i_t166 := Imp.go t166 (by omega))); (try (have i_t183 := Imp.go t183 (by omega))); (try (have i_t184 := Imp.go t184 (by omega))); omega))
                    · skip
                      have f197 : z179.toInt ≠ (-1) := b_neq rfl (by decide) c195
                      refine lv_aload_n hx hb dX1_readType_102 rfl (lv_at hl 2 rfl) ?_
                      refine va_get (D := D) (ci := 1) (v := rfN ad 38 (V187 1 1)) (fs := (xfReader ad V187 L188 Z)) (C := RX1) (T := TX1) (N := 9) hx hb hg inX1 hown hK hP 1 xgReader rfl 1 (by decide) (hg _ w305) (fun _ h9 => h9) rfl dX1_readType_103 ?_
                      have pq198 : (V187 1 1).toInt = ((V 1 1)).toInt := congrArg Int32.toInt ((ajV187 1 1 rfl).trans ((ajV168 1 1 rfl).trans ((ajV148 1 1 rfl).trans ((ajV136 1 1 rfl).trans ((up2_k hV44 (by decide)).trans ((ajV34 1 1 rfl).trans (ajV24 1 1 rfl)))))))
                      refine g_topv (v := .ref (ad (38 + b))) (rfN_r (by first | omega | ((try (have i_t8 := Imp.go t8 (f11))); omega) | ((try (have i_t184 := Imp.go t184 (by omega))); (try (have i_t183 := Imp.go t183 (by omega))); (try (have i_t166 := Imp.go t166 (by omega))); (try (have i_t9 := Imp.go t9 (by omega))); first | omega | ((try (have i_t8 := Imp.go t8 (by omega))); (try (have i_t8 := Imp.go t8 (by omega))); (try (have i_t9 := Imp.go t9 (by omega))); (try (have i_t166 := Imp.go t166 (by omega))); (try (have i_t183 := Imp.go t183 (by omega))); (try (have i_t184 := Imp.go t184 (by omega))); omega)))) ?_
                      refine va_getN (D := D) (ci := 0) (v := .ref (ad (60 + b))) (fs := (xfBook ad V187 b)) (C := RX0) (T := TX0) (N := 13) hx hb hg inX0 hown hK hP (38 + b) (xgBook hb2) rfl 5 (by decide) (hnw.use 609 n609 rfl) (fun _ h9 => h9) rfl dX1_readType_106 ?_
                      refine lv_iload_n hx hb dX1_readType_109 rfl (lv_at hl 0 rfl) ?_
                      refine lv_aload_n hx hb dX1_readType_110 rfl (lv_at hl 2 rfl) ?_
                      refine va_get (D := D) (ci := 1) (v := .int (V187 1 7)) (fs := (xfReader ad V187 L188 Z)) (C := RX1) (T := TX1) (N := 9) hx hb hg inX1 hown hK hP 1 xgReader rfl 7 (by decide) (hg _ w311) (fun _ h9 => h9) rfl dX1_readType_111 ?_
                      refine g_top (v := (V148 1 7)) ((ajV187 1 7 rfl).trans (ajV168 1 7 rfl)) ?_
                      refine lv_iconst (v := 1) hx hb dX1_readType_114 (by decide) ?_
                      refine lv_iload_n hx hb dX1_readType_115 rfl (lv_at hl 0 rfl) ?_
                      refine lv_ishl hx hb dX1_readType_116 ?_
                      refine lv_topi (fun z199 ez199 => ?_)
                      have hz199 : 0 ≤ z199.toInt ∧ z199.toInt < 16777216 := shl1 ez199 (by first | omega | ((try (have i_t8 := Imp.go t8 (f11))); omega) | ((try (have i_t184 := Imp.go t184 (by omega))); (try (have i_t183 := Imp.go t183 (by omega))); (try (have i_t166 := Imp.go t166 (by omega))); (try (have i_t9 := Imp.go t9 (by omega))); first | omega | ((try (have i_t8 := Imp.go t8 (by omega))); (try (have i_t8 := Imp.go t8 (by omega))); (try (have i_t9 := Imp.go t9 (by omega))); (try (have i_t166 := Imp.go t166 (by omega))); (try (have i_t183 := Imp.go t183 (by omega))); (try (have i_t184 := Imp.go t184 (by omega))); omega)))
                      refine lv_ior hx hb dX1_readType_117 ?_
                      refine lv_topi (fun z200 ez200 => ?_)
                      have il201 : b < 2 := by first | exact om_f940a4667dd6 hb2 | first | omega | ((try (have i_t8 := Imp.go t8 (f11))); omega) | ((try (have i_t184 := Imp.go t184 (by omega))); (try (have i_t183 := Imp.go t183 (by omega))); (try (have i_t166 := Imp.go t166 (by omega))); (try (have i_t9 := Imp.go t9 (by omega))); first | omega | ((try (have i_t8 := Imp.go t8 (by omega))); (try (have i_t8 := Imp.go t8 (by omega))); (try (have i_t9 := Imp.go t9 (by omega))); (try (have i_t166 := Imp.go t166 (by omega))); (try (have i_t183 := Imp.go t183 (by omega))); (try (have i_t184 := Imp.go t184 (by omega))); omega))
                      refine va_iast (D := D) (i := z179) (x := z200) hx hb hK hP hD hS (60 + b) (53 + b) (xgtypeUnder il201) (xttypeUnder il201) (i_in (a := z179.toInt) rfl (by first | exact om_d6faf715ef82 rgz179.1 rgz179.2 f197 | first | omega | ((try (have i_t8 := Imp.go t8 (f11))); omega) | ((try (have i_t184 := Imp.go t184 (by omega))); (try (have i_t183 := Imp.go t183 (by omega))); (try (have i_t166 := Imp.go t166 (by omega))); (try (have i_t9 := Imp.go t9 (by omega))); first | omega | ((try (have i_t8 := Imp.go t8 (by omega))); (try (have i_t8 := Imp.go t8 (by omega))); (try (have i_t9 := Imp.go t9 (by omega))); (try (have i_t166 := Imp.go t166 (by omega))); (try (have i_t183 := Imp.go t183 (by omega))); (try (have i_t184 := Imp.go t184 (by omega))); omega)))) dX1_readType_118 (fun H locs hP hD hS => ?_)
                      have kc202 := i_clamp (x := z179) rfl (by first | exact om_e3b1d6ac9ce8 rgz179.1 f197 | first | omega | ((try (have i_t8 := Imp.go t8 (f11))); omega) | ((try (have i_t184 := Imp.go t184 (by omega))); (try (have i_t183 := Imp.go t183 (by omega))); (try (have i_t166 := Imp.go t166 (by omega))); (try (have i_t9 := Imp.go t9 (by omega))); first | omega | ((try (have i_t8 := Imp.go t8 (by omega))); (try (have i_t8 := Imp.go t8 (by omega))); (try (have i_t9 := Imp.go t9 (by omega))); (try (have i_t166 := Imp.go t166 (by omega))); (try (have i_t183 := Imp.go t183 (by omega))); (try (have i_t184 := Imp.go t184 (by omega))); omega)))
                      have kl203 : (Int32.toNatClampNeg z179) < 24 := by first | exact om_c7c513f8a5c3 rgz179.2 kc202 | first | omega | ((try (have i_t8 := Imp.go t8 (f11))); omega) | ((try (have i_t184 := Imp.go t184 (by omega))); (try (have i_t183 := Imp.go t183 (by omega))); (try (have i_t166 := Imp.go t166 (by omega))); (try (have i_t9 := Imp.go t9 (by omega))); first | omega | ((try (have i_t8 := Imp.go t8 (by omega))); (try (have i_t8 := Imp.go t8 (by omega))); (try (have i_t9 := Imp.go t9 (by omega))); (try (have i_t166 := Imp.go t166 (by omega))); (try (have i_t183 := Imp.go t183 (by omega))); (try (have i_t184 := Imp.go t184 (by omega))); omega))
                      obtain ⟨V204, hV204⟩ : ∃ z, z = up2 V187 45 (24 * b + (Int32.toNatClampNeg z179)) z200 := ⟨_, rfl⟩
                      have ew205 : (xw ad kk V187 L188 Z).set (60 + b) ((ad (60 + b)), .inl ((kk (60 + b)), 24, .inl (upd (fun q => if q < 24 then V187 45 (24 * b + q) else 0) (Int32.toNatClampNeg z179) z200))) = xw ad kk V204 L188 Z := by rw [hV204]; exact xptypeUnder il201 kl203
                      have hP : va_P D vwCl (xw ad kk V204 L188 Z) H := by rw [← ew205]; exact hP
                      have hD : va_D A (xw ad kk V204 L188 Z) := by rw [← ew205]; exact hD
                      have hMV204 : rgd bX V204 := hMV187.put hV204 (i_full _)
                      have agV204 : agr [(1, 3), (1, 6), (1, 7), (6, 8), (6, 9), (6, 10)] [43, 44, 45] V V204 := agV187.up hV204 rfl
                      have cn206 : CNc V187 b (nx (nx (nx gs 1) 1) 1) := CNc.ag cn143 (show agr [(1, 3), (1, 6), (1, 7), (6, 8), (6, 9), (6, 10)] [43, 44] V136 V187 from (agr.tr (agr.tr (agr.tr agr.rf ajV148 (by decide) (by decide)) ajV168 (by decide) (by decide)) ajV187 (by decide) (by decide))) (by decide) keepC.rf
                      have cn207 : CNc V187 b (nx sx151 1) := CNc.mv cn206 (fun _ _ _ => rfl) (keepC.tr (keepC.tr (keepC.rf : keepC (nx (nx (nx gs 1) 1) 1) (nx (nx (nx gs 1) 1) 1)) (keepS.c kp155)) (keepS.c (keepS.n1 1)))
                      have kp9 : (24 * b + (Int32.toNatClampNeg z179)) = 24 * b + ((nx sx151 1).2.1 0).length := by have h9 := i_clamp (x := z179) rfl (by (first | exact om_e3b1d6ac9ce8 rgz179.1 f197 | omega)); omega
                      have cn208 : CNc V204 b (tyS (nx sx151 1) wx37 sn152) := CNc.ty cn207 hV204 kp9 (UND.ty (x := (V148 1 7)) (y := z179) (UND.mv un156 ((keepC.tr (keepC.tr (keepC.rf : keepC (nx (nx (nx gs 1) 1) 1) (nx (nx (nx gs 1) 1) 1)) (keepS.c kp155)) (keepS.c (keepS.n1 1)))).1) ez199 ez200 (show z179.toInt = ((((nx sx151 1).2.1 0).length : Nat) : Int) from by (first | exact om_66659e2cd4d6 kc202 kp9 | omega)) (by omega)) (by (first | exact om_afd15366e1d9 rgz179.2 kc202 kp9 | omega))
                      refine lv_iconst (v := 1) hx hb dX1_readType_119 (by decide) ?_
                      have rl209 : RelC V204 L188 b gT (tyS (nx sx151 1) wx37 sn152) := RelC.ag rl193 (show agr [] [45] V187 V204 from (agr.up agr.rf hV204 rfl)) (by decide) (show agL [] L188 L188 from agL.rf) (by decide)
                      have pq210 : (V204 1 2).toInt = ((V 1 2)).toInt := congrArg Int32.toInt ((up2_o hV204 (by decide)).trans ((ajV187 1 2 rfl).trans ((ajV168 1 2 rfl).trans ((ajV148 1 2 rfl).trans ((ajV136 1 2 rfl).trans ((up2_k hV44 (by decide)).trans ((ajV34 1 2 rfl).trans (ajV24 1 2 rfl))))))))
                      have cd211 : CDc V204 b gs := CDc.ag ceo.1 (show agr [(1, 3), (1, 6), (1, 7), (6, 8), (6, 9), (6, 10)] [43, 44, 45] V V204 from (agr.up (agr.tr (agr.tr (agr.tr (agr.tr (agr.up (agr.tr (agr.tr agr.rf ajV24 (by decide) (by decide)) ajV34 (by decide) (by decide)) hV44 rfl) ajV136 (by decide) (by decide)) ajV148 (by decide) (by decide)) ajV168 (by decide) (by decide)) ajV187 (by decide) (by decide)) hV204 rfl)) (fun _ => rfl) (fun _ => rfl)
                      have cd212 : CDc V204 b (tyS (nx sx151 1) wx37 sn152) := CDc.mv cd211 (fun j9 h9 => ((show ∀ j9, j9 = 5 ∨ 2000 ≤ j9 → (tyS (nx sx151 1) wx37 sn152).2.1 j9 = (nx sx151 1).2.1 j9 from fun j9 h9 => (show ∀ j9, 5 ≤ j9 → (tyS (nx sx151 1) wx37 sn152).2.1 j9 = (nx sx151 1).2.1 j9 from fun j9 h9 => upB_p _ _ _ (by omega)) j9 (by omega)) j9 h9).trans ((fun j9 h9 => ((show ∀ j9, j9 = 5 ∨ 2000 ≤ j9 → (nx sx151 1).2.1 j9 = sx151.2.1 j9 from fun j9 h9 => (show ∀ j9, 5 ≤ j9 → (nx sx151 1).2.1 j9 = sx151.2.1 j9 from fun _ _ => rfl) j9 (by omega)) j9 h9).trans ((fun j9 h9 => ((show ∀ j9, j9 = 5 ∨ 2000 ≤ j9 → sx151.2.1 j9 = (nx (nx (nx gs 1) 1) 1).2.1 j9 from fun j9 h9 => (show ∀ j9, 5 ≤ j9 → sx151.2.1 j9 = (nx (nx (nx gs 1) 1) 1).2.1 j9 from ll157) j9 (by omega)) j9 h9).trans ((fun j9 h9 => ((show ∀ j9, j9 = 5 ∨ 2000 ≤ j9 → (nx (nx (nx gs 1) 1) 1).2.1 j9 = (nx (nx gs 1) 1).2.1 j9 from fun j9 h9 => (show ∀ j9, 5 ≤ j9 → (nx (nx (nx gs 1) 1) 1).2.1 j9 = (nx (nx gs 1) 1).2.1 j9 from fun _ _ => rfl) j9 (by omega)) j9 h9).trans ((fun j9 h9 => ((show ∀ j9, j9 = 5 ∨ 2000 ≤ j9 → (nx (nx gs 1) 1).2.1 j9 = (nx gs 1).2.1 j9 from fun j9 h9 => (show ∀ j9, 5 ≤ j9 → (nx (nx gs 1) 1).2.1 j9 = (nx gs 1).2.1 j9 from fun _ _ => rfl) j9 (by omega)) j9 h9).trans ((show ∀ j9, j9 = 5 ∨ 2000 ≤ j9 → (nx gs 1).2.1 j9 = gs.2.1 j9 from fun j9 h9 => (show ∀ j9, 5 ≤ j9 → (nx gs 1).2.1 j9 = gs.2.1 j9 from fun _ _ => rfl) j9 (by omega)) j9 h9)) j9 h9)) j9 h9)) j9 h9)) j9 h9))
                      have re213 : REc V204 b gs := REc.ag ceo.2.1 (show agr [(1, 3), (1, 6), (1, 7), (6, 8), (6, 9), (6, 10)] [43, 44, 45] V V204 from (agr.up (agr.tr (agr.tr (agr.tr (agr.tr (agr.up (agr.tr (agr.tr agr.rf ajV24 (by decide) (by decide)) ajV34 (by decide) (by decide)) hV44 rfl) ajV136 (by decide) (by decide)) ajV148 (by decide) (by decide)) ajV168 (by decide) (by decide)) ajV187 (by decide) (by decide)) hV204 rfl)) (fun _ => rfl) (fun _ => rfl) (fun _ => rfl) keepE.rf rfl
                      have re214 : REc V204 b (tyS (nx sx151 1) wx37 sn152) := REc.mv re213 (fun _ _ _ _ => rfl) (keepE.tr (keepE.tr (keepE.tr (keepE.tr (keepE.tr (keepE.tr (keepE.rf : keepE gs gs) (show keepE gs (nx gs 1) from keepE.eq (show ∀ j9, 5 ≤ j9 → (nx gs 1).2.1 j9 = gs.2.1 j9 from fun _ _ => rfl))) (show keepE (nx gs 1) (nx (nx gs 1) 1) from keepE.eq (show ∀ j9, 5 ≤ j9 → (nx (nx gs 1) 1).2.1 j9 = (nx gs 1).2.1 j9 from fun _ _ => rfl))) (show keepE (nx (nx gs 1) 1) (nx (nx (nx gs 1) 1) 1) from keepE.eq (show ∀ j9, 5 ≤ j9 → (nx (nx (nx gs 1) 1) 1).2.1 j9 = (nx (nx gs 1) 1).2.1 j9 from fun _ _ => rfl))) (show keepE (nx (nx (nx gs 1) 1) 1) sx151 from keepE.eq (show ∀ j9, 5 ≤ j9 → sx151.2.1 j9 = (nx (nx (nx gs 1) 1) 1).2.1 j9 from ll157))) (show keepE sx151 (nx sx151 1) from keepE.eq (show ∀ j9, 5 ≤ j9 → (nx sx151 1).2.1 j9 = sx151.2.1 j9 from fun _ _ => rfl))) (show keepE (nx sx151 1) (tyS (nx sx151 1) wx37 sn152) from keepE.eq (show ∀ j9, 5 ≤ j9 → (tyS (nx sx151 1) wx37 sn152).2.1 j9 = (nx sx151 1).2.1 j9 from fun j9 h9 => upB_p _ _ _ (by omega)))) ((rfl : (tyS (nx sx151 1) wx37 sn152).2.1 2 = (nx sx151 1).2.1 2).trans (((show keepS sx151 1 (nx sx151 1) from (keepS.n1 1)).2.2.1 2 (by decide)).trans (((show keepS (nx (nx (nx gs 1) 1) 1) 1 sx151 from kp155).2.2.1 2 (by decide)).trans (((show keepS (nx (nx gs 1) 1) 1 (nx (nx (nx gs 1) 1) 1) from (keepS.n1 1)).2.2.1 2 (by decide)).trans (((show keepS (nx gs 1) 1 (nx (nx gs 1) 1) from (keepS.n1 1)).2.2.1 2 (by decide)).trans (((show keepS gs 1 (nx gs 1) from (keepS.n1 1)).2.2.1 2 (by decide)).trans (rfl : gs.2.1 2 = gs.2.1 2)))))))
                      have ww215 : WWc V204 b gs := WWc.ag ceo.2.2.1 (show agr [(1, 3), (1, 6), (1, 7), (6, 8), (6, 9), (6, 10)] [43, 44, 45] V V204 from (agr.up (agr.tr (agr.tr (agr.tr (agr.tr (agr.up (agr.tr (agr.tr agr.rf ajV24 (by decide) (by decide)) ajV34 (by decide) (by decide)) hV44 rfl) ajV136 (by decide) (by decide)) ajV148 (by decide) (by decide)) ajV168 (by decide) (by decide)) ajV187 (by decide) (by decide)) hV204 rfl)) (fun _ => ⟨rfl, rfl, rfl, rfl, rfl⟩) keepE.rf rfl
                      have ww216 : WWc V204 b (tyS (nx sx151 1) wx37 sn152) := WWc.mv ww215 (fun _ _ _ _ _ => rfl) (keepE.tr (keepE.tr (keepE.tr (keepE.tr (keepE.tr (keepE.tr (keepE.rf : keepE gs gs) (show keepE gs (nx gs 1) from keepE.eq (show ∀ j9, 5 ≤ j9 → (nx gs 1).2.1 j9 = gs.2.1 j9 from fun _ _ => rfl))) (show keepE (nx gs 1) (nx (nx gs 1) 1) from keepE.eq (show ∀ j9, 5 ≤ j9 → (nx (nx gs 1) 1).2.1 j9 = (nx gs 1).2.1 j9 from fun _ _ => rfl))) (show keepE (nx (nx gs 1) 1) (nx (nx (nx gs 1) 1) 1) from keepE.eq (show ∀ j9, 5 ≤ j9 → (nx (nx (nx gs 1) 1) 1).2.1 j9 = (nx (nx gs 1) 1).2.1 j9 from fun _ _ => rfl))) (show keepE (nx (nx (nx gs 1) 1) 1) sx151 from keepE.eq (show ∀ j9, 5 ≤ j9 → sx151.2.1 j9 = (nx (nx (nx gs 1) 1) 1).2.1 j9 from ll157))) (show keepE sx151 (nx sx151 1) from keepE.eq (show ∀ j9, 5 ≤ j9 → (nx sx151 1).2.1 j9 = sx151.2.1 j9 from fun _ _ => rfl))) (show keepE (nx sx151 1) (tyS (nx sx151 1) wx37 sn152) from keepE.eq (show ∀ j9, 5 ≤ j9 → (tyS (nx sx151 1) wx37 sn152).2.1 j9 = (nx sx151 1).2.1 j9 from fun j9 h9 => upB_p _ _ _ (by omega)))) ((rfl : (tyS (nx sx151 1) wx37 sn152).2.2.1 = (nx sx151 1).2.2.1).trans ((congrArg (fun q9 : List (Nat × Bool) × List Nat => q9.1) (show keepS sx151 1 (nx sx151 1) from (keepS.n1 1)).2.2.2).trans ((congrArg (fun q9 : List (Nat × Bool) × List Nat => q9.1) (show keepS (nx (nx (nx gs 1) 1) 1) 1 sx151 from kp155).2.2.2).trans ((congrArg (fun q9 : List (Nat × Bool) × List Nat => q9.1) (show keepS (nx (nx gs 1) 1) 1 (nx (nx (nx gs 1) 1) 1) from (keepS.n1 1)).2.2.2).trans ((congrArg (fun q9 : List (Nat × Bool) × List Nat => q9.1) (show keepS (nx gs 1) 1 (nx (nx gs 1) 1) from (keepS.n1 1)).2.2.2).trans ((congrArg (fun q9 : List (Nat × Bool) × List Nat => q9.1) (show keepS gs 1 (nx gs 1) from (keepS.n1 1)).2.2.2).trans (rfl : gs.2.2.1 = gs.2.2.1)))))))
                      have hwl : wl gs ≤ 2 * gs.1 0 := ceo.2.2.2
                      have wk217 : wl (nx gs 1) = wl gs ∧ (nx gs 1).1 0 = gs.1 0 + 1 := ⟨rfl, rfl⟩
                      have wk218 : wl (nx (nx gs 1) 1) = wl (nx gs 1) ∧ (nx (nx gs 1) 1).1 0 = (nx gs 1).1 0 + 1 := ⟨rfl, rfl⟩
                      have wk219 : wl (nx (nx (nx gs 1) 1) 1) = wl (nx (nx gs 1) 1) ∧ (nx (nx (nx gs 1) 1) 1).1 0 = (nx (nx gs 1) 1).1 0 + 1 := ⟨rfl, rfl⟩
                      have wk220 : wl sx151 = wl (nx (nx (nx gs 1) 1) 1) ∧ (nx (nx (nx gs 1) 1) 1).1 0 + 1 ≤ sx151.1 0 := ⟨wl_e (show ∀ j9, j9 = 5 ∨ 2000 ≤ j9 → sx151.2.1 j9 = (nx (nx (nx gs 1) 1) 1).2.1 j9 from fun j9 h9 => (show ∀ j9, 5 ≤ j9 → sx151.2.1 j9 = (nx (nx (nx gs 1) 1) 1).2.1 j9 from ll157) j9 (by omega)), (kp155).1⟩
                      have wk221 : wl (nx sx151 1) = wl sx151 ∧ (nx sx151 1).1 0 = sx151.1 0 + 1 := ⟨rfl, rfl⟩
                      have wk222 : wl (tyS (nx sx151 1) wx37 sn152) = wl (nx sx151 1) ∧ (tyS (nx sx151 1) wx37 sn152).1 0 = (nx sx151 1).1 0 := ⟨wl_e (show ∀ j9, j9 = 5 ∨ 2000 ≤ j9 → (tyS (nx sx151 1) wx37 sn152).2.1 j9 = (nx sx151 1).2.1 j9 from fun j9 h9 => (show ∀ j9, 5 ≤ j9 → (tyS (nx sx151 1) wx37 sn152).2.1 j9 = (nx sx151 1).2.1 j9 from fun j9 h9 => upB_p _ _ _ (by omega)) j9 (by omega)), tyS_5 0 (by decide)⟩
                      have ps223 : gs.1 0 + 1 ≤ (nx gs 1).1 0 := ((keepS.n1 1)).1
                      have ps224 : (nx gs 1).1 0 + 1 ≤ (nx (nx gs 1) 1).1 0 := ((keepS.n1 1)).1
                      have ps225 : (nx (nx gs 1) 1).1 0 + 1 ≤ (nx (nx (nx gs 1) 1) 1).1 0 := ((keepS.n1 1)).1
                      have ps226 : (nx (nx (nx gs 1) 1) 1).1 0 + 1 ≤ sx151.1 0 := (kp155).1
                      have ps227 : sx151.1 0 + 1 ≤ (nx sx151 1).1 0 := ((keepS.n1 1)).1
                      have ps228 : (tyS (nx sx151 1) wx37 sn152).1 0 = (nx sx151 1).1 0 := tyS_5 0 (by decide)
                      have rw229 : ROWL b L L188 := (fun k hk => ((ROWL.ad t186 t184 (hMV168 43 _).1 (by omega) hk).trans ((axL169 44 k rfl).trans ((axL149 44 k rfl).trans ((axL137 44 k rfl).trans ((axL35 44 k rfl).trans ((axL25 44 k rfl).trans rfl)))))))
                      exact W.zret (v := 1) hx hb hr rfl (fun t ht hW => ⟨⟨1, (V204, L188), rfl, ⟨hMV204, agV204, alL188, (by decide), (Or.inl ⟨rfl, (tyS (nx sx151 1) wx37 sn152), hr194, rl209, (by omega), ⟨cn208, (OWl.n (show (V204 1 2).toInt < 0 from by (first | exact om_517d2fcd5b60 own pq210 | omega)))⟩, ⟨cd212, re214, ww216, (show wl (tyS (nx sx151 1) wx37 sn152) ≤ 2 * (tyS (nx sx151 1) wx37 sn152).1 0 from by omega)⟩⟩), rw229⟩, by rw [ht]; exact hP, va_K.moved hW.alike hK, hD⟩, hS.F ht⟩) hS.2.2 dX1_readType_120
                · skip
                  have f230 : z163.toInt = 0 := b_eq rfl (by decide) c176
                  exfalso; first | exact om_495ee03a60ae q170 f230 | first | omega | ((try (have i_t166 := Imp.go t166 (by omega))); (try (have i_t9 := Imp.go t9 (by omega))); (try (have i_t8 := Imp.go t8 (by omega))); (try (have i_t8 := Imp.go t8 (by omega))); (try (have i_t9 := Imp.go t9 (by omega))); (try (have i_t166 := Imp.go t166 (by omega))); omega)
              · skip
                have hb231 : ∀ k, Rc gT (Crun gs (Istmt :: k)) (Cbad (V168 1 3).toInt) := fun k => Rc.go1 (hr161 k) ((tk_n (fun h9 => h171 (rl154.tok.1.symm.trans (h9.trans (by decide))))).trans (fl_eq rl154.tok.2.2 k172))
                refine lv_if_ne (tgt := 85) hx hb dX1_readType_80 (by decide) (fun c232 => ?_) (fun c232 => ?_)
                · skip
                  have f233 : z163.toInt ≠ 0 := b_neq rfl (by decide) c232
                  exfalso; first | exact om_fb320d7600b7 rgz163.1 q170 f233 | first | omega | ((try (have i_t166 := Imp.go t166 (by omega))); (try (have i_t9 := Imp.go t9 (by omega))); (try (have i_t8 := Imp.go t8 (by omega))); (try (have i_t8 := Imp.go t8 (by omega))); (try (have i_t9 := Imp.go t9 (by omega))); (try (have i_t166 := Imp.go t166 (by omega))); omega)
                · skip
                  have f234 : z163.toInt = 0 := b_eq rfl (by decide) c232
                  refine lv_iconst (v := 0) hx hb dX1_readType_83 (by decide) ?_
                  have rw235 : ROWL b L L169 := (fun k hk => ((axL169 44 k rfl).trans ((axL149 44 k rfl).trans ((axL137 44 k rfl).trans ((axL35 44 k rfl).trans ((axL25 44 k rfl).trans rfl))))))
                  exact W.zret (v := 0) hx hb hr rfl (fun t ht hW => ⟨⟨0, (V168, L169), rfl, ⟨hMV168, agV168, alL169, (by decide), (Or.inr ⟨rfl, hb231⟩), rw235⟩, by rw [ht]; exact hP, va_K.moved hW.alike hK, hD⟩, hS.F ht⟩) hS.2.2 dX1_readType_84
            · skip
              have f236 : z144.toInt = 0 := b_eq rfl (by decide) c159
              exfalso; first | omega | ((try (have i_t9 := Imp.go t9 (by omega))); (try (have i_t8 := Imp.go t8 (by omega))); (try (have i_t8 := Imp.go t8 (by omega))); (try (have i_t9 := Imp.go t9 (by omega))); omega)
          · skip
            have hb237 : ∀ k, Rc gT (Crun gs (Istmt :: k)) (Cbad (V148 1 3).toInt) := fun k => (hr124 k).tr (h153 (k))
            refine lv_if_ne (tgt := 74) hx hb dX1_readType_69 (by decide) (fun c238 => ?_) (fun c238 => ?_)
            · skip
              have f239 : z144.toInt ≠ 0 := b_neq rfl (by decide) c238
              exfalso; first | omega | ((try (have i_t9 := Imp.go t9 (by omega))); (try (have i_t8 := Imp.go t8 (by omega))); (try (have i_t8 := Imp.go t8 (by omega))); (try (have i_t9 := Imp.go t9 (by omega))); omega)
            · skip
              have f240 : z144.toInt = 0 := b_eq rfl (by decide) c238
              refine lv_iconst (v := 0) hx hb dX1_readType_72 (by decide) ?_
              have rw241 : ROWL b L L149 := (fun k hk => ((axL149 44 k rfl).trans ((axL137 44 k rfl).trans ((axL35 44 k rfl).trans ((axL25 44 k rfl).trans rfl)))))
              exact W.zret (v := 0) hx hb hr rfl (fun t ht hW => ⟨⟨0, (V148, L149), rfl, ⟨hMV148, agV148, alL149, (by decide), (Or.inr ⟨rfl, hb237⟩), rw241⟩, by rw [ht]; exact hP, va_K.moved hW.alike hK, hD⟩, hS.F ht⟩) hS.2.2 dX1_readType_73
      · skip
        have f242 : z30.toInt = 0 := b_eq rfl (by decide) c42
        exfalso; first | omega | ((try (have i_t9 := Imp.go t9 (by omega))); (try (have i_t8 := Imp.go t8 (by omega))); (try (have i_t8 := Imp.go t8 (by omega))); (try (have i_t9 := Imp.go t9 (by omega))); omega)
    · skip
      have hb243 : ∀ k, Rc gT (Crun gs (Istmt :: k)) (Cbad (V34 1 3).toInt) := fun k => Rc.go1 (hr14 k) (nt_b h38)
      refine lv_if_ne (tgt := 35) hx hb dX1_readType_30 (by decide) (fun c244 => ?_) (fun c244 => ?_)
      · skip
        have f245 : z30.toInt ≠ 0 := b_neq rfl (by decide) c244
        exfalso; first | omega | ((try (have i_t9 := Imp.go t9 (by omega))); (try (have i_t8 := Imp.go t8 (by omega))); (try (have i_t8 := Imp.go t8 (by omega))); (try (have i_t9 := Imp.go t9 (by omega))); omega)
      · skip
        have f246 : z30.toInt = 0 := b_eq rfl (by decide) c244
        refine lv_iconst (v := 0) hx hb dX1_readType_33 (by decide) ?_
        have rw247 : ROWL b L L35 := (fun k hk => ((axL35 44 k rfl).trans ((axL25 44 k rfl).trans rfl)))
        exact W.zret (v := 0) hx hb hr rfl (fun t ht hW => ⟨⟨0, (V34, L35), rfl, ⟨hMV34, agV34, alL35, (by decide), (Or.inr ⟨rfl, hb243⟩), rw247⟩, by rw [ht]; exact hP, va_K.moved hW.alike hK, hD⟩, hS.F ht⟩) hS.2.2 dX1_readType_34
  · skip
    have f248 : z5.toInt ≠ 0 := b_neq rfl (by decide) c10
    refine lv_aload_n hx hb dX1_readType_13 rfl (lv_at hl 0 rfl) ?_
    refine lv_iconst (v := 5) hx hb dX1_readType_14 (by decide) ?_
    have kd249 : gT.1 (gs.1 0) = ((V 6 9)).toInt := RelC.kd rel
    have r250 : Int32.toInt 5 = 5 := by decide
    refine gA_int (gA_runV (As := [.int 5]) (rest := []) (ci := 1) (q0 := 1) hx hb hml hown hg hP hD hK hS hA hnw hgk (x_wrong2 l D ks H.size ad kk V L Z 5 hMV (by decide)) w867 w869 w6 w162 w870 rfl xgReader hdV_yX1_wrong ⟨Nat.le_of_ble_eq_true rfl, Nat.le_of_ble_eq_true rfl⟩ rfl hl.1 rfl (Nat.le_of_ble_eq_true rfl) dX1_readType_15 ⟨Nat.le_of_ble_eq_true rfl, Nat.le_of_ble_eq_true rfl⟩) hP hD hK hS hA (fun z251 u252 H locs w253 hP hD hK hS => ?_)
    obtain ⟨V256, L257⟩ := u252
    obtain ⟨hMV256, ajV256, axL257, rgz251, t254, t255⟩ := w253
    have axL257 : L = L257 := Eq.symm axL257
    subst axL257
    have hP : va_P D vwCl (xw ad kk V256 L Z) H := hP
    have hD : va_D A (xw ad kk V256 L Z) := hD
    have hMV256 : rgd bX V256 := hMV256
    have ajV256 : agr [(1, 3)] [] V V256 := ajV256
    have agV256 : agr [(1, 3), (1, 6), (1, 7), (6, 8), (6, 9), (6, 10)] [43, 44, 45] V V256 := agV.tr ajV256 (by decide) (by decide)
    have rgz251 : 0 ≤ z251.toInt ∧ z251.toInt ≤ 0 := rgz251
    have t254 : 1 ≤ (V256 1 3).toInt := t254
    have t255 : (V256 1 3).toInt = (Int32.toInt 5) + 16 * (V 6 10).toInt := t255
    have r258 : 0 ≤ ((V 6 10)).toInt ∧ ((V 6 10)).toInt ≤ 4000 := hMV 6 10
    have hr259 : ∀ k, Rc gT (Crun gs (Istmt :: k)) (Crun gs (Istmt :: k)) := fun k => Rc.rf
    have hb260 : ∀ k, Rc gT (Crun gs (Istmt :: k)) (Cbad (V256 1 3).toInt) := fun k => Rc.go1 (hr259 k) ((st_128f (kd249.trans kd9) (by first | omega | ((try (have i_t9 := Imp.go t9 (by omega))); (try (have i_t8 := Imp.go t8 (by omega))); (try (have i_t8 := Imp.go t8 (by omega))); (try (have i_t9 := Imp.go t9 (by omega))); omega))).trans (fl_eq (RelC.st rel) (show (V256 1 3).toInt = 5 + 16 * (V 6 10).toInt from by (first | exact om_fd8d4a8321fd r250 t255 | omega))))
    have rw261 : ROWL b L L := (fun k hk => rfl)
    exact W.zret (v := z251) hx hb hr (nb_ok (by omega)) (fun t ht hW => ⟨⟨z251, (V256, L), rfl, ⟨hMV256, agV256, alL, (show 0 ≤ z251.toInt ∧ z251.toInt ≤ 1 from by first | exact om_641b3f05f166 rgz251.1 rgz251.2 | first | omega | ((try (have i_t9 := Imp.go t9 (by omega))); (try (have i_t8 := Imp.go t8 (by omega))); (try (have i_t8 := Imp.go t8 (by omega))); (try (have i_t9 := Imp.go t9 (by omega))); omega)), (Or.inr ⟨(by omega), hb260⟩), rw261⟩, by rw [ht]; exact hP, va_K.moved hW.alike hK, hD⟩, hS.F ht⟩) hS.2.2 dX1_readType_18
abbrev r_x_readSetting3 : Room := { frames := 3, cells := 0, slots := 0, locals := 65 }
abbrev q_x_readSetting3 (D : va_G) (ks : KS) (ad : Nat → Nat) (kk : Nat → ClassId) (V : Vf) (L : Lf) (Z : XZ) (b : Nat) (gT : Tk) (gs : St) (A : Nat → Prop) : Array Value → State → Outcome → State → Prop := va_Qi (fun (r : Int32) (u : Vf × Lf) => rgd bX u.1 ∧ agr [(1, 3), (1, 8), (6, 8), (6, 9), (6, 10)] [43, 44, 46] V u.1 ∧ agL [1, 6, 44] L u.2 ∧ (0 ≤ r.toInt ∧ r.toInt ≤ 1) ∧ (Rd gT gs (fun k => Istmt :: k) (fun k => Istmt :: k) r.toInt (u.1 1 3).toInt (fun s9 => RelC u.1 u.2 b gT s9 ∧ gs.1 0 + 1 ≤ s9.1 0 ∧ CNo u.1 b s9 ∧ CEo u.1 b s9)) ∧ (ROWL b L u.2)) (fun u t => gq D A (xw ad kk u.1 u.2 Z) (xty kk Z) t) A
set_option maxHeartbeats 4000000 in
set_option maxRecDepth 100000 in
theorem x_readSetting3 (l : Launch) (D : va_G) (ks : KS) (sz : Nat) (ad : Nat → Nat) (kk : Nat → ClassId) (V : Vf) (L : Lf) (Z : XZ) (b : Nat) (gT : Tk) (gs : St) (hMV : rgd bX V) (hb2 : b < 2) (rbk : (V 1 1).toInt = (b : Int)) (own : (V 1 2).toInt = -1) (rel : RelC V L b gT gs) (cno : CNo V b gs) (ceo : CEo V b gs) (kd9 : (V 6 9).toInt = 130)  : Met l yX1_readSetting (Cond.code yX1_readSetting cX1_readSetting 4 (some .boolean) :: GW) r_x_readSetting3 (va_Pc [.ref (ad 1)] (gp D ks (xw ad kk V L Z) (xty kk Z) sz)) (q_x_readSetting3 D ks ad kk V L Z  b gT gs (va_A (xw ad kk V L Z) sz)) 0 0 (va_A (xw ad kk V L Z) sz) := by
  refine g_met (q_x_readSetting3 D ks ad kk V L Z  b gT gs) (by decide) (Nat.le_of_ble_eq_true rfl) ?_
  intro p e s m below meth c A ls H locs hx hb hr hml hown hg hlocks hin hnw hgk hP hK hD hS hA hl
  have hown : s.vm.findClass RX1 = some m.cls := hown
  have hl : lv_has ls 4 [(0, .ref (ad 1))] := hl
  have hP : va_P D vwCl (xw ad kk V L Z) H := hP
  have hD : va_D A (xw ad kk V L Z) := hD
  have hK : va_K D vwCl (xty kk Z) s := hK
  have agV : agr [(1, 3), (1, 8), (6, 8), (6, 9), (6, 10)] [43, 44, 46] V V := agr.rf
  have alL : agL [1, 6, 44] L L := agL.rf
  have r1 : (-1) ≤ ((V 1 1)).toInt ∧ ((V 1 1)).toInt ≤ 1 := hMV 1 1
  have r2 : (-1) ≤ ((V 1 2)).toInt ∧ ((V 1 2)).toInt ≤ 47 := hMV 1 2
  have ln0 := (rel.2.2.1 1 (by decide)).1
  have r3 : xcap (5 * b + 1) = 12 := xcap_1
  refine lv_aload_n hx hb dX1_readSetting_0 rfl (lv_at hl 0 rfl) ?_
  refine va_get (D := D) (ci := 1) (v := rfN ad 38 (V 1 1)) (fs := (xfReader ad V L Z)) (C := RX1) (T := TX1) (N := 9) hx hb hg inX1 hown hK hP 1 xgReader rfl 1 (by decide) (hg _ w305) (fun _ h9 => h9) rfl dX1_readSetting_1 ?_
  refine g_topv (v := .ref (ad (38 + b))) (rfN_r (by omega)) ?_
  refine va_getN (D := D) (ci := 0) (v := .ref (ad (40 + (5 * b + 1)))) (fs := (xfBook ad V b)) (C := RX0) (T := TX0) (N := 13) hx hb hg inX0 hown hK hP (38 + b) (xgBook hb2) rfl 1 (by decide) (hnw.use 597 n597 rfl) (fun _ h9 => h9) rfl dX1_readSetting_4 ?_
  have il4 : (5 * b + 1) < 10 := by (first | exact om_3891d7acfde9 hb2 | omega)
  refine gA_int (gA_runV (As := []) (rest := []) (ci := 6) (q0 := (40 + (5 * b + 1))) hx hb hml hown hg hP hD hK hS hA hnw hgk (x_isFull2 l D ks H.size ad kk V L Z ((5 * b + 1)) hMV (show (5 * b + 1) < 10 from by (first | exact om_3891d7acfde9 hb2 | omega))) w863 w864 w865 w168 w866 rfl (xgNames il4) hdV_yX6_isFull ⟨Nat.le_of_ble_eq_true rfl, Nat.le_of_ble_eq_true rfl⟩ rfl hl.1 rfl (Nat.le_of_ble_eq_true rfl) dX1_readSetting_7 ⟨Nat.le_of_ble_eq_true rfl, Nat.le_of_ble_eq_true rfl⟩) hP hD hK hS hA (fun z5 u6 H locs w7 hP hD hK hS => ?_)
  obtain ⟨rgz5, t8, t9⟩ := w7
  have rgz5 : 0 ≤ z5.toInt ∧ z5.toInt ≤ 1 := rgz5
  have t8 : Imp (z5.toInt = 0) ((V 43 (5 * b + 1)).toInt < ((xcap (5 * b + 1) : Nat) : Int)) := t8
  have t9 : Imp (z5.toInt = 1) (((xcap (5 * b + 1) : Nat) : Int) ≤ (V 43 (5 * b + 1)).toInt) := t9
  refine lv_if_eq (tgt := 19) hx hb dX1_readSetting_10 (by decide) (fun c10 => ?_) (fun c10 => ?_)
  · skip
    have f11 : z5.toInt = 0 := b_eq rfl (by decide) c10
    refine lv_aload_n hx hb dX1_readSetting_19 rfl (lv_at hl 0 rfl) ?_
    refine va_get (D := D) (ci := 1) (v := .ref (ad 6)) (fs := (xfReader ad V L Z)) (C := RX1) (T := TX1) (N := 9) hx hb hg inX1 hown hK hP 1 xgReader rfl 0 (by decide) (hg _ w304) (fun _ h9 => h9) rfl dX1_readSetting_20 ?_
    have hr12 : ∀ k, Rc gT (Crun gs (Istmt :: k)) (Crun gs (Istmt :: k)) := fun k => Rc.rf
    have kd13 : gT.1 (gs.1 0) = ((V 6 9)).toInt := RelC.kd rel
    have hr14 : ∀ k, Rc gT (Crun gs (Istmt :: k)) (Crun (nx gs 1) (InewSet :: k)) := fun k => Rc.go1 (hr12 k) (st_130 (kd13.trans kd9) (by first | omega | ((try (have i_t9 := Imp.go t9 (by omega))); (try (have i_t8 := Imp.go t8 (by omega))); (try (have i_t8 := Imp.go t8 (by omega))); (try (have i_t9 := Imp.go t9 (by omega))); omega)))
    have l815 := RelC.l8 rel
    have r16 : 0 ≤ ((V 6 8)).toInt ∧ ((V 6 8)).toInt ≤ 4000 := hMV 6 8
    have r17 : 0 ≤ ((V 6 7)).toInt ∧ ((V 6 7)).toInt ≤ 4000 := hMV 6 7
    have lk18 := RelC.lk rel (show (V 6 9).toInt ≠ 0 from by (first | exact om_5520743cc628 kd9 | omega))
    refine gA_void (gA_runV (As := []) (rest := []) (ci := 9) (q0 := 6) hx hb hml hown hg hP hD hK hS hA hnw hgk (x_next2 l D ks H.size ad kk V L Z  hMV (show (V 6 8).toInt ≤ (V 6 7).toInt from by first | exact om_f4906d00fa52 l815 | first | omega | ((try (have i_t9 := Imp.go t9 (by omega))); (try (have i_t8 := Imp.go t8 (by omega))); (try (have i_t8 := Imp.go t8 (by omega))); (try (have i_t9 := Imp.go t9 (by omega))); omega))) w871 w852 w853 w157 w854 rfl xgTape hdV_yX9_next ⟨Nat.le_of_ble_eq_true rfl, Nat.le_of_ble_eq_true rfl⟩ rfl hl.1 rfl (Nat.le_of_ble_eq_true rfl) dX1_readSetting_23 ⟨Nat.le_of_ble_eq_true rfl, Nat.le_of_ble_eq_true rfl⟩) hP hD hK hS hA (fun u20 H locs w21 hP hD hK hS => ?_)
    obtain ⟨V24, L25⟩ := u20
    obtain ⟨hMV24, ajV24, axL25, t22, t23⟩ := w21
    have alL25 : agL [1, 6, 44] L L25 := agL.tr alL axL25 (by decide)
    have hP : va_P D vwCl (xw ad kk V24 L25 Z) H := hP
    have hD : va_D A (xw ad kk V24 L25 Z) := hD
    have hMV24 : rgd bX V24 := hMV24
    have ajV24 : agr [(6, 8), (6, 9), (6, 10)] [] V V24 := ajV24
    have agV24 : agr [(1, 3), (1, 8), (6, 8), (6, 9), (6, 10)] [43, 44, 46] V V24 := agV.tr ajV24 (by decide) (by decide)
    have t22 : (V24 6 8).toInt ≤ (V24 6 7).toInt := t22
    have t23 : CUR V24 L25 (Int32.toNatClampNeg (V 6 8)) := t23
    have r26 : 0 ≤ ((V24 6 8)).toInt ∧ ((V24 6 8)).toInt ≤ 4000 := hMV24 6 8
    have pq27 : (V24 6 7).toInt = ((V 6 7)).toInt := congrArg Int32.toInt (ajV24 6 7 rfl)
    have rl28 : RelC V24 L25 b gT (nx gs 1) := RelC.nx1 rel ajV24 (by decide) axL25 (by decide) (by rw [← lk18]; exact t23) (ajV24 1 3 rfl)
    refine lv_aload_n hx hb dX1_readSetting_26 rfl (lv_at hl 0 rfl) ?_
    have pq29 : (V24 1 1).toInt = ((V 1 1)).toInt := congrArg Int32.toInt (ajV24 1 1 rfl)
    refine gA_int (gA_runV (As := []) (rest := []) (ci := 1) (q0 := 1) hx hb hml hown hg hP hD hK hS hA hnw hgk (x_takeNewName3 l D ks H.size ad kk V24 L25 Z (b) (gT) ((nx gs 1)) hMV24 (show b < 2 from by first | exact om_f940a4667dd6 hb2 | first | omega | ((try (have i_t9 := Imp.go t9 (by omega))); (try (have i_t8 := Imp.go t8 (by omega))); (try (have i_t8 := Imp.go t8 (by omega))); (try (have i_t9 := Imp.go t9 (by omega))); omega)) (show (V24 1 1).toInt = (b : Int) from by first | exact om_adf531c77a0d rbk pq29 | first | omega | ((try (have i_t9 := Imp.go t9 (by omega))); (try (have i_t8 := Imp.go t8 (by omega))); (try (have i_t8 := Imp.go t8 (by omega))); (try (have i_t9 := Imp.go t9 (by omega))); omega)) rl28) w872 w874 w7 w162 w875 rfl xgReader hdV_yX1_takeNewName ⟨Nat.le_of_ble_eq_true rfl, Nat.le_of_ble_eq_true rfl⟩ rfl hl.1 rfl (Nat.le_of_ble_eq_true rfl) dX1_readSetting_27 ⟨Nat.le_of_ble_eq_true rfl, Nat.le_of_ble_eq_true rfl⟩) hP hD hK hS hA (fun z30 u31 H locs w32 hP hD hK hS => ?_)
    obtain ⟨V34, L35⟩ := u31
    obtain ⟨hMV34, ajV34, axL35, rgz30, t33⟩ := w32
    have alL35 : agL [1, 6, 44] L L35 := agL.tr alL25 axL35 (by decide)
    have hP : va_P D vwCl (xw ad kk V34 L35 Z) H := hP
    have hD : va_D A (xw ad kk V34 L35 Z) := hD
    have hMV34 : rgd bX V34 := hMV34
    have ajV34 : agr [(1, 3), (6, 8), (6, 9), (6, 10)] [] V24 V34 := ajV34
    have agV34 : agr [(1, 3), (1, 8), (6, 8), (6, 9), (6, 10)] [43, 44, 46] V V34 := agV24.tr ajV34 (by decide) (by decide)
    have rgz30 : 0 ≤ z30.toInt ∧ z30.toInt ≤ 1 := rgz30
    have t33 : KcW (newN gT (nx gs 1)) z30.toInt (V34 1 3).toInt (fun w9 => RelC V34 L35 b gT (nx (nx gs 1) 1) ∧ L35 1 5 = w9) := t33
    rcases t33 with ⟨q36, wx37, h38, rl39, hw40⟩ | ⟨q36, h38⟩
    · skip
      have hr41 : ∀ k, Rc gT (Crun gs (Istmt :: k)) (Crun (nx (nx gs 1) 1) (IsetN wx37 :: k)) := fun k => Rc.go1 (hr14 k) (ns_y h38)
      refine lv_if_ne (tgt := 35) hx hb dX1_readSetting_30 (by decide) (fun c42 => ?_) (fun c42 => ?_)
      · skip
        have f43 : z30.toInt ≠ 0 := b_neq rfl (by decide) c42
        refine lv_aload_n hx hb dX1_readSetting_35 rfl (lv_at hl 0 rfl) ?_
        refine va_get (D := D) (ci := 1) (v := .long (L35 1 5)) (fs := (xfReader ad V34 L35 Z)) (C := RX1) (T := TX1) (N := 9) hx hb hg inX1 hown hK hP 1 xgReader rfl 5 (by decide) (hg _ w309) (fun _ h9 => h9) rfl dX1_readSetting_36 ?_
        refine lv_lstore_n (lv' := [(1, .long (L35 1 5)), (0, .ref (ad 1))]) hx hb dX1_readSetting_39 rfl hl (by decide) rfl (fun ls hl => ?_)
        refine lv_aload_n hx hb dX1_readSetting_40 rfl (lv_at hl 1 rfl) ?_
        refine lv_iconst (v := 0) hx hb dX1_readSetting_41 (by decide) ?_
        refine lv_ldc (v := 999999999) hx hb hown (hg _ w905) dX1_readSetting_42 ?_
        have r44 : Int32.toInt 0 = 0 := by decide
        have r45 : Int32.toInt 999999999 = 999999999 := by decide
        refine gA_int (gA_runV (As := [.int 0, .int 999999999]) (rest := []) (ci := 1) (q0 := 1) hx hb hml hown hg hP hD hK hS hA hnw hgk (x_takeNumber2 l D ks H.size ad kk V34 L35 Z 0 999999999 (((nx (nx gs 1) 1).1 0)) hMV34 (rl39).1 (rl39).2.1.1 (show 0 ≤ (Int32.toInt 0) from by first | exact om_1531b20f57e1 r44 | first | omega | ((try (have i_t9 := Imp.go t9 (by omega))); (try (have i_t8 := Imp.go t8 (by omega))); (try (have i_t8 := Imp.go t8 (by omega))); (try (have i_t9 := Imp.go t9 (by omega))); omega)) (show (Int32.toInt 999999999) ≤ 999999999 from by first | exact om_ffff025b4caa r45 | first | omega | ((try (have i_t9 := Imp.go t9 (by omega))); (try (have i_t8 := Imp.go t8 (by omega))); (try (have i_t8 := Imp.go t8 (by omega))); (try (have i_t9 := Imp.go t9 (by omega))); omega))) w906 w908 w12 w162 w909 rfl xgReader hdV_yX1_takeNumber ⟨Nat.le_of_ble_eq_true rfl, Nat.le_of_ble_eq_true rfl⟩ rfl hl.1 rfl (Nat.le_of_ble_eq_true rfl) dX1_readSetting_44 ⟨Nat.le_of_ble_eq_true rfl, Nat.le_of_ble_eq_true rfl⟩) hP hD hK hS hA (fun z46 u47 H locs w48 hP hD hK hS => ?_)
        obtain ⟨V52, L53⟩ := u47
        obtain ⟨hMV52, ajV52, axL53, rgz46, t49, t50, t51⟩ := w48
        have alL53 : agL [1, 6, 44] L L53 := agL.tr alL35 axL53 (by decide)
        have hP : va_P D vwCl (xw ad kk V52 L53 Z) H := hP
        have hD : va_D A (xw ad kk V52 L53 Z) := hD
        have hMV52 : rgd bX V52 := hMV52
        have ajV52 : agr [(1, 3), (1, 8), (6, 8), (6, 9), (6, 10)] [] V34 V52 := ajV52
        have agV52 : agr [(1, 3), (1, 8), (6, 8), (6, 9), (6, 10)] [43, 44, 46] V V52 := agV34.tr ajV52 (by decide) (by decide)
        have rgz46 : 0 ≤ z46.toInt ∧ z46.toInt ≤ 1 := rgz46
        have t49 : Imp (z46.toInt = 1) ((Int32.toInt 0) ≤ (V52 1 8).toInt ∧ (V52 1 8).toInt ≤ (Int32.toInt 999999999)) := t49
        have t50 : Imp (z46.toInt = 0) (1 ≤ (V52 1 3).toInt) := t50
        have t51 : (z46.toInt = 1 ∧ (V34 12 ((nx (nx gs 1) 1).1 0)).toInt = 2 ∧ (Int32.toInt 0) ≤ (L35 14 ((nx (nx gs 1) 1).1 0)).toInt ∧ (L35 14 ((nx (nx gs 1) 1).1 0)).toInt ≤ (Int32.toInt 999999999) ∧ CUR V52 L53 (((nx (nx gs 1) 1).1 0) + 1) ∧ (V52 1 8).toInt = (L35 14 ((nx (nx gs 1) 1).1 0)).toInt ∧ V52 1 3 = V34 1 3) ∨ (z46.toInt = 0 ∧ (((V34 12 ((nx (nx gs 1) 1).1 0)).toInt ≠ 2 ∧ (V52 1 3).toInt = 1 + 16 * (V34 13 ((nx (nx gs 1) 1).1 0)).toInt) ∨ ((V34 12 ((nx (nx gs 1) 1).1 0)).toInt = 2 ∧ ((L35 14 ((nx (nx gs 1) 1).1 0)).toInt < (Int32.toInt 0) ∨ (Int32.toInt 999999999) < (L35 14 ((nx (nx gs 1) 1).1 0)).toInt) ∧ (V52 1 3).toInt = 4 + 16 * (V34 13 ((nx (nx gs 1) 1).1 0)).toInt))) := t51
        have r54 : 0 ≤ ((V52 1 8)).toInt ∧ ((V52 1 8)).toInt ≤ 999999999 := hMV52 1 8
        have nv62 := congrArg Int64.toInt rl39.tok.2.1
        rcases t51 with ⟨q55, h56, h57, h58, k59, k60, k61⟩ | ⟨q55, ⟨h56, k59⟩ | ⟨h56, h57, k59⟩⟩
        · skip
          have rl63 : RelC V52 L53 b gT (nx (nx (nx gs 1) 1) 1) := RelC.nx1 rl39 ajV52 (by decide) axL53 (by decide) k59 k61
          have hr64 : ∀ k, Rc gT (Crun gs (Istmt :: k)) (Crun (nx (nx (nx gs 1) 1) 1) (Itake 59 :: IaddSe wx37 ((gT.2.1 ((nx (nx gs 1) 1).1 0)).toInt.toNat) :: Istmt :: k)) := fun k => Rc.go1 (hr41 k) (vs_y (rl39.tok.1.trans h56) (by omega) (by omega))
          have nq65 : (V52 1 8).toInt = (((gT.2.1 ((nx (nx gs 1) 1).1 0)).toInt.toNat : Nat) : Int) := by omega
          refine lv_if_eq (tgt := 59) hx hb dX1_readSetting_47 (by decide) (fun c66 => ?_) (fun c66 => ?_)
          · skip
            have f67 : z46.toInt = 0 := b_eq rfl (by decide) c66
            exfalso; first | exact om_495ee03a60ae q55 f67 | first | omega | ((try (have i_t50 := Imp.go t50 (f67))); (try (have i_t8 := Imp.go t8 (f11))); omega) | ((try (have i_t50 := Imp.go t50 (by omega))); (try (have i_t49 := Imp.go t49 (by omega))); (try (have i_t9 := Imp.go t9 (by omega))); (try (have i_t8 := Imp.go t8 (by omega))); first | omega | ((try (have i_t8 := Imp.go t8 (by omega))); (try (have i_t9 := Imp.go t9 (by omega))); (try (have i_t49 := Imp.go t49 (by omega))); (try (have i_t50 := Imp.go t50 (by omega))); omega))
          · skip
            have f68 : z46.toInt ≠ 0 := b_neq rfl (by decide) c66
            refine lv_aload_n hx hb dX1_readSetting_50 rfl (lv_at hl 1 rfl) ?_
            refine lv_bipush (v := 59) hx hb dX1_readSetting_51 (by decide) ?_
            have r69 : Int32.toInt 59 = 59 := by decide
            refine gA_int (gA_runV (As := [.int 59]) (rest := []) (ci := 1) (q0 := 1) hx hb hml hown hg hP hD hK hS hA hnw hgk (x_take2 l D ks H.size ad kk V52 L53 Z 59 (((nx (nx (nx gs 1) 1) 1).1 0)) hMV52 (rl63).1 (rl63).2.1.1 (show 1 ≤ (Int32.toInt 59) from by first | exact om_de934181d724 r69 | first | omega | ((try (have i_t49 := Imp.go t49 (imp_a (rgz46.1) (rgz46.2) (f68)))); (try (have i_t8 := Imp.go t8 (f11))); omega) | ((try (have i_t50 := Imp.go t50 (by omega))); (try (have i_t49 := Imp.go t49 (by omega))); (try (have i_t9 := Imp.go t9 (by omega))); (try (have i_t8 := Imp.go t8 (by omega))); first | omega | ((try (have i_t8 := Imp.go t8 (by omega))); (try (have i_t9 := Imp.go t9 (by omega))); (try (have i_t49 := Imp.go t49 (by omega))); (try (have i_t50 := Imp.go t50 (by omega))); omega)))) w893 w895 w10 w162 w896 rfl xgReader hdV_yX1_take ⟨Nat.le_of_ble_eq_true rfl, Nat.le_of_ble_eq_true rfl⟩ rfl hl.1 rfl (Nat.le_of_ble_eq_true rfl) dX1_readSetting_53 ⟨Nat.le_of_ble_eq_true rfl, Nat.le_of_ble_eq_true rfl⟩) hP hD hK hS hA (fun z70 u71 H locs w72 hP hD hK hS => ?_)
            obtain ⟨V75, L76⟩ := u71
            obtain ⟨hMV75, ajV75, axL76, rgz70, t73, t74⟩ := w72
            have alL76 : agL [1, 6, 44] L L76 := agL.tr alL53 axL76 (by decide)
            have hP : va_P D vwCl (xw ad kk V75 L76 Z) H := hP
            have hD : va_D A (xw ad kk V75 L76 Z) := hD
            have hMV75 : rgd bX V75 := hMV75
            have ajV75 : agr [(1, 3), (6, 8), (6, 9), (6, 10)] [] V52 V75 := ajV75
            have agV75 : agr [(1, 3), (1, 8), (6, 8), (6, 9), (6, 10)] [43, 44, 46] V V75 := agV52.tr ajV75 (by decide) (by decide)
            have rgz70 : 0 ≤ z70.toInt ∧ z70.toInt ≤ 1 := rgz70
            have t73 : Imp (z70.toInt = 0) (1 ≤ (V75 1 3).toInt) := t73
            have t74 : (z70.toInt = 1 ∧ (V52 12 ((nx (nx (nx gs 1) 1) 1).1 0)).toInt = (Int32.toInt 59) ∧ CUR V75 L76 (((nx (nx (nx gs 1) 1) 1).1 0) + 1) ∧ V75 1 3 = V52 1 3) ∨ (z70.toInt = 0 ∧ (V52 12 ((nx (nx (nx gs 1) 1) 1).1 0)).toInt ≠ (Int32.toInt 59) ∧ (V75 1 3).toInt = 1 + 16 * (V52 13 ((nx (nx (nx gs 1) 1) 1).1 0)).toInt) := t74
            rcases t74 with ⟨q77, h78, k79, k80⟩ | ⟨q77, h78, k79⟩
            · skip
              have rl81 : RelC V75 L76 b gT (nx (nx (nx (nx gs 1) 1) 1) 1) := RelC.nx1 rl63 ajV75 (by decide) axL76 (by decide) k79 k80
              have hr82 : ∀ k, Rc gT (Crun gs (Istmt :: k)) (Crun (nx (nx (nx (nx gs 1) 1) 1) 1) (IaddSe wx37 ((gT.2.1 ((nx (nx gs 1) 1).1 0)).toInt.toNat) :: Istmt :: k)) := fun k => Rc.go1 (hr64 k) (tk_y (rl63.tok.1.trans (h78.trans (by decide))))
              refine lv_if_ne (tgt := 61) hx hb dX1_readSetting_56 (by decide) (fun c83 => ?_) (fun c83 => ?_)
              · skip
                have f84 : z70.toInt ≠ 0 := b_neq rfl (by decide) c83
                refine lv_aload_n hx hb dX1_readSetting_61 rfl (lv_at hl 1 rfl) ?_
                refine va_get (D := D) (ci := 1) (v := rfN ad 38 (V75 1 1)) (fs := (xfReader ad V75 L76 Z)) (C := RX1) (T := TX1) (N := 9) hx hb hg inX1 hown hK hP 1 xgReader rfl 1 (by decide) (hg _ w305) (fun _ h9 => h9) rfl dX1_readSetting_62 ?_
                have pq85 : (V75 1 1).toInt = ((V 1 1)).toInt := congrArg Int32.toInt ((ajV75 1 1 rfl).trans ((ajV52 1 1 rfl).trans ((ajV34 1 1 rfl).trans (ajV24 1 1 rfl))))
                refine g_topv (v := .ref (ad (38 + b))) (rfN_r (by first | omega | ((try (have i_t49 := Imp.go t49 (imp_a (rgz46.1) (rgz46.2) (f68)))); (try (have i_t8 := Imp.go t8 (f11))); omega) | ((try (have i_t73 := Imp.go t73 (by omega))); (try (have i_t50 := Imp.go t50 (by omega))); (try (have i_t49 := Imp.go t49 (by omega))); (try (have i_t9 := Imp.go t9 (by omega))); first | omega | ((try (have i_t8 := Imp.go t8 (by omega))); (try (have i_t8 := Imp.go t8 (by omega))); (try (have i_t9 := Imp.go t9 (by omega))); (try (have i_t49 := Imp.go t49 (by omega))); (try (have i_t50 := Imp.go t50 (by omega))); (try (have i_t73 := Imp.go t73 (by omega))); omega)))) ?_
                refine va_getN (D := D) (ci := 0) (v := .ref (ad (40 + (5 * b + 1)))) (fs := (xfBook ad V75 b)) (C := RX0) (T := TX0) (N := 13) hx hb hg inX0 hown hK hP (38 + b) (xgBook hb2) rfl 1 (by decide) (hnw.use 597 n597 rfl) (fun _ h9 => h9) rfl dX1_readSetting_65 ?_
                refine lv_lload_n hx hb dX1_readSetting_68 rfl (lv_at hl 0 rfl) ?_
                have ad1 := (rl81.2.2.1 1 (by decide)).1
                have ad2 := congrArg List.length (((keepS.tr (keepS.tr (keepS.tr (keepS.tr (keepS.rf : keepS gs 0 gs) (keepS.n1 1)) (keepS.n1 1)) (keepS.n1 1)) (keepS.n1 1))).2.2.1 1 (by decide))
                have ad3 := ln0
                refine gA_int (gA_runV (As := [.long (L35 1 5)]) (rest := []) (ci := 6) (q0 := (40 + (5 * b + 1))) hx hb hml hown hg hP hD hK hS hA hnw hgk (x_add2 l D ks H.size ad kk V75 L76 Z (L35 1 5) ((5 * b + 1)) hMV75 (show (5 * b + 1) < 10 from by first | exact om_3891d7acfde9 hb2 | first | omega | ((try (have i_t49 := Imp.go t49 (imp_a (rgz46.1) (rgz46.2) (f68)))); (try (have i_t8 := Imp.go t8 (f11))); omega) | ((try (have i_t73 := Imp.go t73 (by omega))); (try (have i_t50 := Imp.go t50 (by omega))); (try (have i_t49 := Imp.go t49 (by omega))); (try (have i_t9 := Imp.go t9 (by omega))); first | omega | ((try (have i_t8 := Imp.go t8 (by omega))); (try (have i_t8 := Imp.go t8 (by omega))); (try (have i_t9 := Imp.go t9 (by omega))); (try (have i_t49 := Imp.go t49 (by omega))); (try (have i_t50 := Imp.go t50 (by omega))); (try (have i_t73 := Imp.go t73 (by omega))); omega)))) w897 w898 w899 w168 w900 rfl (xgNames il4) hdV_yX6_add ⟨Nat.le_of_ble_eq_true rfl, Nat.le_of_ble_eq_true rfl⟩ rfl hl.1 rfl (Nat.le_of_ble_eq_true rfl) dX1_readSetting_69 ⟨Nat.le_of_ble_eq_true rfl, Nat.le_of_ble_eq_true rfl⟩) hP hD hK hS hA (fun z86 u87 H locs w88 hP hD hK hS => ?_)
                obtain ⟨V94, L95⟩ := u87
                obtain ⟨hMV94, ajV94, axL95, fyV94, rgz86, t89, t90, t91, t92, t93⟩ := w88
                have alL95 : agL [1, 6, 44] L L95 := agL.tr alL76 axL95 (by decide)
                have hP : va_P D vwCl (xw ad kk V94 L95 Z) H := hP
                have hD : va_D A (xw ad kk V94 L95 Z) := hD
                have hMV94 : rgd bX V94 := hMV94
                have ajV94 : agr [] [43, 44] V75 V94 := ajV94
                have agV94 : agr [(1, 3), (1, 8), (6, 8), (6, 9), (6, 10)] [43, 44, 46] V V94 := agV75.tr ajV94 (by decide) (by decide)
                have rgz86 : (-1) ≤ z86.toInt ∧ z86.toInt ≤ 23 := rgz86
                have t89 : z86.toInt < (V94 43 (5 * b + 1)).toInt := t89
                have t90 : Imp ((V75 43 (5 * b + 1)).toInt < ((xcap (5 * b + 1) : Nat) : Int)) (z86.toInt = (V75 43 (5 * b + 1)).toInt ∧ (V94 43 (5 * b + 1)).toInt = (V75 43 (5 * b + 1)).toInt + 1) := t90
                have t91 : Imp (((xcap (5 * b + 1) : Nat) : Int) ≤ (V75 43 (5 * b + 1)).toInt) (z86.toInt = -1 ∧ (V94 43 (5 * b + 1)).toInt = (V75 43 (5 * b + 1)).toInt) := t91
                have t92 : ∀ n : Nat, ¬ n = (5 * b + 1) → V94 43 n = V75 43 n := t92
                have t93 : (z86.toInt = -1 ∧ L95 = L76) ∨ (0 ≤ z86.toInt ∧ L95 = upL L76 44 (24 * (5 * b + 1) + Int32.toNatClampNeg (V75 43 (5 * b + 1))) (L35 1 5)) := t93
                have ig98 := Imp.go t90 (by first | omega | ((try (have i_t49 := Imp.go t49 (imp_a (rgz46.1) (rgz46.2) (f68)))); (try (have i_t8 := Imp.go t8 (f11))); omega) | ((try (have i_t73 := Imp.go t73 (by omega))); (try (have i_t50 := Imp.go t50 (by omega))); (try (have i_t49 := Imp.go t49 (by omega))); (try (have i_t9 := Imp.go t9 (by omega))); first | omega | ((try (have i_t8 := Imp.go t8 (by omega))); (try (have i_t8 := Imp.go t8 (by omega))); (try (have i_t9 := Imp.go t9 (by omega))); (try (have i_t49 := Imp.go t49 (by omega))); (try (have i_t50 := Imp.go t50 (by omega))); (try (have i_t73 := Imp.go t73 (by omega))); omega)))
                rcases t93 with ⟨q96, h97⟩ | ⟨q96, h97⟩
                · exfalso; omega
                · skip
                  have rl99 : RelC V94 L95 b gT (sA (nx (nx (nx (nx gs 1) 1) 1) 1) 1 wx37) := RelC.add rl81 (by decide) ajV94 (by decide) t92 ig98.2 (by rw [← hw40]; exact h97) (sz24 hMV75) (by (first | exact om_760006048021 rgz86.2 ig98.1 | omega))
                  have rl100 : RelC V94 L95 b gT (seS (nx (nx (nx (nx gs 1) 1) 1) 1) wx37 ((gT.2.1 ((nx (nx gs 1) 1).1 0)).toInt.toNat)) := RelC.nu rl99 seS_5 rfl
                  have hr101 : ∀ k, Rc gT (Crun gs (Istmt :: k)) (Crun (seS (nx (nx (nx (nx gs 1) 1) 1) 1) wx37 ((gT.2.1 ((nx (nx gs 1) 1).1 0)).toInt.toNat)) (Istmt :: k)) := fun k => Rc.go1 (hr82 k) (m_addSe wx37 ((gT.2.1 ((nx (nx gs 1) 1).1 0)).toInt.toNat))
                  have sz1 : (V94 43 (5 * b + 1)).toInt ≤ ((xcap (5 * b + 1) : Nat) : Int) := (hMV94 43 (5 * b + 1)).2
                  refine lv_istore_n (lv' := [(3, .int z86), (1, .long (L35 1 5)), (0, .ref (ad 1))]) hx hb dX1_readSetting_72 rfl hl (by decide) rfl (fun ls hl => ?_)
                  refine lv_iload_n hx hb dX1_readSetting_73 rfl (lv_at hl 0 rfl) ?_
                  refine lv_iconst (v := (-1)) hx hb dX1_readSetting_74 (by decide) ?_
                  refine lv_icmp_eq (tgt := 91) hx hb dX1_readSetting_75 (by decide) (fun c102 => ?_) (fun c102 => ?_)
                  · skip
                    have f103 : z86.toInt = (-1) := b_eq rfl (by decide) c102
                    exfalso; first | exact om_336fd5583133 q96 f103 | first | omega | ((try (have i_t49 := Imp.go t49 (imp_a (rgz46.1) (rgz46.2) (f68)))); (try (have i_t8 := Imp.go t8 (f11))); omega) | ((try (have i_t91 := Imp.go t91 (by omega))); (try (have i_t90 := Imp.go t90 (by omega))); (try (have i_t73 := Imp.go t73 (by omega))); (try (have i_t50 := Imp.go t50 (by omega))); first | omega | ((try (have i_t49 := Imp.go t49 (by omega))); (try (have i_t9 := Imp.go t9 (by omega))); (try (have i_t8 := Imp.go t8 (by omega))); (try (have i_t8 := Imp.go t8 (by omega))); first | omega | ((try (have i_t9 := Imp.go t9 (by omega))); (try (have i_t49 := Imp.go t49 (by omega))); (try (have i_t50 := Imp.go t50 (by omega))); (try (have i_t73 := Imp.go t73 (by omega))); (try (have i_t90 := Imp.go t90 (by omega))); (try (have i_t91 := Imp.go t91 (by omega))); omega)))
                  · skip
                    have f104 : z86.toInt ≠ (-1) := b_neq rfl (by decide) c102
                    refine lv_aload_n hx hb dX1_readSetting_78 rfl (lv_at hl 2 rfl) ?_
                    refine va_get (D := D) (ci := 1) (v := rfN ad 38 (V94 1 1)) (fs := (xfReader ad V94 L95 Z)) (C := RX1) (T := TX1) (N := 9) hx hb hg inX1 hown hK hP 1 xgReader rfl 1 (by decide) (hg _ w305) (fun _ h9 => h9) rfl dX1_readSetting_79 ?_
                    have pq105 : (V94 1 1).toInt = ((V 1 1)).toInt := congrArg Int32.toInt ((ajV94 1 1 rfl).trans ((ajV75 1 1 rfl).trans ((ajV52 1 1 rfl).trans ((ajV34 1 1 rfl).trans (ajV24 1 1 rfl)))))
                    refine g_topv (v := .ref (ad (38 + b))) (rfN_r (by first | omega | ((try (have i_t49 := Imp.go t49 (imp_a (rgz46.1) (rgz46.2) (f68)))); (try (have i_t8 := Imp.go t8 (f11))); omega) | ((try (have i_t91 := Imp.go t91 (by omega))); (try (have i_t90 := Imp.go t90 (by omega))); (try (have i_t73 := Imp.go t73 (by omega))); (try (have i_t50 := Imp.go t50 (by omega))); first | omega | ((try (have i_t49 := Imp.go t49 (by omega))); (try (have i_t9 := Imp.go t9 (by omega))); (try (have i_t8 := Imp.go t8 (by omega))); (try (have i_t8 := Imp.go t8 (by omega))); first | omega | ((try (have i_t9 := Imp.go t9 (by omega))); (try (have i_t49 := Imp.go t49 (by omega))); (try (have i_t50 := Imp.go t50 (by omega))); (try (have i_t73 := Imp.go t73 (by omega))); (try (have i_t90 := Imp.go t90 (by omega))); (try (have i_t91 := Imp.go t91 (by omega))); omega))))) ?_
                    refine va_getN (D := D) (ci := 0) (v := .ref (ad (62 + b))) (fs := (xfBook ad V94 b)) (C := RX0) (T := TX0) (N := 13) hx hb hg inX0 hown hK hP (38 + b) (xgBook hb2) rfl 6 (by decide) (hnw.use 612 n612 rfl) (fun _ h9 => h9) rfl dX1_readSetting_82 ?_
                    refine lv_iload_n hx hb dX1_readSetting_85 rfl (lv_at hl 0 rfl) ?_
                    refine lv_aload_n hx hb dX1_readSetting_86 rfl (lv_at hl 2 rfl) ?_
                    refine va_get (D := D) (ci := 1) (v := .int (V94 1 8)) (fs := (xfReader ad V94 L95 Z)) (C := RX1) (T := TX1) (N := 9) hx hb hg inX1 hown hK hP 1 xgReader rfl 8 (by decide) (hg _ w312) (fun _ h9 => h9) rfl dX1_readSetting_87 ?_
                    refine g_top (v := (V52 1 8)) ((ajV94 1 8 rfl).trans (ajV75 1 8 rfl)) ?_
                    have il106 : b < 2 := by first | exact om_f940a4667dd6 hb2 | first | omega | ((try (have i_t49 := Imp.go t49 (imp_a (rgz46.1) (rgz46.2) (f68)))); (try (have i_t8 := Imp.go t8 (f11))); omega) | ((try (have i_t91 := Imp.go t91 (by omega))); (try (have i_t90 := Imp.go t90 (by omega))); (try (have i_t73 := Imp.go t73 (by omega))); (try (have i_t50 := Imp.go t50 (by omega))); first | omega | ((try (have i_t49 := Imp.go t49 (by omega))); (try (have i_t9 := Imp.go t9 (by omega))); (try (have i_t8 := Imp.go t8 (by omega))); (try (have i_t8 := Imp.go t8 (by omega))); first | omega | ((try (have i_t9 := Imp.go t9 (by omega))); (try (have i_t49 := Imp.go t49 (by omega))); (try (have i_t50 := Imp.go t50 (by omega))); (try (have i_t73 := Imp.go t73 (by omega))); (try (have i_t90 := Imp.go t90 (by omega))); (try (have i_t91 := Imp.go t91 (by omega))); omega)))
                    refine va_iast (D := D) (i := z86) (x := (V52 1 8)) hx hb hK hP hD hS (62 + b) (55 + b) (xgsettingValues il106) (xtsettingValues il106) (i_in (a := z86.toInt) rfl (by first | exact om_f851845303c2 r3 rgz86.1 ig98.1 ig98.2 sz1 f104 | first | omega | ((try (have i_t49 := Imp.go t49 (imp_a (rgz46.1) (rgz46.2) (f68)))); (try (have i_t8 := Imp.go t8 (f11))); omega) | ((try (have i_t91 := Imp.go t91 (by omega))); (try (have i_t90 := Imp.go t90 (by omega))); (try (have i_t73 := Imp.go t73 (by omega))); (try (have i_t50 := Imp.go t50 (by omega))); first | omega | ((try (have i_t49 := Imp.go t49 (by omega))); (try (have i_t9 := Imp.go t9 (by omega))); (try (have i_t8 := Imp.go t8 (by omega))); (try (have i_t8 := Imp.go t8 (by omega))); first | omega | ((try (have i_t9 := Imp.go t9 (by omega))); (try (have i_t49 := Imp.go t49 (by omega))); (try (have i_t50 := Imp.go t50 (by omega))); (try (have i_t73 := Imp.go t73 (by omega))); (try (have i_t90 := Imp.go t90 (by omega))); (try (have i_t91 := Imp.go t91 (by omega))); omega))))) dX1_readSetting_90 (fun H locs hP hD hS => ?_)
                    have kc107 := i_clamp (x := z86) rfl (by first | exact om_e3b1d6ac9ce8 rgz86.1 f104 | first | omega | ((try (have i_t49 := Imp.go t49 (imp_a (rgz46.1) (rgz46.2) (f68)))); (try (have i_t8 := Imp.go t8 (f11))); omega) | ((try (have i_t91 := Imp.go t91 (by omega))); (try (have i_t90 := Imp.go t90 (by omega))); (try (have i_t73 := Imp.go t73 (by omega))); (try (have i_t50 := Imp.go t50 (by omega))); first | omega | ((try (have i_t49 := Imp.go t49 (by omega))); (try (have i_t9 := Imp.go t9 (by omega))); (try (have i_t8 := Imp.go t8 (by omega))); (try (have i_t8 := Imp.go t8 (by omega))); first | omega | ((try (have i_t9 := Imp.go t9 (by omega))); (try (have i_t49 := Imp.go t49 (by omega))); (try (have i_t50 := Imp.go t50 (by omega))); (try (have i_t73 := Imp.go t73 (by omega))); (try (have i_t90 := Imp.go t90 (by omega))); (try (have i_t91 := Imp.go t91 (by omega))); omega))))
                    have kl108 : (Int32.toNatClampNeg z86) < 12 := by first | exact om_27202991b100 r3 t89 sz1 kc107 | first | omega | ((try (have i_t49 := Imp.go t49 (imp_a (rgz46.1) (rgz46.2) (f68)))); (try (have i_t8 := Imp.go t8 (f11))); omega) | ((try (have i_t91 := Imp.go t91 (by omega))); (try (have i_t90 := Imp.go t90 (by omega))); (try (have i_t73 := Imp.go t73 (by omega))); (try (have i_t50 := Imp.go t50 (by omega))); first | omega | ((try (have i_t49 := Imp.go t49 (by omega))); (try (have i_t9 := Imp.go t9 (by omega))); (try (have i_t8 := Imp.go t8 (by omega))); (try (have i_t8 := Imp.go t8 (by omega))); first | omega | ((try (have i_t9 := Imp.go t9 (by omega))); (try (have i_t49 := Imp.go t49 (by omega))); (try (have i_t50 := Imp.go t50 (by omega))); (try (have i_t73 := Imp.go t73 (by omega))); (try (have i_t90 := Imp.go t90 (by omega))); (try (have i_t91 := Imp.go t91 (by omega))); omega)))
                    obtain ⟨V109, hV109⟩ : ∃ z, z = up2 V94 46 (12 * b + (Int32.toNatClampNeg z86)) (V52 1 8) := ⟨_, rfl⟩
                    have ew110 : (xw ad kk V94 L95 Z).set (62 + b) ((ad (62 + b)), .inl ((kk (62 + b)), 12, .inl (upd (fun q => if q < 12 then V94 46 (12 * b + q) else 0) (Int32.toNatClampNeg z86) (V52 1 8)))) = xw ad kk V109 L95 Z := by rw [hV109]; exact xpsettingValues il106 kl108
                    have hP : va_P D vwCl (xw ad kk V109 L95 Z) H := by rw [← ew110]; exact hP
                    have hD : va_D A (xw ad kk V109 L95 Z) := by rw [← ew110]; exact hD
                    have hMV109 : rgd bX V109 := hMV94.put hV109 (i_full _)
                    have agV109 : agr [(1, 3), (1, 8), (6, 8), (6, 9), (6, 10)] [43, 44, 46] V V109 := agV94.up hV109 rfl
                    have cn111 : CNc V94 b gs := CNc.ag cno.1 (show agr [(1, 3), (1, 8), (6, 8), (6, 9), (6, 10)] [43, 44] V V94 from (agr.tr (agr.tr (agr.tr (agr.tr (agr.tr agr.rf ajV24 (by decide) (by decide)) ajV34 (by decide) (by decide)) ajV52 (by decide) (by decide)) ajV75 (by decide) (by decide)) ajV94 (by decide) (by decide))) (by decide) keepC.rf
                    have cn112 : CNc V94 b (nx (nx (nx (nx gs 1) 1) 1) 1) := CNc.mv cn111 (fun _ _ _ => rfl) (keepC.tr (keepC.tr (keepC.tr (keepC.tr (keepC.rf : keepC gs gs) (keepS.c (keepS.n1 1))) (keepS.c (keepS.n1 1))) (keepS.c (keepS.n1 1))) (keepS.c (keepS.n1 1)))
                    have pq114 : (V94 1 8).toInt = ((V52 1 8)).toInt := congrArg Int32.toInt ((ajV94 1 8 rfl).trans (ajV75 1 8 rfl))
                    have kp9 : (12 * b + (Int32.toNatClampNeg z86)) = 12 * b + ((nx (nx (nx (nx gs 1) 1) 1) 1).2.1 1).length := by have h9 := i_clamp (x := z86) rfl (by (first | exact om_e3b1d6ac9ce8 rgz86.1 f104 | omega)); omega
                    have cn113 : CNc V109 b (seS (nx (nx (nx (nx gs 1) 1) 1) 1) wx37 ((gT.2.1 ((nx (nx gs 1) 1).1 0)).toInt.toNat)) := CNc.se cn112 hV109 kp9 (show ((V52 1 8)).toInt = (((gT.2.1 ((nx (nx gs 1) 1).1 0)).toInt.toNat : Nat) : Int) from by (first | exact om_08e0c9701055 nq65 | omega)) (by (first | exact om_662a2db27a8d r3 t89 sz1 kc107 kp9 | omega))
                    refine lv_iconst (v := 1) hx hb dX1_readSetting_91 (by decide) ?_
                    have rl115 : RelC V109 L95 b gT (seS (nx (nx (nx (nx gs 1) 1) 1) 1) wx37 ((gT.2.1 ((nx (nx gs 1) 1).1 0)).toInt.toNat)) := RelC.ag rl100 (show agr [] [46] V94 V109 from (agr.up agr.rf hV109 rfl)) (by decide) (show agL [] L95 L95 from agL.rf) (by decide)
                    have pq116 : (V109 1 2).toInt = ((V 1 2)).toInt := congrArg Int32.toInt ((up2_o hV109 (by decide)).trans ((ajV94 1 2 rfl).trans ((ajV75 1 2 rfl).trans ((ajV52 1 2 rfl).trans ((ajV34 1 2 rfl).trans (ajV24 1 2 rfl))))))
                    have cd117 : CDc V109 b gs := CDc.ag ceo.1 (show agr [(1, 3), (1, 8), (6, 8), (6, 9), (6, 10)] [43, 44, 46] V V109 from (agr.up (agr.tr (agr.tr (agr.tr (agr.tr (agr.tr agr.rf ajV24 (by decide) (by decide)) ajV34 (by decide) (by decide)) ajV52 (by decide) (by decide)) ajV75 (by decide) (by decide)) ajV94 (by decide) (by decide)) hV109 rfl)) (fun _ => rfl) (fun _ => rfl)
                    have cd118 : CDc V109 b (seS (nx (nx (nx (nx gs 1) 1) 1) 1) wx37 ((gT.2.1 ((nx (nx gs 1) 1).1 0)).toInt.toNat)) := CDc.mv cd117 (fun j9 h9 => ((show ∀ j9, j9 = 5 ∨ 2000 ≤ j9 → (seS (nx (nx (nx (nx gs 1) 1) 1) 1) wx37 ((gT.2.1 ((nx (nx gs 1) 1).1 0)).toInt.toNat)).2.1 j9 = (nx (nx (nx (nx gs 1) 1) 1) 1).2.1 j9 from fun j9 h9 => (show ∀ j9, 5 ≤ j9 → (seS (nx (nx (nx (nx gs 1) 1) 1) 1) wx37 ((gT.2.1 ((nx (nx gs 1) 1).1 0)).toInt.toNat)).2.1 j9 = (nx (nx (nx (nx gs 1) 1) 1) 1).2.1 j9 from fun j9 h9 => upB_p _ _ _ (by omega)) j9 (by omega)) j9 h9).trans ((fun j9 h9 => ((show ∀ j9, j9 = 5 ∨ 2000 ≤ j9 → (nx (nx (nx (nx gs 1) 1) 1) 1).2.1 j9 = (nx (nx (nx gs 1) 1) 1).2.1 j9 from fun j9 h9 => (show ∀ j9, 5 ≤ j9 → (nx (nx (nx (nx gs 1) 1) 1) 1).2.1 j9 = (nx (nx (nx gs 1) 1) 1).2.1 j9 from fun _ _ => rfl) j9 (by omega)) j9 h9).trans ((fun j9 h9 => ((show ∀ j9, j9 = 5 ∨ 2000 ≤ j9 → (nx (nx (nx gs 1) 1) 1).2.1 j9 = (nx (nx gs 1) 1).2.1 j9 from fun j9 h9 => (show ∀ j9, 5 ≤ j9 → (nx (nx (nx gs 1) 1) 1).2.1 j9 = (nx (nx gs 1) 1).2.1 j9 from fun _ _ => rfl) j9 (by omega)) j9 h9).trans ((fun j9 h9 => ((show ∀ j9, j9 = 5 ∨ 2000 ≤ j9 → (nx (nx gs 1) 1).2.1 j9 = (nx gs 1).2.1 j9 from fun j9 h9 => (show ∀ j9, 5 ≤ j9 → (nx (nx gs 1) 1).2.1 j9 = (nx gs 1).2.1 j9 from fun _ _ => rfl) j9 (by omega)) j9 h9).trans ((show ∀ j9, j9 = 5 ∨ 2000 ≤ j9 → (nx gs 1).2.1 j9 = gs.2.1 j9 from fun j9 h9 => (show ∀ j9, 5 ≤ j9 → (nx gs 1).2.1 j9 = gs.2.1 j9 from fun _ _ => rfl) j9 (by omega)) j9 h9)) j9 h9)) j9 h9)) j9 h9))
                    have re119 : REc V109 b gs := REc.ag ceo.2.1 (show agr [(1, 3), (1, 8), (6, 8), (6, 9), (6, 10)] [43, 44, 46] V V109 from (agr.up (agr.tr (agr.tr (agr.tr (agr.tr (agr.tr agr.rf ajV24 (by decide) (by decide)) ajV34 (by decide) (by decide)) ajV52 (by decide) (by decide)) ajV75 (by decide) (by decide)) ajV94 (by decide) (by decide)) hV109 rfl)) (fun _ => rfl) (fun _ => rfl) (fun _ => rfl) keepE.rf rfl
                    have re120 : REc V109 b (seS (nx (nx (nx (nx gs 1) 1) 1) 1) wx37 ((gT.2.1 ((nx (nx gs 1) 1).1 0)).toInt.toNat)) := REc.mv re119 (fun _ _ _ _ => rfl) (keepE.tr (keepE.tr (keepE.tr (keepE.tr (keepE.tr (keepE.rf : keepE gs gs) (show keepE gs (nx gs 1) from keepE.eq (show ∀ j9, 5 ≤ j9 → (nx gs 1).2.1 j9 = gs.2.1 j9 from fun _ _ => rfl))) (show keepE (nx gs 1) (nx (nx gs 1) 1) from keepE.eq (show ∀ j9, 5 ≤ j9 → (nx (nx gs 1) 1).2.1 j9 = (nx gs 1).2.1 j9 from fun _ _ => rfl))) (show keepE (nx (nx gs 1) 1) (nx (nx (nx gs 1) 1) 1) from keepE.eq (show ∀ j9, 5 ≤ j9 → (nx (nx (nx gs 1) 1) 1).2.1 j9 = (nx (nx gs 1) 1).2.1 j9 from fun _ _ => rfl))) (show keepE (nx (nx (nx gs 1) 1) 1) (nx (nx (nx (nx gs 1) 1) 1) 1) from keepE.eq (show ∀ j9, 5 ≤ j9 → (nx (nx (nx (nx gs 1) 1) 1) 1).2.1 j9 = (nx (nx (nx gs 1) 1) 1).2.1 j9 from fun _ _ => rfl))) (show keepE (nx (nx (nx (nx gs 1) 1) 1) 1) (seS (nx (nx (nx (nx gs 1) 1) 1) 1) wx37 ((gT.2.1 ((nx (nx gs 1) 1).1 0)).toInt.toNat)) from keepE.eq (show ∀ j9, 5 ≤ j9 → (seS (nx (nx (nx (nx gs 1) 1) 1) 1) wx37 ((gT.2.1 ((nx (nx gs 1) 1).1 0)).toInt.toNat)).2.1 j9 = (nx (nx (nx (nx gs 1) 1) 1) 1).2.1 j9 from fun j9 h9 => upB_p _ _ _ (by omega)))) ((rfl : (seS (nx (nx (nx (nx gs 1) 1) 1) 1) wx37 ((gT.2.1 ((nx (nx gs 1) 1).1 0)).toInt.toNat)).2.1 2 = (nx (nx (nx (nx gs 1) 1) 1) 1).2.1 2).trans (((show keepS (nx (nx (nx gs 1) 1) 1) 1 (nx (nx (nx (nx gs 1) 1) 1) 1) from (keepS.n1 1)).2.2.1 2 (by decide)).trans (((show keepS (nx (nx gs 1) 1) 1 (nx (nx (nx gs 1) 1) 1) from (keepS.n1 1)).2.2.1 2 (by decide)).trans (((show keepS (nx gs 1) 1 (nx (nx gs 1) 1) from (keepS.n1 1)).2.2.1 2 (by decide)).trans (((show keepS gs 1 (nx gs 1) from (keepS.n1 1)).2.2.1 2 (by decide)).trans (rfl : gs.2.1 2 = gs.2.1 2))))))
                    have ww121 : WWc V109 b gs := WWc.ag ceo.2.2.1 (show agr [(1, 3), (1, 8), (6, 8), (6, 9), (6, 10)] [43, 44, 46] V V109 from (agr.up (agr.tr (agr.tr (agr.tr (agr.tr (agr.tr agr.rf ajV24 (by decide) (by decide)) ajV34 (by decide) (by decide)) ajV52 (by decide) (by decide)) ajV75 (by decide) (by decide)) ajV94 (by decide) (by decide)) hV109 rfl)) (fun _ => ⟨rfl, rfl, rfl, rfl, rfl⟩) keepE.rf rfl
                    have ww122 : WWc V109 b (seS (nx (nx (nx (nx gs 1) 1) 1) 1) wx37 ((gT.2.1 ((nx (nx gs 1) 1).1 0)).toInt.toNat)) := WWc.mv ww121 (fun _ _ _ _ _ => rfl) (keepE.tr (keepE.tr (keepE.tr (keepE.tr (keepE.tr (keepE.rf : keepE gs gs) (show keepE gs (nx gs 1) from keepE.eq (show ∀ j9, 5 ≤ j9 → (nx gs 1).2.1 j9 = gs.2.1 j9 from fun _ _ => rfl))) (show keepE (nx gs 1) (nx (nx gs 1) 1) from keepE.eq (show ∀ j9, 5 ≤ j9 → (nx (nx gs 1) 1).2.1 j9 = (nx gs 1).2.1 j9 from fun _ _ => rfl))) (show keepE (nx (nx gs 1) 1) (nx (nx (nx gs 1) 1) 1) from keepE.eq (show ∀ j9, 5 ≤ j9 → (nx (nx (nx gs 1) 1) 1).2.1 j9 = (nx (nx gs 1) 1).2.1 j9 from fun _ _ => rfl))) (show keepE (nx (nx (nx gs 1) 1) 1) (nx (nx (nx (nx gs 1) 1) 1) 1) from keepE.eq (show ∀ j9, 5 ≤ j9 → (nx (nx (nx (nx gs 1) 1) 1) 1).2.1 j9 = (nx (nx (nx gs 1) 1) 1).2.1 j9 from fun _ _ => rfl))) (show keepE (nx (nx (nx (nx gs 1) 1) 1) 1) (seS (nx (nx (nx (nx gs 1) 1) 1) 1) wx37 ((gT.2.1 ((nx (nx gs 1) 1).1 0)).toInt.toNat)) from keepE.eq (show ∀ j9, 5 ≤ j9 → (seS (nx (nx (nx (nx gs 1) 1) 1) 1) wx37 ((gT.2.1 ((nx (nx gs 1) 1).1 0)).toInt.toNat)).2.1 j9 = (nx (nx (nx (nx gs 1) 1) 1) 1).2.1 j9 from fun j9 h9 => upB_p _ _ _ (by omega)))) ((rfl : (seS (nx (nx (nx (nx gs 1) 1) 1) 1) wx37 ((gT.2.1 ((nx (nx gs 1) 1).1 0)).toInt.toNat)).2.2.1 = (nx (nx (nx (nx gs 1) 1) 1) 1).2.2.1).trans ((congrArg (fun q9 : List (Nat × Bool) × List Nat => q9.1) (show keepS (nx (nx (nx gs 1) 1) 1) 1 (nx (nx (nx (nx gs 1) 1) 1) 1) from (keepS.n1 1)).2.2.2).trans ((congrArg (fun q9 : List (Nat × Bool) × List Nat => q9.1) (show keepS (nx (nx gs 1) 1) 1 (nx (nx (nx gs 1) 1) 1) from (keepS.n1 1)).2.2.2).trans ((congrArg (fun q9 : List (Nat × Bool) × List Nat => q9.1) (show keepS (nx gs 1) 1 (nx (nx gs 1) 1) from (keepS.n1 1)).2.2.2).trans ((congrArg (fun q9 : List (Nat × Bool) × List Nat => q9.1) (show keepS gs 1 (nx gs 1) from (keepS.n1 1)).2.2.2).trans (rfl : gs.2.2.1 = gs.2.2.1))))))
                    have hwl : wl gs ≤ 2 * gs.1 0 := ceo.2.2.2
                    have wk123 : wl (nx gs 1) = wl gs ∧ (nx gs 1).1 0 = gs.1 0 + 1 := ⟨rfl, rfl⟩
                    have wk124 : wl (nx (nx gs 1) 1) = wl (nx gs 1) ∧ (nx (nx gs 1) 1).1 0 = (nx gs 1).1 0 + 1 := ⟨rfl, rfl⟩
                    have wk125 : wl (nx (nx (nx gs 1) 1) 1) = wl (nx (nx gs 1) 1) ∧ (nx (nx (nx gs 1) 1) 1).1 0 = (nx (nx gs 1) 1).1 0 + 1 := ⟨rfl, rfl⟩
                    have wk126 : wl (nx (nx (nx (nx gs 1) 1) 1) 1) = wl (nx (nx (nx gs 1) 1) 1) ∧ (nx (nx (nx (nx gs 1) 1) 1) 1).1 0 = (nx (nx (nx gs 1) 1) 1).1 0 + 1 := ⟨rfl, rfl⟩
                    have wk127 : wl (seS (nx (nx (nx (nx gs 1) 1) 1) 1) wx37 ((gT.2.1 ((nx (nx gs 1) 1).1 0)).toInt.toNat)) = wl (nx (nx (nx (nx gs 1) 1) 1) 1) ∧ (seS (nx (nx (nx (nx gs 1) 1) 1) 1) wx37 ((gT.2.1 ((nx (nx gs 1) 1).1 0)).toInt.toNat)).1 0 = (nx (nx (nx (nx gs 1) 1) 1) 1).1 0 := ⟨wl_e (show ∀ j9, j9 = 5 ∨ 2000 ≤ j9 → (seS (nx (nx (nx (nx gs 1) 1) 1) 1) wx37 ((gT.2.1 ((nx (nx gs 1) 1).1 0)).toInt.toNat)).2.1 j9 = (nx (nx (nx (nx gs 1) 1) 1) 1).2.1 j9 from fun j9 h9 => (show ∀ j9, 5 ≤ j9 → (seS (nx (nx (nx (nx gs 1) 1) 1) 1) wx37 ((gT.2.1 ((nx (nx gs 1) 1).1 0)).toInt.toNat)).2.1 j9 = (nx (nx (nx (nx gs 1) 1) 1) 1).2.1 j9 from fun j9 h9 => upB_p _ _ _ (by omega)) j9 (by omega)), seS_5 0 (by decide)⟩
                    have ps128 : gs.1 0 + 1 ≤ (nx gs 1).1 0 := ((keepS.n1 1)).1
                    have ps129 : (nx gs 1).1 0 + 1 ≤ (nx (nx gs 1) 1).1 0 := ((keepS.n1 1)).1
                    have ps130 : (nx (nx gs 1) 1).1 0 + 1 ≤ (nx (nx (nx gs 1) 1) 1).1 0 := ((keepS.n1 1)).1
                    have ps131 : (nx (nx (nx gs 1) 1) 1).1 0 + 1 ≤ (nx (nx (nx (nx gs 1) 1) 1) 1).1 0 := ((keepS.n1 1)).1
                    have ps132 : (seS (nx (nx (nx (nx gs 1) 1) 1) 1) wx37 ((gT.2.1 ((nx (nx gs 1) 1).1 0)).toInt.toNat)).1 0 = (nx (nx (nx (nx gs 1) 1) 1) 1).1 0 := seS_5 0 (by decide)
                    have rw133 : ROWL b L L95 := (fun k hk => ((ROWL.ad t93 t91 (hMV75 43 _).1 (by omega) hk).trans ((axL76 44 k rfl).trans ((axL53 44 k rfl).trans ((axL35 44 k rfl).trans ((axL25 44 k rfl).trans rfl))))))
                    exact W.zret (v := 1) hx hb hr rfl (fun t ht hW => ⟨⟨1, (V109, L95), rfl, ⟨hMV109, agV109, alL95, (by decide), (Or.inl ⟨rfl, (seS (nx (nx (nx (nx gs 1) 1) 1) 1) wx37 ((gT.2.1 ((nx (nx gs 1) 1).1 0)).toInt.toNat)), hr101, rl115, (by omega), ⟨cn113, (OWl.n (show (V109 1 2).toInt < 0 from by (first | exact om_517d2fcd5b60 own pq116 | omega)))⟩, ⟨cd118, re120, ww122, (show wl (seS (nx (nx (nx (nx gs 1) 1) 1) 1) wx37 ((gT.2.1 ((nx (nx gs 1) 1).1 0)).toInt.toNat)) ≤ 2 * (seS (nx (nx (nx (nx gs 1) 1) 1) 1) wx37 ((gT.2.1 ((nx (nx gs 1) 1).1 0)).toInt.toNat)).1 0 from by omega)⟩⟩), rw133⟩, by rw [ht]; exact hP, va_K.moved hW.alike hK, hD⟩, hS.F ht⟩) hS.2.2 dX1_readSetting_92
              · skip
                have f134 : z70.toInt = 0 := b_eq rfl (by decide) c83
                exfalso; first | exact om_495ee03a60ae q77 f134 | first | omega | ((try (have i_t73 := Imp.go t73 (f134))); (try (have i_t49 := Imp.go t49 (imp_a (rgz46.1) (rgz46.2) (f68)))); (try (have i_t8 := Imp.go t8 (f11))); omega) | ((try (have i_t73 := Imp.go t73 (by omega))); (try (have i_t50 := Imp.go t50 (by omega))); (try (have i_t49 := Imp.go t49 (by omega))); (try (have i_t9 := Imp.go t9 (by omega))); first | omega | ((try (have i_t8 := Imp.go t8 (by omega))); (try (have i_t8 := Imp.go t8 (by omega))); (try (have i_t9 := Imp.go t9 (by omega))); (try (have i_t49 := Imp.go t49 (by omega))); (try (have i_t50 := Imp.go t50 (by omega))); (try (have i_t73 := Imp.go t73 (by omega))); omega))
            · skip
              have hb135 : ∀ k, Rc gT (Crun gs (Istmt :: k)) (Cbad (V75 1 3).toInt) := fun k => Rc.go1 (hr64 k) ((tk_n (fun h9 => h78 (rl63.tok.1.symm.trans (h9.trans (by decide))))).trans (fl_eq rl63.tok.2.2 k79))
              refine lv_if_ne (tgt := 61) hx hb dX1_readSetting_56 (by decide) (fun c136 => ?_) (fun c136 => ?_)
              · skip
                have f137 : z70.toInt ≠ 0 := b_neq rfl (by decide) c136
                exfalso; first | exact om_fb320d7600b7 rgz70.1 q77 f137 | first | omega | ((try (have i_t49 := Imp.go t49 (imp_a (rgz46.1) (rgz46.2) (f68)))); (try (have i_t8 := Imp.go t8 (f11))); omega) | ((try (have i_t73 := Imp.go t73 (by omega))); (try (have i_t50 := Imp.go t50 (by omega))); (try (have i_t49 := Imp.go t49 (by omega))); (try (have i_t9 := Imp.go t9 (by omega))); first | omega | ((try (have i_t8 := Imp.go t8 (by omega))); (try (have i_t8 := Imp.go t8 (by omega))); (try (have i_t9 := Imp.go t9 (by omega))); (try (have i_t49 := Imp.go t49 (by omega))); (try (have i_t50 := Imp.go t50 (by omega))); (try (have i_t73 := Imp.go t73 (by omega))); omega))
              · skip
                have f138 : z70.toInt = 0 := b_eq rfl (by decide) c136
                refine lv_iconst (v := 0) hx hb dX1_readSetting_59 (by decide) ?_
                have rw139 : ROWL b L L76 := (fun k hk => ((axL76 44 k rfl).trans ((axL53 44 k rfl).trans ((axL35 44 k rfl).trans ((axL25 44 k rfl).trans rfl)))))
                exact W.zret (v := 0) hx hb hr rfl (fun t ht hW => ⟨⟨0, (V75, L76), rfl, ⟨hMV75, agV75, alL76, (by decide), (Or.inr ⟨rfl, hb135⟩), rw139⟩, by rw [ht]; exact hP, va_K.moved hW.alike hK, hD⟩, hS.F ht⟩) hS.2.2 dX1_readSetting_60
        · skip
          have hb140 : ∀ k, Rc gT (Crun gs (Istmt :: k)) (Cbad (V52 1 3).toInt) := fun k => Rc.go1 (hr41 k) ((vs_1 (fun h9 => h56 (rl39.tok.1.symm.trans h9))).trans (fl_eq rl39.tok.2.2 k59))
          refine lv_if_eq (tgt := 59) hx hb dX1_readSetting_47 (by decide) (fun c141 => ?_) (fun c141 => ?_)
          · skip
            have f142 : z46.toInt = 0 := b_eq rfl (by decide) c141
            refine lv_iconst (v := 0) hx hb dX1_readSetting_59 (by decide) ?_
            have rw143 : ROWL b L L53 := (fun k hk => ((axL53 44 k rfl).trans ((axL35 44 k rfl).trans ((axL25 44 k rfl).trans rfl))))
            exact W.zret (v := 0) hx hb hr rfl (fun t ht hW => ⟨⟨0, (V52, L53), rfl, ⟨hMV52, agV52, alL53, (by decide), (Or.inr ⟨rfl, hb140⟩), rw143⟩, by rw [ht]; exact hP, va_K.moved hW.alike hK, hD⟩, hS.F ht⟩) hS.2.2 dX1_readSetting_60
          · skip
            have f144 : z46.toInt ≠ 0 := b_neq rfl (by decide) c141
            exfalso; first | exact om_fb320d7600b7 rgz46.1 q55 f144 | first | omega | ((try (have i_t49 := Imp.go t49 (imp_a (rgz46.1) (rgz46.2) (f144)))); (try (have i_t8 := Imp.go t8 (f11))); omega) | ((try (have i_t50 := Imp.go t50 (by omega))); (try (have i_t49 := Imp.go t49 (by omega))); (try (have i_t9 := Imp.go t9 (by omega))); (try (have i_t8 := Imp.go t8 (by omega))); first | omega | ((try (have i_t8 := Imp.go t8 (by omega))); (try (have i_t9 := Imp.go t9 (by omega))); (try (have i_t49 := Imp.go t49 (by omega))); (try (have i_t50 := Imp.go t50 (by omega))); omega))
        · skip
          have hb145 : ∀ k, Rc gT (Crun gs (Istmt :: k)) (Cbad (V52 1 3).toInt) := fun k => Rc.go1 (hr41 k) ((vs_4 (rl39.tok.1.trans h56) (by omega)).trans (fl_eq rl39.tok.2.2 k59))
          refine lv_if_eq (tgt := 59) hx hb dX1_readSetting_47 (by decide) (fun c146 => ?_) (fun c146 => ?_)
          · skip
            have f147 : z46.toInt = 0 := b_eq rfl (by decide) c146
            refine lv_iconst (v := 0) hx hb dX1_readSetting_59 (by decide) ?_
            have rw148 : ROWL b L L53 := (fun k hk => ((axL53 44 k rfl).trans ((axL35 44 k rfl).trans ((axL25 44 k rfl).trans rfl))))
            exact W.zret (v := 0) hx hb hr rfl (fun t ht hW => ⟨⟨0, (V52, L53), rfl, ⟨hMV52, agV52, alL53, (by decide), (Or.inr ⟨rfl, hb145⟩), rw148⟩, by rw [ht]; exact hP, va_K.moved hW.alike hK, hD⟩, hS.F ht⟩) hS.2.2 dX1_readSetting_60
          · skip
            have f149 : z46.toInt ≠ 0 := b_neq rfl (by decide) c146
            exfalso; first | omega | ((try (have i_t49 := Imp.go t49 (imp_a (rgz46.1) (rgz46.2) (f149)))); (try (have i_t8 := Imp.go t8 (f11))); omega) | ((try (have i_t50 := Imp.go t50 (by omega))); (try (have i_t49 := Imp.go t49 (by omega))); (try (have i_t9 := Imp.go t9 (by omega))); (try (have i_t8 := Imp.go t8 (by omega))); first | omega | ((try (have i_t8 := Imp.go t8 (by omega))); (try (have i_t9 := Imp.go t9 (by omega))); (try (have i_t49 := Imp.go t49 (by omega))); (try (have i_t50 := Imp.go t50 (by omega))); omega))
      · skip
        have f150 : z30.toInt = 0 := b_eq rfl (by decide) c42
        exfalso; first | omega | ((try (have i_t9 := Imp.go t9 (by omega))); (try (have i_t8 := Imp.go t8 (by omega))); (try (have i_t8 := Imp.go t8 (by omega))); (try (have i_t9 := Imp.go t9 (by omega))); omega)
    · skip
      have hb151 : ∀ k, Rc gT (Crun gs (Istmt :: k)) (Cbad (V34 1 3).toInt) := fun k => Rc.go1 (hr14 k) (ns_b h38)
      refine lv_if_ne (tgt := 35) hx hb dX1_readSetting_30 (by decide) (fun c152 => ?_) (fun c152 => ?_)
      · skip
        have f153 : z30.toInt ≠ 0 := b_neq rfl (by decide) c152
        exfalso; first | omega | ((try (have i_t9 := Imp.go t9 (by omega))); (try (have i_t8 := Imp.go t8 (by omega))); (try (have i_t8 := Imp.go t8 (by omega))); (try (have i_t9 := Imp.go t9 (by omega))); omega)
      · skip
        have f154 : z30.toInt = 0 := b_eq rfl (by decide) c152
        refine lv_iconst (v := 0) hx hb dX1_readSetting_33 (by decide) ?_
        have rw155 : ROWL b L L35 := (fun k hk => ((axL35 44 k rfl).trans ((axL25 44 k rfl).trans rfl)))
        exact W.zret (v := 0) hx hb hr rfl (fun t ht hW => ⟨⟨0, (V34, L35), rfl, ⟨hMV34, agV34, alL35, (by decide), (Or.inr ⟨rfl, hb151⟩), rw155⟩, by rw [ht]; exact hP, va_K.moved hW.alike hK, hD⟩, hS.F ht⟩) hS.2.2 dX1_readSetting_34
  · skip
    have f156 : z5.toInt ≠ 0 := b_neq rfl (by decide) c10
    refine lv_aload_n hx hb dX1_readSetting_13 rfl (lv_at hl 0 rfl) ?_
    refine lv_iconst (v := 5) hx hb dX1_readSetting_14 (by decide) ?_
    have kd157 : gT.1 (gs.1 0) = ((V 6 9)).toInt := RelC.kd rel
    have r158 : Int32.toInt 5 = 5 := by decide
    refine gA_int (gA_runV (As := [.int 5]) (rest := []) (ci := 1) (q0 := 1) hx hb hml hown hg hP hD hK hS hA hnw hgk (x_wrong2 l D ks H.size ad kk V L Z 5 hMV (by decide)) w867 w869 w6 w162 w870 rfl xgReader hdV_yX1_wrong ⟨Nat.le_of_ble_eq_true rfl, Nat.le_of_ble_eq_true rfl⟩ rfl hl.1 rfl (Nat.le_of_ble_eq_true rfl) dX1_readSetting_15 ⟨Nat.le_of_ble_eq_true rfl, Nat.le_of_ble_eq_true rfl⟩) hP hD hK hS hA (fun z159 u160 H locs w161 hP hD hK hS => ?_)
    obtain ⟨V164, L165⟩ := u160
    obtain ⟨hMV164, ajV164, axL165, rgz159, t162, t163⟩ := w161
    have axL165 : L = L165 := Eq.symm axL165
    subst axL165
    have hP : va_P D vwCl (xw ad kk V164 L Z) H := hP
    have hD : va_D A (xw ad kk V164 L Z) := hD
    have hMV164 : rgd bX V164 := hMV164
    have ajV164 : agr [(1, 3)] [] V V164 := ajV164
    have agV164 : agr [(1, 3), (1, 8), (6, 8), (6, 9), (6, 10)] [43, 44, 46] V V164 := agV.tr ajV164 (by decide) (by decide)
    have rgz159 : 0 ≤ z159.toInt ∧ z159.toInt ≤ 0 := rgz159
    have t162 : 1 ≤ (V164 1 3).toInt := t162
    have t163 : (V164 1 3).toInt = (Int32.toInt 5) + 16 * (V 6 10).toInt := t163
    have r166 : 0 ≤ ((V 6 10)).toInt ∧ ((V 6 10)).toInt ≤ 4000 := hMV 6 10
    have hr167 : ∀ k, Rc gT (Crun gs (Istmt :: k)) (Crun gs (Istmt :: k)) := fun k => Rc.rf
    have hb168 : ∀ k, Rc gT (Crun gs (Istmt :: k)) (Cbad (V164 1 3).toInt) := fun k => Rc.go1 (hr167 k) ((st_130f (kd157.trans kd9) (by first | omega | ((try (have i_t9 := Imp.go t9 (by omega))); (try (have i_t8 := Imp.go t8 (by omega))); (try (have i_t8 := Imp.go t8 (by omega))); (try (have i_t9 := Imp.go t9 (by omega))); omega))).trans (fl_eq (RelC.st rel) (show (V164 1 3).toInt = 5 + 16 * (V 6 10).toInt from by (first | exact om_fd8d4a8321fd r158 t163 | omega))))
    have rw169 : ROWL b L L := (fun k hk => rfl)
    exact W.zret (v := z159) hx hb hr (nb_ok (by omega)) (fun t ht hW => ⟨⟨z159, (V164, L), rfl, ⟨hMV164, agV164, alL, (show 0 ≤ z159.toInt ∧ z159.toInt ≤ 1 from by first | exact om_641b3f05f166 rgz159.1 rgz159.2 | first | omega | ((try (have i_t9 := Imp.go t9 (by omega))); (try (have i_t8 := Imp.go t8 (by omega))); (try (have i_t8 := Imp.go t8 (by omega))); (try (have i_t9 := Imp.go t9 (by omega))); omega)), (Or.inr ⟨(by omega), hb168⟩), rw169⟩, by rw [ht]; exact hP, va_K.moved hW.alike hK, hD⟩, hS.F ht⟩) hS.2.2 dX1_readSetting_18
