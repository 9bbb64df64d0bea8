/-! a table of names: where a word stands -/
def NF (f : Nat → Int64) (n : Int) (w : Int64) (r : Int) : Prop := (r = -1 ∧ ∀ i : Nat, (i : Int) < n → f i ≠ w) ∨ ∃ i : Nat, r = (i : Int) ∧ (i : Int) < n ∧ f i = w ∧ ∀ j : Nat, j < i → f j ≠ w
/-- the list holds what the table holds -/
def LSw (l : List Int64) (f : Nat → Int64) (n : Int) : Prop := (l.length : Int) = n ∧ ∀ i (h : i < l.length), l[i] = f i
theorem NF.no {f : Nat → Int64} {n : Int} {w : Int64} {r : Int} {l : List Int64} (h : NF f n w r) (k : LSw l f n) (hr : r = -1) : fndI l w = none := by
  unfold fndI
  rw [List.findIdx?_eq_none_iff]
  intro x hx
  obtain ⟨i, hi, e⟩ := List.getElem_of_mem hx
  rcases h with ⟨_, h⟩ | ⟨i, h, _⟩
  · have z := h i (by have := k.1; omega)
    rw [← k.2 i hi, e] at z
    exact beq_false_of_ne z
  · omega
theorem NF.yes {f : Nat → Int64} {n : Int} {w : Int64} {r : Int} {l : List Int64} (h : NF f n w r) (k : LSw l f n) (hr : 0 ≤ r) : fndI l w = some r.toNat := by
  unfold fndI
  rcases h with ⟨h, _⟩ | ⟨i, h, a, b, c⟩
  · omega
  · have hi : i < l.length := by have := k.1; omega
    rw [h, Int.toNat_natCast, List.findIdx?_eq_some_iff_getElem]
    refine ⟨hi, ?_, fun j hj => ?_⟩
    · rw [k.2 i hi, b]
      exact beq_self_eq_true w
    · have z := c j hj
      rw [← k.2 j (by omega)] at z
      rw [beq_false_of_ne z]
      exact Bool.false_ne_true
theorem LSw.add {l : List Int64} {f g : Nat → Int64} {n m : Int} {w : Int64} (k : LSw l f n) (hm : m = n + 1) (e : g n.toNat = w) (o : ∀ i : Nat, (i : Int) < n → g i = f i) : LSw (l ++ [w]) g m := by
  have h1 := k.1
  refine ⟨by rw [List.length_append]; show ((l.length + 1 : Nat) : Int) = m; omega, fun i h => ?_⟩
  rw [List.length_append] at h
  have h2 : i < l.length + 1 := h
  by_cases c : i < l.length
  · rw [List.getElem_append_left c, k.2 i c, o i (by omega)]
  · have ei : i = n.toNat := by omega
    rw [List.getElem_append_right (by omega)]
    subst ei
    rw [e]
    exact List.getElem_singleton _


abbrev r_x_find2 : Room := { frames := 0, cells := 0, slots := 0, locals := 0 }
abbrev q_x_find2 (D : va_G) (ks : KS) (ad : Nat → Nat) (kk : Nat → ClassId) (V : Vf) (L : Lf) (Z : XZ) (p0 : Int64) (gn : Nat) (A : Nat → Prop) : Array Value → State → Outcome → State → Prop := va_Qi (fun (r : Int32) (_ : Unit) => ((-1) ≤ r.toInt ∧ r.toInt ≤ 23) ∧ (r.toInt < (V 43 gn).toInt) ∧ (NF (fun i => L 44 (24 * gn + i)) (V 43 gn).toInt p0 r.toInt)) (fun _ t => gq D A (xw ad kk V L Z) (xty kk Z) t) A
set_option maxHeartbeats 4000000 in
set_option maxRecDepth 100000 in
theorem x_find2 (l : Launch) (D : va_G) (ks : KS) (sz : Nat) (ad : Nat → Nat) (kk : Nat → ClassId) (V : Vf) (L : Lf) (Z : XZ) (p0 : Int64) (gn : Nat) (hMV : rgd bX V) (hgn : gn < 10)  : Met l yX6_find (Cond.code yX6_find cX6_find 4 (some .int) :: GW) r_x_find2 (va_Pc [.ref (ad (40 + gn)), .long p0] (gp D ks (xw ad kk V L Z) (xty kk Z) sz)) (q_x_find2 D ks ad kk V L Z p0 gn (va_A (xw ad kk V L Z) sz)) 0 0 (va_A (xw ad kk V L Z) sz) := by
  refine g_met (q_x_find2 D ks ad kk V L Z p0 gn) (by decide) (Nat.le_of_ble_eq_true rfl) ?_
  intro p e s m below meth c A ls H locs hx hb hr hml hown hg hlocks hin hnw hgk hP hK hD hS hA hl
  have hown : s.vm.findClass RX6 = some m.cls := hown
  have hl : lv_has ls 4 [(0, .ref (ad (40 + gn))), (1, .long p0)] := hl
  have hP : va_P D vwCl (xw ad kk V L Z) H := hP
  have hD : va_D A (xw ad kk V L Z) := hD
  have hK : va_K D vwCl (xty kk Z) s := hK
  refine lv_iconst (v := 0) hx hb dX6_find_0 (by decide) ?_
  refine lv_istore_n (lv' := [(3, .int 0), (0, .ref (ad (40 + gn))), (1, .long p0)]) hx hb dX6_find_1 rfl hl (by decide) rfl (fun ls hl => ?_)
  have lp2 : ∀ (fulp2 : Nat) (y1 : Int32) (H : Heap) (locs : List Loc) (ls : Array Slot), 0 ≤ y1.toInt ∧ y1.toInt ≤ 24 → y1.toInt ≤ (V 43 gn).toInt → (∀ k : Nat, (k : Int) < y1.toInt → L 44 (24 * gn + k) ≠ p0) → 24 - y1.toInt < (fulp2 : Int) → va_P D vwCl (xw ad kk V L Z) H → va_D A (xw ad kk V L Z) → va_S A s.heap H locs → lv_has ls 4 [(3, .int y1), (0, .ref (ad (40 + gn))), (1, .long p0)] → W p l e r_x_find2 s m ([.ref (ad (40 + gn)), .long p0] : List Value).toArray below meth c H locs 0 0 (MQ below (q_x_find2 D ks ad kk V L Z p0 gn A) ([.ref (ad (40 + gn)), .long p0] : List Value).toArray s 0 0 A) (F0 m 2 ls []) := by
    intro fulp2
    induction fulp2 with
    | zero =>
      intro y1 H locs ls klp2_0 xlp2_0 xlp2_1 hn  hP hD hS hl
      exfalso; (first | exact om_9386ef0df612 klp2_0.2 hn | omega)
    | succ fulp2 ihlp2 =>
      intro y1 H locs ls klp2_0 xlp2_0 xlp2_1 hn  hP hD hS hl
      have r3 : 0 ≤ ((V 43 gn)).toInt ∧ ((V 43 gn)).toInt ≤ ((xcap gn : Nat) : Int) := hMV 43 gn
      have r4 := xcap_le gn
      refine lv_iload_n hx hb dX6_find_2 rfl (lv_at hl 0 rfl) ?_
      refine lv_aload_n hx hb dX6_find_3 rfl (lv_at hl 1 rfl) ?_
      refine va_get (D := D) (ci := 6) (v := .int (V 43 gn)) (fs := (xfNames ad V gn)) (C := RX6) (T := TX6) (N := 2) hx hb hg inX6 hown hK hP (40 + gn) (xgNames hgn) rfl 1 (by decide) (hg _ w480) (fun _ h9 => h9) rfl dX6_find_4 ?_
      refine lv_icmp_ge (tgt := 29) hx hb dX6_find_7 (by decide) (fun c5 => ?_) (fun c5 => ?_)
      · skip
        have f6 : ((V 43 gn)).toInt ≤ y1.toInt := b_le rfl rfl c5
        refine lv_iconst (v := (-1)) hx hb dX6_find_29 (by decide) ?_
        exact W.iret (v := (-1)) hx hb hr (fun t ht hW => ⟨⟨(-1), (), rfl, ⟨(by decide), (show (-1) < (V 43 gn).toInt from by (first | exact om_550cdc110816 r3.1 | omega)), (Or.inl ⟨by decide, fun k hk => xlp2_1 k (by omega)⟩)⟩, by rw [ht]; exact hP, va_K.moved hW.alike hK, hD⟩, hS.F ht⟩) hS.2.2 dX6_find_30
      · skip
        have f7 : y1.toInt < ((V 43 gn)).toInt := b_nle rfl rfl c5
        refine lv_aload_n hx hb dX6_find_10 rfl (lv_at hl 1 rfl) ?_
        refine va_get (D := D) (ci := 6) (v := .ref (ad (50 + gn))) (fs := (xfNames ad V gn)) (C := RX6) (T := TX6) (N := 2) hx hb hg inX6 hown hK hP (40 + gn) (xgNames hgn) rfl 0 (by decide) (hg _ w479) (fun _ h9 => h9) rfl dX6_find_11 ?_
        refine lv_iload_n hx hb dX6_find_14 rfl (lv_at hl 0 rfl) ?_
        refine va_lald (D := D) (i := y1) hx hb hK hP (50 + gn) (43 + gn) (xgwords hgn) (xtwords hgn) (i_in (a := y1.toInt) rfl (by omega)) dX6_find_15 ?_
        have kc8 := i_clamp (x := y1) rfl (by (first | exact om_eafa9039069c klp2_0.1 | omega))
        refine g_topv (v := .long (L 44 (24 * gn + (Int32.toNatClampNeg y1)))) (congrArg Value.long (if_pos (by omega))) ?_
        refine lv_topl (fun w9 ew9 => ?_)
        refine lv_lload_n hx hb dX6_find_16 rfl (lv_at hl 2 rfl) ?_
        refine W.lcmp hx hb dX6_find_17 ?_
        refine lv_topi (fun z10 ez10 => ?_)
        have hz10 := lcmp_f ez10
        refine lv_if_ne (tgt := 23) hx hb dX6_find_18 (by decide) (fun c11 => ?_) (fun c11 => ?_)
        · skip
          have f12 : z10.toInt ≠ 0 := b_neq rfl (by decide) c11
          obtain ⟨z13, ez13⟩ : ∃ y : Int32, y = y1 + 1 := ⟨_, rfl⟩
          have hz13 : z13.toInt = y1.toInt + 1 := i_add ez13 rfl (by decide) (by (first | exact om_e66fa98a5d27 klp2_0.1 klp2_0.2 | omega))
          refine lv_iinc (v := z13) (lv' := [(3, .int z13), (0, .ref (ad (40 + gn))), (1, .long p0)]) hx hb dX6_find_23 hl (k := 0) rfl (by rw [ez13]; rfl) (by decide) rfl (fun ls hl => ?_)
          refine lv_goto (tgt := 2) hx hb dX6_find_26 (by decide) ?_
          exact ihlp2 z13 H locs ls (by omega) (show z13.toInt ≤ (V 43 gn).toInt from by (first | exact om_7fe9249fc074 f7 hz13 | omega)) (fun k h => by by_cases c : (k : Int) < y1.toInt; exact xlp2_1 k c; have ek : k = Int32.toNatClampNeg y1 := (by omega); rw [ek]; intro q; have q2 := congrArg Int64.toInt (ew9.trans q); omega) (by (first | exact om_9592d9319ffa hn hz13 | omega)) hP hD hS (lv_sub hl [0, 1, 2] rfl)
        · skip
          have f14 : z10.toInt = 0 := b_eq rfl (by decide) c11
          refine lv_iload_n hx hb dX6_find_21 rfl (lv_at hl 0 rfl) ?_
          exact W.iret (v := y1) hx hb hr (fun t ht hW => ⟨⟨y1, (), rfl, ⟨(show (-1) ≤ y1.toInt ∧ y1.toInt ≤ 23 from by omega), (show y1.toInt < (V 43 gn).toInt from by (first | exact om_0e9116797efb f7 | omega)), (Or.inr ⟨Int32.toNatClampNeg y1, by omega, by omega, ew9.symm.trans (Int64.toInt_inj.mp (by omega)), fun k hk => xlp2_1 k (by omega)⟩)⟩, by rw [ht]; exact hP, va_K.moved hW.alike hK, hD⟩, hS.F ht⟩) hS.2.2 dX6_find_22
  have r15 : Int32.toInt 0 = 0 := by decide
  have r16 : 0 ≤ ((V 43 gn)).toInt ∧ ((V 43 gn)).toInt ≤ ((xcap gn : Nat) : Int) := hMV 43 gn
  have r17 := xcap_le gn
  exact lp2 ((24 - (Int32.toInt 0) + 1 : Int).toNat) 0 H locs ls (by decide) (show (Int32.toInt 0) ≤ (V 43 gn).toInt from by (first | exact om_a51dc5ad8918 r15 r16.1 | omega)) (fun k h => absurd h (by have e0 : Int32.toInt 0 = 0 := (by decide); omega)) (by (first | exact om_817980d3aa47 | omega)) hP hD hS (lv_sub hl [0, 1, 2] rfl)
abbrev r_x_add2 : Room := { frames := 0, cells := 0, slots := 0, locals := 0 }
abbrev q_x_add2 (D : va_G) (ks : KS) (ad : Nat → Nat) (kk : Nat → ClassId) (V : Vf) (L : Lf) (Z : XZ) (p0 : Int64) (gn : Nat) (A : Nat → Prop) : Array Value → State → Outcome → State → Prop := va_Qi (fun (r : Int32) (u : Vf × Lf) => rgd bX u.1 ∧ agr [] [43, 44] V u.1 ∧ agL [44] L u.2 ∧ frX (xN gn) V u.1 ∧ ((-1) ≤ r.toInt ∧ r.toInt ≤ 23) ∧ (r.toInt < (u.1 43 gn).toInt) ∧ (Imp ((V 43 gn).toInt < ((xcap gn : Nat) : Int)) (r.toInt = (V 43 gn).toInt ∧ (u.1 43 gn).toInt = (V 43 gn).toInt + 1)) ∧ (Imp (((xcap gn : Nat) : Int) ≤ (V 43 gn).toInt) (r.toInt = -1 ∧ (u.1 43 gn).toInt = (V 43 gn).toInt)) ∧ (∀ n : Nat, ¬ n = gn → u.1 43 n = V 43 n) ∧ ((r.toInt = -1 ∧ u.2 = L) ∨ (0 ≤ r.toInt ∧ u.2 = upL L 44 (24 * gn + Int32.toNatClampNeg (V 43 gn)) p0))) (fun u t => gq D A (xw ad kk u.1 u.2 Z) (xty kk Z) t) A
set_option maxHeartbeats 4000000 in
set_option maxRecDepth 100000 in
theorem x_add2 (l : Launch) (D : va_G) (ks : KS) (sz : Nat) (ad : Nat → Nat) (kk : Nat → ClassId) (V : Vf) (L : Lf) (Z : XZ) (p0 : Int64) (gn : Nat) (hMV : rgd bX V) (hgn : gn < 10)  : Met l yX6_add (Cond.code yX6_add cX6_add 3 (some .int) :: GW) r_x_add2 (va_Pc [.ref (ad (40 + gn)), .long p0] (gp D ks (xw ad kk V L Z) (xty kk Z) sz)) (q_x_add2 D ks ad kk V L Z p0 gn (va_A (xw ad kk V L Z) sz)) 0 0 (va_A (xw ad kk V L Z) sz) := by
  refine g_met (q_x_add2 D ks ad kk V L Z p0 gn) (by decide) (Nat.le_of_ble_eq_true rfl) ?_
  intro p e s m below meth c A ls H locs hx hb hr hml hown hg hlocks hin hnw hgk hP hK hD hS hA hl
  have hown : s.vm.findClass RX6 = some m.cls := hown
  have hl : lv_has ls 3 [(0, .ref (ad (40 + gn))), (1, .long p0)] := hl
  have hP : va_P D vwCl (xw ad kk V L Z) H := hP
  have hD : va_D A (xw ad kk V L Z) := hD
  have hK : va_K D vwCl (xty kk Z) s := hK
  have agV : agr [] [43, 44] V V := agr.rf
  have alL : agL [44] L L := agL.rf
  have fwV : frX (xN gn) V V := frX.rf
  refine lv_aload_n hx hb dX6_add_0 rfl (lv_at hl 0 rfl) ?_
  refine va_get (D := D) (ci := 6) (v := .int (V 43 gn)) (fs := (xfNames ad V gn)) (C := RX6) (T := TX6) (N := 2) hx hb hg inX6 hown hK hP (40 + gn) (xgNames hgn) rfl 1 (by decide) (hg _ w480) (fun _ h9 => h9) rfl dX6_add_1 ?_
  have r1 : 0 ≤ ((V 43 gn)).toInt ∧ ((V 43 gn)).toInt ≤ ((xcap gn : Nat) : Int) := hMV 43 gn
  have r2 := xcap_le gn
  refine lv_aload_n hx hb dX6_add_4 rfl (lv_at hl 0 rfl) ?_
  refine va_get (D := D) (ci := 6) (v := .ref (ad (50 + gn))) (fs := (xfNames ad V gn)) (C := RX6) (T := TX6) (N := 2) hx hb hg inX6 hown hK hP (40 + gn) (xgNames hgn) rfl 0 (by decide) (hg _ w479) (fun _ h9 => h9) rfl dX6_add_5 ?_
  refine va_alen (D := D) (v := nI (xcap gn)) hx hb hK hP (50 + gn) (43 + gn) (xgwords hgn) (xtwords hgn) rfl dX6_add_8 ?_
  refine lv_topi (fun z4 ez4 => ?_)
  have r5 : z4.toInt = ((xcap gn : Nat) : Int) := by rw [ez4]; exact nI_toInt (by omega)
  refine lv_icmp_lt (tgt := 14) hx hb dX6_add_9 (by decide) (fun c6 => ?_) (fun c6 => ?_)
  · skip
    have f7 : ((V 43 gn)).toInt < z4.toInt := b_lt rfl rfl c6
    refine lv_aload_n hx hb dX6_add_14 rfl (lv_at hl 0 rfl) ?_
    refine va_get (D := D) (ci := 6) (v := .ref (ad (50 + gn))) (fs := (xfNames ad V gn)) (C := RX6) (T := TX6) (N := 2) hx hb hg inX6 hown hK hP (40 + gn) (xgNames hgn) rfl 0 (by decide) (hg _ w479) (fun _ h9 => h9) rfl dX6_add_15 ?_
    refine lv_aload_n hx hb dX6_add_18 rfl (lv_at hl 0 rfl) ?_
    refine va_get (D := D) (ci := 6) (v := .int (V 43 gn)) (fs := (xfNames ad V gn)) (C := RX6) (T := TX6) (N := 2) hx hb hg inX6 hown hK hP (40 + gn) (xgNames hgn) rfl 1 (by decide) (hg _ w480) (fun _ h9 => h9) rfl dX6_add_19 ?_
    refine lv_lload_n hx hb dX6_add_22 rfl (lv_at hl 1 rfl) ?_
    refine va_last (D := D) (i := (V 43 gn)) (x := p0) hx hb hK hP hD hS (50 + gn) (43 + gn) (xgwords hgn) (xtwords hgn) (i_in (a := ((V 43 gn)).toInt) rfl (by omega)) dX6_add_23 (fun H locs hP hD hS => ?_)
    have kc8 := i_clamp (x := (V 43 gn)) rfl (by (first | exact om_eafa9039069c r1.1 | omega))
    have kl9 : (Int32.toNatClampNeg (V 43 gn)) < 24 := by omega
    obtain ⟨L10, hL10⟩ : ∃ z, z = upL L 44 (24 * gn + (Int32.toNatClampNeg (V 43 gn))) p0 := ⟨_, rfl⟩
    have ew11 : (xw ad kk V L Z).set (50 + gn) ((ad (50 + gn)), .inl ((kk (50 + gn)), xcap gn, .inr (.inl (vp_updL (fun q => if q < 24 then L 44 (24 * gn + q) else 0) (Int32.toNatClampNeg (V 43 gn)) p0)))) = xw ad kk V L10 Z := by rw [hL10]; exact xpwords hgn kl9
    have hP : va_P D vwCl (xw ad kk V L10 Z) H := by rw [← ew11]; exact hP
    have hD : va_D A (xw ad kk V L10 Z) := by rw [← ew11]; exact hD
    have alL10 : agL [44] L L10 := agL.up alL hL10 rfl
    refine lv_aload_n hx hb dX6_add_24 rfl (lv_at hl 0 rfl) ?_
    refine lv_dup hx hb dX6_add_25 rfl ?_
    refine va_get (D := D) (ci := 6) (v := .int (V 43 gn)) (fs := (xfNames ad V gn)) (C := RX6) (T := TX6) (N := 2) hx hb hg inX6 hown hK hP (40 + gn) (xgNames hgn) rfl 1 (by decide) (hg _ w480) (fun _ h9 => h9) rfl dX6_add_26 ?_
    refine lv_dup_x1 hx hb dX6_add_29 rfl rfl ?_
    refine lv_iconst (v := 1) hx hb dX6_add_30 (by decide) ?_
    refine lv_iadd hx hb dX6_add_31 ?_
    refine lv_topi (fun z12 ez12 => ?_)
    have hz12 : z12.toInt = ((V 43 gn)).toInt + 1 := i_add ez12 rfl (by decide) (by (first | exact om_3cef7ac10bbb r1.1 kc8 kl9 | omega))
    refine va_put (D := D) (ci := 6) (v := .int z12) (ty := tyX6 1) (fs := (xfNames ad V gn)) (C := RX6) (T := TX6) (N := 2) hx hb hg inX6 tyX6 tyX6_ok nmX6 hown hK hP hD hS (40 + gn) (xgNames hgn) rfl 1 (by decide) (hg _ w480) (fun _ h9 => h9) rfl (tyX6_ok 1 (by decide)) rfl rfl (Nat.le_of_ble_eq_true rfl) dX6_add_32 (fun H locs hP hD hS => ?_)
    obtain ⟨V13, hV13⟩ : ∃ z, z = up2 V 43 gn z12 := ⟨_, rfl⟩
    have ew14 : (xw ad kk V L10 Z).set (40 + gn) ((ad (40 + gn)), .inr (6, (xfNames ad V gn).set 1 (.int z12))) = xw ad kk V13 L10 Z := by rw [hV13]; exact xpNames_size hgn
    have hP : va_P D vwCl (xw ad kk V13 L10 Z) H := by rw [← ew14]; exact hP
    have hD : va_D A (xw ad kk V13 L10 Z) := by rw [← ew14]; exact hD
    have hMV13 : rgd bX V13 := hMV.put hV13 (show 0 ≤ z12.toInt ∧ z12.toInt ≤ ((xcap gn : Nat) : Int) from by (first | exact om_dd26073c146a r1.1 r5 f7 hz12 | omega))
    have agV13 : agr [] [43, 44] V V13 := agV.up hV13 rfl
    have fwV13 : frX (xN gn) V V13 := frX.up fwV hV13 (Or.inr ⟨(by show gn ≤ gn; (first | exact om_36cf446a3c95 | omega)), (by show gn < gn + 1; (first | exact om_0bb971ab4ffe | omega))⟩)
    have pq15 : (V13 43 gn).toInt = z12.toInt := congrArg Int32.toInt (up2_s hV13)
    have rp16 : ∀ n : Nat, ¬ n = gn → V13 43 n = V 43 n := fun n hn => up2_k hV13 hn
    exact W.iret (v := (V 43 gn)) hx hb hr (fun t ht hW => ⟨⟨(V 43 gn), (V13, L10), rfl, ⟨hMV13, agV13, alL10, fwV13, (show (-1) ≤ ((V 43 gn)).toInt ∧ ((V 43 gn)).toInt ≤ 23 from by (first | exact om_bdc49d49ea67 r1.1 kc8 kl9 | omega)), (show ((V 43 gn)).toInt < (V13 43 gn).toInt from by (first | exact om_8a3bb01c6349 hz12 pq15 | omega)), (Imp.mk (fun hp => have hp : (V 43 gn).toInt < ((xcap gn : Nat) : Int) := hp; (show ((V 43 gn)).toInt = (V 43 gn).toInt ∧ (V13 43 gn).toInt = (V 43 gn).toInt + 1 from by (first | exact om_973282c118df hz12 pq15 | omega)))), (Imp.mk (fun hp => have hp : ((xcap gn : Nat) : Int) ≤ (V 43 gn).toInt := hp; (show ((V 43 gn)).toInt = -1 ∧ (V13 43 gn).toInt = (V 43 gn).toInt from by omega))), rp16, (Or.inr ⟨by omega, hL10⟩)⟩, by rw [ht]; exact hP, va_K.moved hW.alike hK, hD⟩, hS.F ht⟩) hS.2.2 dX6_add_35
  · skip
    have f17 : z4.toInt ≤ ((V 43 gn)).toInt := b_nlt rfl rfl c6
    refine lv_iconst (v := (-1)) hx hb dX6_add_12 (by decide) ?_
    have rp18 : ∀ n : Nat, ¬ n = gn → V 43 n = V 43 n := fun _ _ => rfl
    exact W.iret (v := (-1)) hx hb hr (fun t ht hW => ⟨⟨(-1), (V, L), rfl, ⟨hMV, agV, alL, fwV, (by decide), (show (-1) < (V 43 gn).toInt from by (first | exact om_550cdc110816 r1.1 | omega)), (Imp.mk (fun hp => have hp : (V 43 gn).toInt < ((xcap gn : Nat) : Int) := hp; (show (-1) = (V 43 gn).toInt ∧ (V 43 gn).toInt = (V 43 gn).toInt + 1 from by omega))), (Imp.mk (fun hp => have hp : ((xcap gn : Nat) : Int) ≤ (V 43 gn).toInt := hp; (show (-1) = -1 ∧ (V 43 gn).toInt = (V 43 gn).toInt from by omega))), rp18, (Or.inl ⟨by decide, rfl⟩)⟩, by rw [ht]; exact hP, va_K.moved hW.alike hK, hD⟩, hS.F ht⟩) hS.2.2 dX6_add_13
abbrev r_x_isFull2 : Room := { frames := 0, cells := 0, slots := 0, locals := 0 }
abbrev q_x_isFull2 (D : va_G) (ks : KS) (ad : Nat → Nat) (kk : Nat → ClassId) (V : Vf) (L : Lf) (Z : XZ) (gn : Nat) (A : Nat → Prop) : Array Value → State → Outcome → State → Prop := va_Qi (fun (r : Int32) (_ : Unit) => (0 ≤ r.toInt ∧ r.toInt ≤ 1) ∧ (Imp (r.toInt = 0) ((V 43 gn).toInt < ((xcap gn : Nat) : Int))) ∧ (Imp (r.toInt = 1) (((xcap gn : Nat) : Int) ≤ (V 43 gn).toInt))) (fun _ t => gq D A (xw ad kk V L Z) (xty kk Z) t) A
set_option maxHeartbeats 4000000 in
set_option maxRecDepth 100000 in
theorem x_isFull2 (l : Launch) (D : va_G) (ks : KS) (sz : Nat) (ad : Nat → Nat) (kk : Nat → ClassId) (V : Vf) (L : Lf) (Z : XZ) (gn : Nat) (hMV : rgd bX V) (hgn : gn < 10)  : Met l yX6_isFull (Cond.code yX6_isFull cX6_isFull 1 (some .boolean) :: GW) r_x_isFull2 (va_Pc [.ref (ad (40 + gn))] (gp D ks (xw ad kk V L Z) (xty kk Z) sz)) (q_x_isFull2 D ks ad kk V L Z  gn (va_A (xw ad kk V L Z) sz)) 0 0 (va_A (xw ad kk V L Z) sz) := by
  refine g_met (q_x_isFull2 D ks ad kk V L Z  gn) (by decide) (Nat.le_of_ble_eq_true rfl) ?_
  intro p e s m below meth c A ls H locs hx hb hr hml hown hg hlocks hin hnw hgk hP hK hD hS hA hl
  have hown : s.vm.findClass RX6 = some m.cls := hown
  have hl : lv_has ls 1 [(0, .ref (ad (40 + gn)))] := hl
  have hP : va_P D vwCl (xw ad kk V L Z) H := hP
  have hD : va_D A (xw ad kk V L Z) := hD
  have hK : va_K D vwCl (xty kk Z) s := hK
  refine lv_aload_n hx hb dX6_isFull_0 rfl (lv_at hl 0 rfl) ?_
  refine va_get (D := D) (ci := 6) (v := .int (V 43 gn)) (fs := (xfNames ad V gn)) (C := RX6) (T := TX6) (N := 2) hx hb hg inX6 hown hK hP (40 + gn) (xgNames hgn) rfl 1 (by decide) (hg _ w480) (fun _ h9 => h9) rfl dX6_isFull_1 ?_
  have r1 : 0 ≤ ((V 43 gn)).toInt ∧ ((V 43 gn)).toInt ≤ ((xcap gn : Nat) : Int) := hMV 43 gn
  have r2 := xcap_le gn
  refine lv_aload_n hx hb dX6_isFull_4 rfl (lv_at hl 0 rfl) ?_
  refine va_get (D := D) (ci := 6) (v := .ref (ad (50 + gn))) (fs := (xfNames ad V gn)) (C := RX6) (T := TX6) (N := 2) hx hb hg inX6 hown hK hP (40 + gn) (xgNames hgn) rfl 0 (by decide) (hg _ w479) (fun _ h9 => h9) rfl dX6_isFull_5 ?_
  refine va_alen (D := D) (v := nI (xcap gn)) hx hb hK hP (50 + gn) (43 + gn) (xgwords hgn) (xtwords hgn) rfl dX6_isFull_8 ?_
  refine lv_topi (fun z4 ez4 => ?_)
  have r5 : z4.toInt = ((xcap gn : Nat) : Int) := by rw [ez4]; exact nI_toInt (by omega)
  refine lv_icmp_lt (tgt := 16) hx hb dX6_isFull_9 (by decide) (fun c6 => ?_) (fun c6 => ?_)
  · skip
    have f7 : ((V 43 gn)).toInt < z4.toInt := b_lt rfl rfl c6
    refine lv_iconst (v := 0) hx hb dX6_isFull_16 (by decide) ?_
    exact W.zret (v := 0) hx hb hr rfl (fun t ht hW => ⟨⟨0, (), rfl, ⟨(by decide), (Imp.mk (fun _ => (show (V 43 gn).toInt < ((xcap gn : Nat) : Int) from by (first | exact om_74393bacf057 r5 f7 | omega)))), (Imp.mk (fun hp => absurd hp (by decide)))⟩, by rw [ht]; exact hP, va_K.moved hW.alike hK, hD⟩, hS.F ht⟩) hS.2.2 dX6_isFull_17
  · skip
    have f8 : z4.toInt ≤ ((V 43 gn)).toInt := b_nlt rfl rfl c6
    refine lv_iconst (v := 1) hx hb dX6_isFull_12 (by decide) ?_
    refine lv_goto (tgt := 17) hx hb dX6_isFull_13 (by decide) ?_
    exact W.zret (v := 1) hx hb hr rfl (fun t ht hW => ⟨⟨1, (), rfl, ⟨(by decide), (Imp.mk (fun hp => absurd hp (by decide))), (Imp.mk (fun _ => (show ((xcap gn : Nat) : Int) ≤ (V 43 gn).toInt from by (first | exact om_1c984a86026c r5 f8 | omega))))⟩, by rw [ht]; exact hP, va_K.moved hW.alike hK, hD⟩, hS.F ht⟩) hS.2.2 dX6_isFull_17
