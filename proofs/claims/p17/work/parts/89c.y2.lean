section
def SGX (x r : Int32) : Prop := (∃ i : Nat, i < 12 ∧ r = nI i ∧ sgb i = x.toInt8.toInt32) ∨ (r = -1 ∧ ∀ i : Nat, i < 12 → sgb i ≠ x.toInt8.toInt32)
theorem nlt0 {x : Int32} (h : 0 ≤ x.toInt ∧ x.toInt ≤ 126) : ¬ x < 0 := fun q => absurd (Int32.lt_iff_toInt_lt.mp q) (by have e0 : Int32.toInt 0 = 0 := (by decide); omega)
theorem ngt255 {x : Int32} (h : 0 ≤ x.toInt ∧ x.toInt ≤ 126) : ¬ x > 255 := fun q => absurd (Int32.lt_iff_toInt_lt.mp q) (by have e0 : Int32.toInt 255 = 255 := (by decide); omega)


abbrev r_c_canEncode2 : Room := { frames := 0, cells := 0, slots := 0, locals := 0 }
abbrev q_c_canEncode2 (D : va_G) (x0 : Int32) (A : Nat → Prop) : Array Value → State → Outcome → State → Prop := va_Qi (fun (r : Int32) (_ : Unit) => r = 1) (fun u t => gq D A ((fun (_ : Unit) => []) u) ((fun (_ : Unit) => ([] : List (ClassId × FieldType))) u) t) A
set_option maxHeartbeats 4000000 in
set_option maxRecDepth 100000 in
theorem c_canEncode2 (l : Launch) (D : va_G) (ks : KS) (sz : Nat) (x0 : Int32) (hq : 0 ≤ x0.toInt ∧ x0.toInt ≤ 126) : Met l yJ1_canEncode_9a6ad (Cond.code yJ1_canEncode_9a6ad cJ1_canEncode_9a6ad 1 (some .boolean) :: GW) r_c_canEncode2 (va_Pc [.int x0] (gp D ks [] [] sz)) (q_c_canEncode2 D x0 (va_A [] sz)) 0 0 (va_A [] sz) := by
  refine g_met (q_c_canEncode2 D x0) (by decide) (Nat.le_of_ble_eq_true rfl) ?_
  intro p e s m below meth c A ls H locs hx hb hr hml hown hg hlocks hin hnw hgk hP hK hD hS hA hl
  have hown : s.vm.findClass RJ1 = some m.cls := hown
  have hl : lv_has ls 1 [(0, .int x0)] := hl
  refine lv_iload_n hx hb dJ1_canEncode_9a6ad_0 rfl (lv_at hl 0 rfl) ?_
  refine lv_if_lt (tgt := 15) hx hb dJ1_canEncode_9a6ad_1 (by decide) (fun q => absurd q (nlt0 hq)) (fun _ => ?_)
  refine lv_iload_n hx hb dJ1_canEncode_9a6ad_4 rfl (lv_at hl 0 rfl) ?_
  refine lv_sipush (v := 255) hx hb dJ1_canEncode_9a6ad_5 (by decide) ?_
  refine lv_icmp_gt (tgt := 15) hx hb dJ1_canEncode_9a6ad_8 (by decide) (fun q => absurd q (ngt255 hq)) (fun _ => ?_)
  refine lv_iconst (v := 1) hx hb dJ1_canEncode_9a6ad_11 (by decide) ?_
  refine lv_goto (tgt := 16) hx hb dJ1_canEncode_9a6ad_12 (by decide) ?_
  refine W.widen (k := 0) (n := 0) (Nat.le_of_ble_eq_true rfl) (Nat.le_of_ble_eq_true rfl) ?_
  have hP9 := hP.sub (ws' := []) [] rfl
  have hD9 := hD.sub (ws' := []) [] (by decide) rfl
  have hK9 := hK.sub (tys' := []) [] rfl
  exact W.zret (v := 1) hx hb hr rfl (fun t ht hW => ⟨⟨1, (), rfl, (by first | rfl | trivial | assumption | decide), by rw [ht]; exact hP9, va_K.moved hW.alike hK9, hD9⟩, hS.F ht⟩) hS.2.2 dJ1_canEncode_9a6ad_16
abbrev r_c_sg_char2 : Room := { frames := 0, cells := 0, slots := 0, locals := 0 }
abbrev q_c_sg_char2 (D : va_G) (x0 : Int32) (A : Nat → Prop) : Array Value → State → Outcome → State → Prop := va_Qi (fun (r : Int32) (_ : Unit) => SGX x0 r) (fun u t => gq D A ((fun (_ : Unit) => []) u) ((fun (_ : Unit) => ([] : List (ClassId × FieldType))) u) t) A
set_option maxHeartbeats 4000000 in
set_option maxRecDepth 100000 in
theorem c_sg_char2 (l : Launch) (D : va_G) (ks : KS) (sz : Nat) (x0 : Int32) : Met l yJ1_indexOfChar_4cfef (Cond.code yJ1_indexOfChar_4cfef cJ1_indexOfChar_4cfef 6 (some .int) :: GW) r_c_sg_char2 (va_Pc [.ref ks.2.2.2.2, .int x0, .int 0, .int 12] (gp D ks [] [] sz)) (q_c_sg_char2 D x0 (va_A [] sz)) 0 0 (va_A [] sz) := by
  refine g_met (q_c_sg_char2 D x0) (by decide) (Nat.le_of_ble_eq_true rfl) ?_
  intro p e s m below meth c A ls H locs hx hb hr hml hown hg hlocks hin hnw hgk hP hK hD hS hA hl
  have hown : s.vm.findClass RJ1 = some m.cls := hown
  have hl : lv_has ls 6 [(0, .ref ks.2.2.2.2), (1, .int x0), (2, .int 0), (3, .int 12)] := hl
  refine lv_iload_n hx hb dJ1_indexOfChar_4cfef_0 rfl (lv_at hl 1 rfl) ?_
  refine lv_i2b hx hb dJ1_indexOfChar_4cfef_1 rfl ?_
  refine lv_istore (lv' := [(4, .int (x0).toInt8.toInt32), (0, .ref ks.2.2.2.2), (1, .int x0), (2, .int 0), (3, .int 12)]) hx hb dJ1_indexOfChar_4cfef_2 hl (by decide) rfl (fun ls hl => ?_)
  refine lv_iload_n hx hb dJ1_indexOfChar_4cfef_4 rfl (lv_at hl 3 rfl) ?_
  refine lv_istore (lv' := [(5, .int 0), (4, .int (x0).toInt8.toInt32), (0, .ref ks.2.2.2.2), (1, .int x0), (2, .int 0), (3, .int 12)]) hx hb dJ1_indexOfChar_4cfef_5 hl (by decide) rfl (fun ls hl => ?_)
  refine W.widen (k := 0) (n := 0) (Nat.le_of_ble_eq_true rfl) (Nat.le_of_ble_eq_true rfl) ?_
  have lp1 : ∀ (n : Nat) (i : Nat) (H : Heap) (locs : List Loc) (ls : Array Slot), i ≤ 12 → (∀ k : Nat, k < i → sgb k ≠ x0.toInt8.toInt32) → 12 < i + n → va_P D vwCl [] H → va_D A [] → va_S A s.heap H locs → lv_has ls 6 [(5, .int (nI i)), (4, .int (x0).toInt8.toInt32), (0, .ref ks.2.2.2.2), (1, .int x0), (2, .int 0), (3, .int 12)] → W p l e r_c_sg_char2 s m ([.ref ks.2.2.2.2, .int x0, .int 0, .int 12] : List Value).toArray below meth c H locs (0) (0) (MQ below (q_c_sg_char2 D x0 A) ([.ref ks.2.2.2.2, .int x0, .int 0, .int 12] : List Value).toArray s 0 0 A) (F0 m 7 ls []) := by
    intro n
    induction n with
    | zero =>
      intro i H locs ls hi hs9 hn hP hD hS hl
      exact absurd hn (by omega)
    | succ n ih =>
      intro i H locs ls hi hs9 hn hP hD hS hl
      refine lv_iload hx hb dJ1_indexOfChar_4cfef_7 (lv_at hl 0 rfl) ?_
      refine lv_iload_n hx hb dJ1_indexOfChar_4cfef_9 rfl (lv_at hl 5 rfl) ?_
      refine lv_icmp_ge (tgt := 31) hx hb dJ1_indexOfChar_4cfef_10 (by decide) (fun c2 => ?_) (fun c2 => ?_)
      · skip
        have gc2 : 12 ≤ i := g_ge_ge (L := 12) (by omega) (by omega) c2
        refine lv_iconst (v := (-1)) hx hb dJ1_indexOfChar_4cfef_31 (by decide) ?_
        refine W.widen (k := 0) (n := 0) (Nat.le_of_ble_eq_true rfl) (Nat.le_of_ble_eq_true rfl) ?_
        have hP9 := hP.sub (ws' := []) [] rfl
        have hD9 := hD.sub (ws' := []) [] (by decide) rfl
        have hK9 := hK.sub (tys' := []) [] rfl
        exact W.iret (v := (-1)) hx hb hr (fun t ht hW => ⟨⟨(-1), (), rfl, (Or.inr ⟨rfl, fun k hk => hs9 k (by omega)⟩), by rw [ht]; exact hP9, va_K.moved hW.alike hK9, hD9⟩, hS.F ht⟩) hS.2.2 dJ1_indexOfChar_4cfef_32
      · skip
        have gc2 : i < 12 := g_lt_ge (L := 12) (by omega) (by omega) c2
        refine lv_aload_n hx hb dJ1_indexOfChar_4cfef_13 rfl (lv_at hl 2 rfl) ?_
        refine lv_iload hx hb dJ1_indexOfChar_4cfef_14 (lv_at hl 0 rfl) ?_
        refine va_tb (v := .int (sgb i)) hx hb (hgk.2.2.2.2.2.1.1 0 (by decide)).2.2.2 hS (show vp_in (nI i) 12 from vp_in_nI (by omega) (by omega)) (by rw [nI_clamp (by omega)]; rfl) dJ1_indexOfChar_4cfef_16 ?_
        refine lv_iload hx hb dJ1_indexOfChar_4cfef_17 (lv_at hl 1 rfl) ?_
        refine lv_icmp_ne (tgt := 25) hx hb dJ1_indexOfChar_4cfef_19 (by decide) (fun c3 => ?_) (fun c3 => ?_)
        · skip
          refine lv_iinc (v := (nI (i + 1))) (lv' := [(5, .int (nI (i + 1))), (4, .int (x0).toInt8.toInt32), (0, .ref ks.2.2.2.2), (1, .int x0), (2, .int 0), (3, .int 12)]) hx hb dJ1_indexOfChar_4cfef_25 hl (k := 0) rfl (nI_1 _) (by decide) rfl (fun ls hl => ?_)
          refine lv_goto (tgt := 7) hx hb dJ1_indexOfChar_4cfef_28 (by decide) ?_
          exact ih (i + 1) H locs ls (by omega) (fun k hk => (Nat.decEq k i).byCases (fun q => by rw [q]; exact c3) (fun q => hs9 k (by omega))) (by omega) (hP.sub [] rfl) (hD.sub [] (by decide) rfl) hS (lv_sub hl [0, 1, 2, 3, 4, 5] rfl)
        · skip
          refine lv_iload hx hb dJ1_indexOfChar_4cfef_22 (lv_at hl 0 rfl) ?_
          refine W.widen (k := 0) (n := 0) (Nat.le_of_ble_eq_true rfl) (Nat.le_of_ble_eq_true rfl) ?_
          have hP9 := hP.sub (ws' := []) [] rfl
          have hD9 := hD.sub (ws' := []) [] (by decide) rfl
          have hK9 := hK.sub (tys' := []) [] rfl
          exact W.iret (v := (nI i)) hx hb hr (fun t ht hW => ⟨⟨(nI i), (), rfl, (Or.inl ⟨i, by omega, rfl, c3⟩), by rw [ht]; exact hP9, va_K.moved hW.alike hK9, hD9⟩, hS.F ht⟩) hS.2.2 dJ1_indexOfChar_4cfef_24
  exact lp1 13 0 H locs ls (by omega) (fun k hk => absurd hk (Nat.not_lt_zero _)) (by omega) hP hD hS hl
abbrev r_c_sg_index42 : Room := { frames := 1, cells := 0, slots := 0, locals := 25 }
abbrev q_c_sg_index42 (D : va_G) (x0 : Int32) (A : Nat → Prop) : Array Value → State → Outcome → State → Prop := va_Qi (fun (r : Int32) (_ : Unit) => SGX x0 r) (fun u t => gq D A ((fun (_ : Unit) => []) u) ((fun (_ : Unit) => ([] : List (ClassId × FieldType))) u) t) A
set_option maxHeartbeats 4000000 in
set_option maxRecDepth 100000 in
theorem c_sg_index42 (l : Launch) (D : va_G) (ks : KS) (sz : Nat) (x0 : Int32) (hq : 0 ≤ x0.toInt ∧ x0.toInt ≤ 126) : Met l yJ1_indexOf_4cfef (Cond.code yJ1_indexOf_4cfef cJ1_indexOf_4cfef 4 (some .int) :: GW) r_c_sg_index42 (va_Pc [.ref ks.2.2.2.2, .int x0, .int 0, .int 12] (gp D ks [] [] sz)) (q_c_sg_index42 D x0 (va_A [] sz)) 0 0 (va_A [] sz) := by
  refine g_met (q_c_sg_index42 D x0) (by decide) (Nat.le_of_ble_eq_true rfl) ?_
  intro p e s m below meth c A ls H locs hx hb hr hml hown hg hlocks hin hnw hgk hP hK hD hS hA hl
  have hown : s.vm.findClass RJ1 = some m.cls := hown
  have hl : lv_has ls 4 [(0, .ref ks.2.2.2.2), (1, .int x0), (2, .int 0), (3, .int 12)] := hl
  refine lv_iload_n hx hb dJ1_indexOf_4cfef_0 rfl (lv_at hl 1 rfl) ?_
  refine g_int (wr := []) (tr := []) (g_runS (As := [.int x0]) (rest := []) (wc := []) (tc := []) hx hb hml hown hg gw_self hP hD hK hS hA hnw hgk [] [] (by decide) rfl rfl (c_canEncode2 l D ks H.size x0 hq) w804 w805 w159 w806 hdS_yJ1_canEncode_9a6ad ⟨Nat.le_of_ble_eq_true rfl, Nat.le_of_ble_eq_true rfl⟩ rfl hl.1 rfl (Nat.le_of_ble_eq_true rfl) dJ1_indexOf_4cfef_1 ⟨Nat.le_of_ble_eq_true rfl, Nat.le_of_ble_eq_true rfl⟩) hP hD hK hS hA [] [] [] rfl rfl (by decide) (by decide) rfl (fun r3 u2 H locs hw1 hP hD hK hS => ?_)
  have hw1 : r3 = 1 := hw1
  subst hw1
  have hP : va_P D vwCl [] H := hP
  have hD : va_D A [] := hD
  have hK : va_K D vwCl [] s := hK
  refine lv_if_ne (tgt := 9) hx hb dJ1_indexOf_4cfef_4 (by decide) (fun _ => ?_) (fun q => absurd q (by decide))
  refine lv_iload_n hx hb dJ1_indexOf_4cfef_9 rfl (lv_at hl 2 rfl) ?_
  refine lv_iconst (v := 0) hx hb dJ1_indexOf_4cfef_10 (by decide) ?_
  refine va_mmax (x := 0) (y := 0) hx hb (hml.trans hl.1.symm) hown (hg _ w807) (hg _ w808) (hg _ w173) (hg _ w809) (Nat.le_of_ble_eq_true rfl) (Nat.le_of_ble_eq_true rfl) (Nat.le_of_ble_eq_true rfl) (Nat.le_of_ble_eq_true rfl) dJ1_indexOf_4cfef_11 ?_
  refine g_top (v := 0) (by decide) ?_
  refine lv_istore_n (lv' := [(2, .int 0), (0, .ref ks.2.2.2.2), (1, .int x0), (3, .int 12)]) hx hb dJ1_indexOf_4cfef_14 rfl hl (by decide) rfl (fun ls hl => ?_)
  refine lv_iload_n hx hb dJ1_indexOf_4cfef_15 rfl (lv_at hl 3 rfl) ?_
  refine lv_aload_n hx hb dJ1_indexOf_4cfef_16 rfl (lv_at hl 1 rfl) ?_
  refine va_tlen (v := 12) hx hb (hgk.2.2.2.2.2.1.1 0 (by decide)).2.2.2 hS rfl dJ1_indexOf_4cfef_17 ?_
  refine va_mmin (x := 12) (y := 12) hx hb (hml.trans hl.1.symm) hown (hg _ w810) (hg _ w811) (hg _ w173) (hg _ w812) (Nat.le_of_ble_eq_true rfl) (Nat.le_of_ble_eq_true rfl) (Nat.le_of_ble_eq_true rfl) (Nat.le_of_ble_eq_true rfl) dJ1_indexOf_4cfef_18 ?_
  refine g_top (v := 12) (by decide) ?_
  refine lv_istore_n (lv' := [(3, .int 12), (2, .int 0), (0, .ref ks.2.2.2.2), (1, .int x0)]) hx hb dJ1_indexOf_4cfef_21 rfl hl (by decide) rfl (fun ls hl => ?_)
  refine lv_iload_n hx hb dJ1_indexOf_4cfef_22 rfl (lv_at hl 1 rfl) ?_
  refine lv_iload_n hx hb dJ1_indexOf_4cfef_23 rfl (lv_at hl 0 rfl) ?_
  refine lv_icmp_lt (tgt := 29) hx hb dJ1_indexOf_4cfef_24 (by decide) (fun _ => ?_) (fun q => absurd (by decide) q)
  refine lv_aload_n hx hb dJ1_indexOf_4cfef_29 rfl (lv_at hl 2 rfl) ?_
  refine lv_iload_n hx hb dJ1_indexOf_4cfef_30 rfl (lv_at hl 3 rfl) ?_
  refine lv_iload_n hx hb dJ1_indexOf_4cfef_31 rfl (lv_at hl 1 rfl) ?_
  refine lv_iload_n hx hb dJ1_indexOf_4cfef_32 rfl (lv_at hl 0 rfl) ?_
  refine g_int (wr := []) (tr := []) (g_runS (As := [.ref ks.2.2.2.2, .int x0, .int 0, .int 12]) (rest := []) (wc := []) (tc := []) hx hb hml hown hg gw_self hP hD hK hS hA hnw hgk [] [] (by decide) rfl rfl (c_sg_char2 l D ks H.size x0) w813 w814 w159 w815 hdS_yJ1_indexOfChar_4cfef ⟨Nat.le_of_ble_eq_true rfl, Nat.le_of_ble_eq_true rfl⟩ rfl hl.1 rfl (Nat.le_of_ble_eq_true rfl) dJ1_indexOf_4cfef_33 ⟨Nat.le_of_ble_eq_true rfl, Nat.le_of_ble_eq_true rfl⟩) hP hD hK hS hA [] [] [] rfl rfl (by decide) (by decide) rfl (fun r6 u5 H locs hw4 hP hD hK hS => ?_)
  have hw4 : SGX x0 r6 := hw4
  have hP : va_P D vwCl [] H := hP
  have hD : va_D A [] := hD
  have hK : va_K D vwCl [] s := hK
  refine W.widen (k := 0) (n := 0) (Nat.le_of_ble_eq_true rfl) (Nat.le_of_ble_eq_true rfl) ?_
  have hP9 := hP.sub (ws' := []) [] rfl
  have hD9 := hD.sub (ws' := []) [] (by decide) rfl
  have hK9 := hK.sub (tys' := []) [] rfl
  exact W.iret (v := r6) hx hb hr (fun t ht hW => ⟨⟨r6, (), rfl, hw4, by rw [ht]; exact hP9, va_K.moved hW.alike hK9, hD9⟩, hS.F ht⟩) hS.2.2 dJ1_indexOf_4cfef_36
abbrev r_c_sg_index32 : Room := { frames := 2, cells := 0, slots := 0, locals := 48 }
abbrev q_c_sg_index32 (D : va_G) (x0 : Int32) (A : Nat → Prop) : Array Value → State → Outcome → State → Prop := va_Qi (fun (r : Int32) (_ : Unit) => SGX x0 r) (fun u t => gq D A ((fun (_ : Unit) => []) u) ((fun (_ : Unit) => ([] : List (ClassId × FieldType))) u) t) A
set_option maxHeartbeats 4000000 in
set_option maxRecDepth 100000 in
theorem c_sg_index32 (l : Launch) (D : va_G) (ks : KS) (sz : Nat) (x0 : Int32) (hq : 0 ≤ x0.toInt ∧ x0.toInt ≤ 126) : Met l yJ0_indexOf_7cf53 (Cond.code yJ0_indexOf_7cf53 cJ0_indexOf_7cf53 3 (some .int) :: GW) r_c_sg_index32 (va_Pc [.ref ks.2.2.2.1, .int x0, .int 0] (gp D ks [] [] sz)) (q_c_sg_index32 D x0 (va_A [] sz)) 0 0 (va_A [] sz) := by
  refine g_met (q_c_sg_index32 D x0) (by decide) (Nat.le_of_ble_eq_true rfl) ?_
  intro p e s m below meth c A ls H locs hx hb hr hml hown hg hlocks hin hnw hgk hP hK hD hS hA hl
  have hown : s.vm.findClass RJ0 = some m.cls := hown
  have hl : lv_has ls 3 [(0, .ref ks.2.2.2.1), (1, .int x0), (2, .int 0)] := hl
  refine lv_aload_n hx hb dJ0_indexOf_7cf53_0 rfl (lv_at hl 0 rfl) ?_
  refine g_int (wr := []) (tr := []) (g_runW (As := []) (rest := []) (wc := []) (tc := []) (C := RJ0) hx hb hml hown hg gw_self hP hD hK hS hA hnw hgk [] [] (by decide) rfl rfl (c_sg_isLatin1 l D ks H.size) w211 w212 w213 w158 w214 (vk_recv (i := 0) hgk.2.2.2.2.2.1 (by decide) hS) hdV_yJ0_isLatin1_aae02 ⟨Nat.le_of_ble_eq_true rfl, Nat.le_of_ble_eq_true rfl⟩ rfl hl.1 rfl (Nat.le_of_ble_eq_true rfl) dJ0_indexOf_7cf53_1 ⟨Nat.le_of_ble_eq_true rfl, Nat.le_of_ble_eq_true rfl⟩) hP hD hK hS hA [] [] [] rfl rfl (by decide) (by decide) rfl (fun r3 u2 H locs hw1 hP hD hK hS => ?_)
  have hw1 : r3 = 1 := hw1
  subst hw1
  have hP : va_P D vwCl [] H := hP
  have hD : va_D A [] := hD
  have hK : va_K D vwCl [] s := hK
  refine lv_if_eq (tgt := 23) hx hb dJ0_indexOf_7cf53_4 (by decide) (fun q => absurd q (by decide)) (fun _ => ?_)
  refine lv_aload_n hx hb dJ0_indexOf_7cf53_7 rfl (lv_at hl 0 rfl) ?_
  refine vk_getf (v := .ref ks.2.2.2.2) hx hb (hgk.2.2.2.2.2.1.1 0 (by decide)).2.2.1 hS hown (hg _ w2398) (fun _ h9 => h9) dJ0_indexOf_7cf53_8 ?_
  refine lv_iload_n hx hb dJ0_indexOf_7cf53_11 rfl (lv_at hl 1 rfl) ?_
  refine lv_iload_n hx hb dJ0_indexOf_7cf53_12 rfl (lv_at hl 2 rfl) ?_
  refine lv_aload_n hx hb dJ0_indexOf_7cf53_13 rfl (lv_at hl 0 rfl) ?_
  refine g_int (wr := []) (tr := []) (g_runW (As := []) (rest := [.int 0, .int x0, .ref ks.2.2.2.2]) (wc := []) (tc := []) (C := RJ0) hx hb hml hown hg gw_self hP hD hK hS hA hnw hgk [] [] (by decide) rfl rfl (c_sg_length l D ks H.size) w800 w198 w199 w158 w200 (vk_recv (i := 0) hgk.2.2.2.2.2.1 (by decide) hS) hdV_yJ0_length_8abf5 ⟨Nat.le_of_ble_eq_true rfl, Nat.le_of_ble_eq_true rfl⟩ rfl hl.1 rfl (Nat.le_of_ble_eq_true rfl) dJ0_indexOf_7cf53_14 ⟨Nat.le_of_ble_eq_true rfl, Nat.le_of_ble_eq_true rfl⟩) hP hD hK hS hA [] [] [] rfl rfl (by decide) (by decide) rfl (fun r6 u5 H locs hw4 hP hD hK hS => ?_)
  have hw4 : r6 = 12 := hw4
  subst hw4
  have hP : va_P D vwCl [] H := hP
  have hD : va_D A [] := hD
  have hK : va_K D vwCl [] s := hK
  refine g_int (wr := []) (tr := []) (g_runS (As := [.ref ks.2.2.2.2, .int x0, .int 0, .int 12]) (rest := []) (wc := []) (tc := []) hx hb hml hown hg gw_self hP hD hK hS hA hnw hgk [] [] (by decide) rfl rfl (c_sg_index42 l D ks H.size x0 hq) w801 w802 w159 w803 hdS_yJ1_indexOf_4cfef ⟨Nat.le_of_ble_eq_true rfl, Nat.le_of_ble_eq_true rfl⟩ rfl hl.1 rfl (Nat.le_of_ble_eq_true rfl) dJ0_indexOf_7cf53_17 ⟨Nat.le_of_ble_eq_true rfl, Nat.le_of_ble_eq_true rfl⟩) hP hD hK hS hA [] [] [] rfl rfl (by decide) (by decide) rfl (fun r9 u8 H locs hw7 hP hD hK hS => ?_)
  have hw7 : SGX x0 r9 := hw7
  have hP : va_P D vwCl [] H := hP
  have hD : va_D A [] := hD
  have hK : va_K D vwCl [] s := hK
  refine lv_goto (tgt := 36) hx hb dJ0_indexOf_7cf53_20 (by decide) ?_
  refine W.widen (k := 0) (n := 0) (Nat.le_of_ble_eq_true rfl) (Nat.le_of_ble_eq_true rfl) ?_
  have hP9 := hP.sub (ws' := []) [] rfl
  have hD9 := hD.sub (ws' := []) [] (by decide) rfl
  have hK9 := hK.sub (tys' := []) [] rfl
  exact W.iret (v := r9) hx hb hr (fun t ht hW => ⟨⟨r9, (), rfl, hw7, by rw [ht]; exact hP9, va_K.moved hW.alike hK9, hD9⟩, hS.F ht⟩) hS.2.2 dJ0_indexOf_7cf53_36
abbrev r_c_sg_index2 : Room := { frames := 3, cells := 0, slots := 0, locals := 70 }
abbrev q_c_sg_index2 (D : va_G) (x0 : Int32) (A : Nat → Prop) : Array Value → State → Outcome → State → Prop := va_Qi (fun (r : Int32) (_ : Unit) => SGX x0 r) (fun u t => gq D A ((fun (_ : Unit) => []) u) ((fun (_ : Unit) => ([] : List (ClassId × FieldType))) u) t) A
set_option maxHeartbeats 4000000 in
set_option maxRecDepth 100000 in
theorem c_sg_index2 (l : Launch) (D : va_G) (ks : KS) (sz : Nat) (x0 : Int32) (hq : 0 ≤ x0.toInt ∧ x0.toInt ≤ 126) : Met l yJ0_indexOf_0f7a4 (Cond.code yJ0_indexOf_0f7a4 cJ0_indexOf_0f7a4 2 (some .int) :: GW) r_c_sg_index2 (va_Pc [.ref ks.2.2.2.1, .int x0] (gp D ks [] [] sz)) (q_c_sg_index2 D x0 (va_A [] sz)) 0 0 (va_A [] sz) := by
  refine g_met (q_c_sg_index2 D x0) (by decide) (Nat.le_of_ble_eq_true rfl) ?_
  intro p e s m below meth c A ls H locs hx hb hr hml hown hg hlocks hin hnw hgk hP hK hD hS hA hl
  have hown : s.vm.findClass RJ0 = some m.cls := hown
  have hl : lv_has ls 2 [(0, .ref ks.2.2.2.1), (1, .int x0)] := hl
  refine lv_aload_n hx hb dJ0_indexOf_0f7a4_0 rfl (lv_at hl 0 rfl) ?_
  refine lv_iload_n hx hb dJ0_indexOf_0f7a4_1 rfl (lv_at hl 1 rfl) ?_
  refine lv_iconst (v := 0) hx hb dJ0_indexOf_0f7a4_2 (by decide) ?_
  refine g_int (wr := []) (tr := []) (g_runW (As := [.int x0, .int 0]) (rest := []) (wc := []) (tc := []) (C := RJ0) hx hb hml hown hg gw_self hP hD hK hS hA hnw hgk [] [] (by decide) rfl rfl (c_sg_index32 l D ks H.size x0 hq) w796 w797 w798 w158 w799 (vk_recv (i := 0) hgk.2.2.2.2.2.1 (by decide) hS) hdV_yJ0_indexOf_7cf53 ⟨Nat.le_of_ble_eq_true rfl, Nat.le_of_ble_eq_true rfl⟩ rfl hl.1 rfl (Nat.le_of_ble_eq_true rfl) dJ0_indexOf_0f7a4_3 ⟨Nat.le_of_ble_eq_true rfl, Nat.le_of_ble_eq_true rfl⟩) hP hD hK hS hA [] [] [] rfl rfl (by decide) (by decide) rfl (fun r3 u2 H locs hw1 hP hD hK hS => ?_)
  have hw1 : SGX x0 r3 := hw1
  have hP : va_P D vwCl [] H := hP
  have hD : va_D A [] := hD
  have hK : va_K D vwCl [] s := hK
  refine W.widen (k := 0) (n := 0) (Nat.le_of_ble_eq_true rfl) (Nat.le_of_ble_eq_true rfl) ?_
  have hP9 := hP.sub (ws' := []) [] rfl
  have hD9 := hD.sub (ws' := []) [] (by decide) rfl
  have hK9 := hK.sub (tys' := []) [] rfl
  exact W.iret (v := r3) hx hb hr (fun t ht hW => ⟨⟨r3, (), rfl, hw1, by rw [ht]; exact hP9, va_K.moved hW.alike hK9, hD9⟩, hS.F ht⟩) hS.2.2 dJ0_indexOf_0f7a4_6
end
section
/-! a token: where it ends, what the class holds of it -/
def isTp (x : Int32) : Prop := x.toInt = 10 ∨ (32 ≤ x.toInt ∧ x.toInt ≤ 126)
def isSg (x : Int32) : Prop := ∃ i : Nat, i < 12 ∧ sgb i = x
def TE (f : Nat → Int32) (n s e : Nat) : Prop := (isDg (f s) ∧ RUN isDg f n s e) ∨ (isLt (f s) ∧ RUN isLD f n s e) ∨ (¬ isDg (f s) ∧ ¬ isLt (f s) ∧ e = s + 1 ∧ s < n)
def TC (L : Lf) (f : Nat → Int32) (s e : Nat) (kd : Int) (vl : Int64) : Prop :=
  (isDg (f s) → (9 < e - s → kd = 1) ∧ (e - s ≤ 9 → kd = 2 ∧ vl = nv f s (e - s))) ∧ (isLt (f s) → (12 < e - s → kd = 1) ∧ (e - s ≤ 12 → KW L (wv f s (e - s)) kd ∧ vl = wv f s (e - s))) ∧ (¬ isDg (f s) → ¬ isLt (f s) → (isSg (f s) ∧ kd = (f s).toInt) ∨ (¬ isSg (f s) ∧ kd = 1))
def CUT (V W : Vf) (L M : Lf) (gs t : Nat) : Prop := ∃ e : Nat, TE (V 10) (V 6 5).toInt.toNat gs e ∧ (W 6 6).toInt = (e : Int) ∧ (W 13 t).toInt = (gs : Int) ∧ TC L (V 10) gs e (W 12 t).toInt (M 14 t) ∧ ∀ k, k ≠ t → W 12 k = V 12 k ∧ W 13 k = V 13 k ∧ M 14 k = L 14 k
theorem dg_lt {x : Int32} (h : isDg x) (k : isLt x) : False := by
  have a := h.2
  have b := k.1
  omega
theorem TE.uq {f : Nat → Int32} {n s e d : Nat} (h : TE f n s e) (k : TE f n s d) : e = d := by
  rcases h with h | h | h <;> rcases k with k | k | k
  · exact h.2.uq k.2
  · exact absurd k.1 (fun q => dg_lt h.1 q)
  · exact absurd h.1 k.1
  · exact absurd h.1 (fun q => dg_lt k.1 q)
  · exact h.2.uq k.2
  · exact absurd h.1 k.2.1
  · exact absurd k.1 h.1
  · exact absurd k.1 h.2.1
  · rw [h.2.2.1, k.2.2.1]
theorem TE.lt {f : Nat → Int32} {n s e : Nat} (h : TE f n s e) : s < e ∧ e ≤ n := by
  rcases h with h | h | h
  · exact ⟨h.2.1, h.2.2.1⟩
  · exact ⟨h.2.1, h.2.2.1⟩
  · have a := h.2.2.1
    have b := h.2.2.2
    omega
theorem TE.ex {f g : Nat → Int32} {n s e : Nat} (h : TE f n s e) (q : eqB n f g) : TE g n s e := by
  have a := h.lt
  have es : f s = g s := q s (by omega)
  rcases h with h | h | h
  · exact Or.inl ⟨by rw [← es]; exact h.1, h.2.ex q⟩
  · exact Or.inr (Or.inl ⟨by rw [← es]; exact h.1, h.2.ex q⟩)
  · exact Or.inr (Or.inr ⟨by rw [← es]; exact h.1, by rw [← es]; exact h.2.1, h.2.2.1, h.2.2.2⟩)
theorem KW.ex {L M : Lf} {w : Int64} {x : Int} (h : KW L w x) (e : L 11 = M 11) : KW M w x := by
  unfold KW at h ⊢
  rw [← e]
  exact h
theorem TC.ex {L M : Lf} {f : Nat → Int32} {s e : Nat} {kd : Int} {vl : Int64} (h : TC L f s e kd vl) (q : L 11 = M 11) : TC M f s e kd vl :=
  ⟨h.1, fun a => ⟨(h.2.1 a).1, fun b => ⟨((h.2.1 a).2 b).1.ex q, ((h.2.1 a).2 b).2⟩⟩, h.2.2⟩
theorem upL_14 {L M : Lf} {t : Nat} {v : Int64} (h : M = upL L 14 t v) : L 11 = M 11 ∧ ∀ k, k ≠ t → M 14 k = L 14 k :=
  ⟨by rw [h]; unfold upL; rw [if_neg (by decide)], fun k hk => by rw [h]; unfold upL vp_updL; rw [if_pos rfl, if_neg hk]⟩
theorem CUT.mk1 {V V4 W5 W : Vf} {L L6 M : Lf} {gs t e : Nat} {p : Int32} (h4 : V4 = up2 V 13 t p) (hp : p.toInt = (gs : Int)) (h6 : L6 = upL L 14 t 0) (a13 : W5 13 = V4 13) (w12 : W 12 = W5 12) (w13 : W 13 = W5 13) (w6 : (W 6 6).toInt = (e : Int))
    (te : TE (V 10) (V 6 5).toInt.toNat gs e) (tc : TC L (V 10) gs e (W5 12 t).toInt (M 14 t)) (ot : ∀ k, k ≠ t → W5 12 k = V4 12 k ∧ M 14 k = L6 14 k) : CUT V W L M gs t := by
  have f13 : W 13 = upd (V 13) t p := by rw [w13, a13, up2_fn h4]
  refine ⟨e, te, w6, ?_, by rw [w12]; exact tc, fun k hk => ⟨?_, ?_, ?_⟩⟩
  · rw [f13]
    unfold upd
    rw [if_pos rfl]
    exact hp
  · rw [w12, (ot k hk).1, (up2_fo h4 (by decide) : V4 12 = V 12)]
  · rw [f13]
    exact if_neg hk
  · rw [(ot k hk).2]
    exact (upL_14 h6).2 k hk
theorem CUT.sg {V V4 V5 W : Vf} {L L6 : Lf} {gs t : Nat} {p x : Int32} (h4 : V4 = up2 V 13 t p) (hp : p.toInt = (gs : Int)) (h6 : L6 = upL L 14 t 0) (h5 : V5 = up2 V4 12 t x) (w12 : W 12 = V5 12) (w13 : W 13 = V5 13) (w6 : (W 6 6).toInt = (gs : Int) + 1)
    (n1 : ¬ isDg (V 10 gs)) (n2 : ¬ isLt (V 10 gs)) (hl : gs < (V 6 5).toInt.toNat) (hk : (isSg (V 10 gs) ∧ x = V 10 gs) ∨ (¬ isSg (V 10 gs) ∧ x = 1)) : CUT V W L L6 gs t :=
  CUT.mk1 (e := gs + 1) h4 hp h6 (up2_fo h5 (by decide)) w12 w13 (by rw [w6]; omega) (Or.inr (Or.inr ⟨n1, n2, rfl, hl⟩))
    ⟨fun q => absurd q n1, fun q => absurd q n2, fun _ _ => by
      have e : V5 12 t = x := up2_s h5
      rw [e]
      exact hk.elim (fun q => Or.inl ⟨q.1, by rw [q.2]⟩) (fun q => Or.inr ⟨q.1, by rw [q.2]; decide⟩)⟩
    (fun k hk => ⟨by rw [up2_fn h5]; exact if_neg hk, rfl⟩)
theorem i2c_l : ∀ n, n < 127 → ((nI n).toUInt32 % 65536).toInt32 = nI n := by decide +kernel
theorem i2b_l : ∀ n, n < 127 → (nI n).toInt8.toInt32 = nI n := by decide +kernel
theorem tp_nI {x : Int32} (h : 0 ≤ x.toInt ∧ x.toInt ≤ 126) : x = nI x.toInt.toNat := Int32.toInt_inj.mp (by rw [nI_toInt (by omega)]; omega)
theorem tp_c {x : Int32} (h : 0 ≤ x.toInt ∧ x.toInt ≤ 126) : (x.toUInt32 % 65536).toInt32 = x := by
  rw [tp_nI h]
  exact i2c_l _ (by omega)
theorem tp_b {x : Int32} (h : 0 ≤ x.toInt ∧ x.toInt ≤ 126) : x.toInt8.toInt32 = x := by
  rw [tp_nI h]
  exact i2b_l _ (by omega)
theorem sg_y {x r : Int32} (h : SGX x r) (hx : 0 ≤ x.toInt ∧ x.toInt ≤ 126) (c : 0 ≤ r.toInt) : isSg x := by
  rcases h with ⟨i, hi, _, q⟩ | ⟨q, _⟩
  · exact ⟨i, hi, by rw [q, tp_b hx]⟩
  · rw [q] at c
    exact absurd c (by decide)
theorem sg_n {x r : Int32} (h : SGX x r) (hx : 0 ≤ x.toInt ∧ x.toInt ≤ 126) (c : r.toInt < 0) : ¬ isSg x := by
  rcases h with ⟨i, hi, q, _⟩ | ⟨_, q⟩
  · rw [q, nI_toInt (by omega)] at c
    omega
  · intro ⟨i, hi, z⟩
    exact q i hi (by rw [z, tp_b hx])
/-! all tokens -/
def upN (f : Nat → Nat) (t p : Nat) : Nat → Nat := fun k => if k = t then p else f k
theorem upN_s (f : Nat → Nat) (t p : Nat) : upN f t p t = p := if_pos rfl
theorem upN_o (f : Nat → Nat) (t p : Nat) {k : Nat} (h : k ≠ t) : upN f t p k = f k := if_neg h
def TKS (f : Nat → Int32) (n : Nat) (S E : Nat → Nat) (t p : Nat) : Prop := E 0 = 0 ∧ (∀ j, j < t → E j ≤ S j ∧ (∀ k, E j ≤ k → k < S j → isBl (f k)) ∧ ¬ isBl (f (S j)) ∧ TE f n (S j) (E (j + 1))) ∧ E t ≤ p ∧ p ≤ n ∧ ∀ k, E t ≤ k → k < p → isBl (f k)
theorem TKS.bl {f : Nat → Int32} {n : Nat} {S E : Nat → Nat} {t p : Nat} (h : TKS f n S E t p) (hp : p < n) (b : isBl (f p)) : TKS f n S E t (p + 1) :=
  ⟨h.1, h.2.1, by have := h.2.2.1; omega, hp, fun k a c => by
    by_cases e : k = p
    · rw [e]; exact b
    · exact h.2.2.2.2 k a (by omega)⟩
theorem TKS.tk {f : Nat → Int32} {n : Nat} {S E : Nat → Nat} {t p e : Nat} (h : TKS f n S E t p) (b : ¬ isBl (f p)) (te : TE f n p e) : TKS f n (upN S t p) (upN E (t + 1) e) (t + 1) e := by
  refine ⟨?_, fun j hj => ?_, ?_, te.lt.2, ?_⟩
  · rw [upN_o _ _ _ (by omega)]
    exact h.1
  · by_cases c : j = t
    · rw [c, upN_s, upN_s, upN_o _ _ _ (by omega)]
      exact ⟨h.2.2.1, h.2.2.2.2, b, te⟩
    · rw [upN_o _ _ _ c, upN_o _ _ _ (by omega), upN_o _ _ _ (by omega)]
      exact h.2.1 j (by omega)
  · rw [upN_s]
    exact Nat.le_refl _
  · intro k a c
    rw [upN_s] at a
    omega
theorem TKS.st {f : Nat → Int32} {n : Nat} {S E S' E' : Nat → Nat} {t t' : Nat} (h : TKS f n S E t n) (h' : TKS f n S' E' t' n) (j : Nat) : j ≤ t → j ≤ t' ∧ E j = E' j ∧ ∀ i, i < j → S i = S' i := by
  induction j with
  | zero => intro _; exact ⟨Nat.zero_le _, by rw [h.1, h'.1], fun i hi => absurd hi (Nat.not_lt_zero _)⟩
  | succ j ih =>
    intro hj
    obtain ⟨a, b, c⟩ := ih (by omega)
    have d := h.2.1 j (by omega)
    have dl := d.2.2.2.lt
    have lt : j < t' := by
      rcases Nat.lt_or_ge j t' with q | q
      · exact q
      · have ej : j = t' := by omega
        subst ej
        exact absurd (h'.2.2.2.2 (S j) (by rw [← b]; exact d.1) (by omega)) d.2.2.1
    have d' := h'.2.1 j lt
    have es : S j = S' j := by
      rcases Nat.lt_trichotomy (S j) (S' j) with q | q | q
      · exact absurd (d'.2.1 (S j) (by rw [← b]; exact d.1) q) d.2.2.1
      · exact q
      · exact absurd (d.2.1 (S' j) (by rw [b]; exact d'.1) q) d'.2.2.1
    refine ⟨lt, ?_, fun i hi => ?_⟩
    · have z := d'.2.2.2
      rw [← es] at z
      exact d.2.2.2.uq z
    · by_cases e : i = j
      · rw [e]; exact es
      · exact c i (by omega)
theorem TKS.uq {f : Nat → Int32} {n : Nat} {S E S' E' : Nat → Nat} {t t' : Nat} (h : TKS f n S E t n) (h' : TKS f n S' E' t' n) : t = t' ∧ (∀ j, j ≤ t → E j = E' j) ∧ ∀ j, j < t → S j = S' j :=
  ⟨Nat.le_antisymm (h.st h' t (Nat.le_refl _)).1 (h'.st h t' (Nat.le_refl _)).1, fun j hj => (h.st h' j hj).2.1, fun j hj => (h.st h' t (Nat.le_refl _)).2.2 j hj⟩
theorem TKS.ex {f g : Nat → Int32} {n : Nat} {S E : Nat → Nat} {t p : Nat} (h : TKS f n S E t p) (q : eqB n f g) : TKS g n S E t p :=
  ⟨h.1, fun j hj => by
    have d := h.2.1 j hj
    have dl := d.2.2.2.lt
    exact ⟨d.1, fun k a b => by rw [← q k (by omega)]; exact d.2.1 k a b, by rw [← q (S j) (by omega)]; exact d.2.2.1, d.2.2.2.ex q⟩, h.2.2.1, h.2.2.2.1, fun k a b => by rw [← q k (by have := h.2.2.2.1; omega)]; exact h.2.2.2.2 k a b⟩
def CTK (K : Lf) (f : Nat → Int32) (S E : Nat → Nat) (V : Vf) (L : Lf) (t : Nat) : Prop := ∀ j, j < t → (V 13 j).toInt = (S j : Int) ∧ TC K f (S j) (E (j + 1)) (V 12 j).toInt (L 14 j)
def CT (V : Vf) (L : Lf) (A : Vf) (B : Lf) : Prop := ∃ S E : Nat → Nat, TKS (V 10) (V 6 5).toInt.toNat S E (A 6 7).toInt.toNat (A 6 6).toInt.toNat ∧ CTK L (V 10) S E A B (A 6 7).toInt.toNat
theorem CT.z {V A : Vf} {L B : Lf} (h1 : (A 6 7).toInt = 0) (h2 : (A 6 6).toInt = 0) : CT V L A B := by
  unfold CT
  rw [h1, h2]
  exact ⟨fun _ => 0, fun _ => 0, ⟨rfl, fun j hj => absurd hj (Nat.not_lt_zero _), Nat.le_refl _, Nat.zero_le _, fun k _ b => absurd b (Nat.not_lt_zero _)⟩, fun j hj => absurd hj (Nat.not_lt_zero _)⟩
theorem CT.bl {V A A' : Vf} {L B : Lf} {z : Int32} (h : CT V L A B) (e : A' = up2 A 6 6 z) (hz : z.toInt = (A 6 6).toInt + 1) (h0 : 0 ≤ (A 6 6).toInt) (hl : (A 6 6).toInt < (V 6 5).toInt) (b : isBl (V 10 (A 6 6).toInt.toNat)) : CT V L A' B := by
  obtain ⟨S, E, k1, k2⟩ := h
  have e7 : A' 6 7 = A 6 7 := up2_k e (by decide)
  have e6 : A' 6 6 = z := up2_s e
  refine ⟨S, E, ?_, ?_⟩
  · rw [e7, e6, hz, show ((A 6 6).toInt + 1).toNat = (A 6 6).toInt.toNat + 1 from by omega]
    exact k1.bl (by omega) b
  · rw [e7]
    intro j hj
    rw [(up2_fo e (by decide) : A' 13 = A 13), (up2_fo e (by decide) : A' 12 = A 12)]
    exact k2 j hj
theorem CT.tk {V A W : Vf} {L B M : Lf} {t : Nat} (h : CT V L A B) (c : CUT A W B M (A 6 6).toInt.toNat t) (ht : t = (A 6 7).toInt.toNat) (hw : (W 6 7).toInt = (A 6 7).toInt + 1) (h0 : 0 ≤ (A 6 7).toInt) (e10 : A 10 = V 10) (e5 : A 6 5 = V 6 5) (e11 : B 11 = L 11) (b : ¬ isBl (V 10 (A 6 6).toInt.toNat)) : CT V L W M := by
  obtain ⟨S, E, k1, k2⟩ := h
  obtain ⟨e, c1, c2, c3, c4, c5⟩ := c
  rw [e10, e5] at c1
  rw [e10] at c4
  subst ht
  refine ⟨upN S (A 6 7).toInt.toNat (A 6 6).toInt.toNat, upN E ((A 6 7).toInt.toNat + 1) e, ?_, ?_⟩
  · rw [hw, c2, show ((A 6 7).toInt + 1).toNat = (A 6 7).toInt.toNat + 1 from by omega, Int.toNat_natCast]
    exact k1.tk b c1
  · rw [hw, show ((A 6 7).toInt + 1).toNat = (A 6 7).toInt.toNat + 1 from by omega]
    intro j hj
    by_cases q : j = (A 6 7).toInt.toNat
    · rw [q, upN_s, upN_s]
      exact ⟨c3, c4.ex e11⟩
    · rw [upN_o _ _ _ q, upN_o _ _ _ (by omega), (c5 j q).1, (c5 j q).2.1, (c5 j q).2.2]
      exact k2 j (by omega)
theorem upL_s {L M : Lf} {c k : Nat} {v : Int64} (h : M = upL L c k v) : M c k = v := by
  rw [h]
  unfold upL vp_updL
  rw [if_pos rfl, if_pos rfl]
theorem upL_o {L M : Lf} {c k c' : Nat} {v : Int64} (h : M = upL L c k v) (hc : c' ≠ c) : M c' = L c' := by
  rw [h]
  unfold upL
  rw [if_neg hc]
/-- the token at hand is number c -/
def CUR (W : Vf) (M : Lf) (c : Nat) : Prop := (c : Int) ≤ (W 6 7).toInt ∧ W 6 9 = W 12 c ∧ W 6 10 = W 13 c ∧ M 6 11 = M 14 c ∧ (W 6 8).toInt = (if (c : Int) < (W 6 7).toInt then (c : Int) + 1 else (c : Int))
/-- all tokens are cut, the first is at hand -/
def CTE (V : Vf) (L : Lf) (W : Vf) (M : Lf) : Prop := CT V L W M ∧ (W 6 6).toInt = (V 6 5).toInt ∧ W 12 (W 6 7).toInt.toNat = 0 ∧ W 13 (W 6 7).toInt.toNat = V 6 5 ∧ CUR W M 0
theorem CT.fin {V A W : Vf} {L B M : Lf} (h : CT V L A B) (w7 : W 6 7 = A 6 7) (w6 : W 6 6 = A 6 6) (o : ∀ k, k ≠ (A 6 7).toInt.toNat → W 12 k = A 12 k ∧ W 13 k = A 13 k ∧ M 14 k = B 14 k) : CT V L W M := by
  obtain ⟨S, E, k1, k2⟩ := h
  refine ⟨S, E, by rw [w7, w6]; exact k1, ?_⟩
  rw [w7]
  intro j hj
  have z := o j (by omega)
  rw [z.1, z.2.1, z.2.2]
  exact k2 j hj
theorem CTE.mk {V A A1 A2 W : Vf} {L B B1 M : Lf} {t : Nat} {z : Int32} (h : CT V L A B) (h1 : A1 = up2 A 12 t 0) (h2 : A2 = up2 A1 13 t z) (hL : B1 = upL B 14 t 0) (w12 : W 12 = A2 12) (w13 : W 13 = A2 13) (m14 : M 14 = B1 14) (w7 : W 6 7 = A 6 7) (w6 : W 6 6 = A 6 6) (hz : z = V 6 5) (ht : t = (A 6 7).toInt.toNat) (hp : (A 6 6).toInt = (V 6 5).toInt) (cu : CUR W M 0) : CTE V L W M := by
  have f12 : W 12 = upd (A 12) t 0 := by rw [w12, (up2_fo h2 (by decide) : A2 12 = A1 12), up2_fn h1]
  have f13 : W 13 = upd (A 13) t z := by rw [w13, up2_fn h2, (up2_fo h1 (by decide) : A1 13 = A 13)]
  subst ht
  refine ⟨h.fin w7 w6 (fun k hk => ⟨by rw [f12]; exact if_neg hk, by rw [f13]; exact if_neg hk, by rw [m14]; exact (upL_14 hL).2 k hk⟩), by rw [w6]; exact hp, ?_, ?_, cu⟩
  · rw [w7, f12]
    exact if_pos rfl
  · rw [w7, f13, ← hz]
    exact if_pos rfl


abbrev r_x_cut2 : Room := { frames := 4, cells := 0, slots := 0, locals := 91 }
abbrev q_x_cut2 (D : va_G) (ks : KS) (ad : Nat → Nat) (kk : Nat → ClassId) (V : Vf) (L : Lf) (Z : XZ) (gs : Nat) (A : Nat → Prop) : Array Value → State → Outcome → State → Prop := va_Qv (fun (u : Vf × Lf) => rgd bX u.1 ∧ agr [(6, 6), (6, 7)] [12, 13, 14] V u.1 ∧ agL [14] L u.2 ∧ ((u.1 6 6).toInt ≤ (u.1 6 5).toInt) ∧ ((u.1 6 7).toInt = (V 6 7).toInt + 1) ∧ (CUT V u.1 L u.2 gs (Int32.toNatClampNeg (V 6 7))) ∧ ((V 6 6).toInt + 1 ≤ (u.1 6 6).toInt)) (fun u t => gq D A (xw ad kk u.1 u.2 Z) (xty kk Z) t) A
set_option maxHeartbeats 4000000 in
set_option maxRecDepth 100000 in
theorem x_cut2 (l : Launch) (D : va_G) (ks : KS) (sz : Nat) (ad : Nat → Nat) (kk : Nat → ClassId) (V : Vf) (L : Lf) (Z : XZ) (gs : Nat) (hMV : rgd bX V) (rp1 : (V 6 6).toInt < (V 6 5).toInt) (rp2 : (V 6 7).toInt ≤ 3999) (rp3 : (V 6 6).toInt = (gs : Int)) (rp4 : isTp (V 10 gs))  : Met l yX9_cut (Cond.code yX9_cut cX9_cut 2 none :: GW) r_x_cut2 (va_Pc [.ref (ad 6)] (gp D ks (xw ad kk V L Z) (xty kk Z) sz)) (q_x_cut2 D ks ad kk V L Z  gs (va_A (xw ad kk V L Z) sz)) 0 0 (va_A (xw ad kk V L Z) sz) := by
  refine g_met (q_x_cut2 D ks ad kk V L Z  gs) (by decide) (Nat.le_of_ble_eq_true rfl) ?_
  intro p e s m below meth c A ls H locs hx hb hr hml hown hg hlocks hin hnw hgk hP hK hD hS hA hl
  have hown : s.vm.findClass RX9 = some m.cls := hown
  have hl : lv_has ls 2 [(0, .ref (ad 6))] := hl
  have hP : va_P D vwCl (xw ad kk V L Z) H := hP
  have hD : va_D A (xw ad kk V L Z) := hD
  have hK : va_K D vwCl (xty kk Z) s := hK
  have agV : agr [(6, 6), (6, 7)] [12, 13, 14] V V := agr.rf
  have alL : agL [14] L L := agL.rf
  have r1 : 0 ≤ ((V 6 5)).toInt ∧ ((V 6 5)).toInt ≤ 4000 := hMV 6 5
  have r2 : 0 ≤ ((V 6 6)).toInt ∧ ((V 6 6)).toInt ≤ 4000 := hMV 6 6
  have r3 : 0 ≤ ((V 6 7)).toInt ∧ ((V 6 7)).toInt ≤ 4000 := hMV 6 7
  refine lv_aload_n hx hb dX9_cut_0 rfl (lv_at hl 0 rfl) ?_
  refine va_get (D := D) (ci := 9) (v := .ref (ad 7)) (fs := (xfTape ad V L Z)) (C := RX9) (T := TX9) (N := 12) hx hb hg inX9 hown hK hP 6 xgTape rfl 0 (by decide) (hg _ w252) (fun _ h9 => h9) rfl dX9_cut_1 ?_
  refine lv_aload_n hx hb dX9_cut_4 rfl (lv_at hl 0 rfl) ?_
  refine va_get (D := D) (ci := 9) (v := .int (V 6 6)) (fs := (xfTape ad V L Z)) (C := RX9) (T := TX9) (N := 12) hx hb hg inX9 hown hK hP 6 xgTape rfl 6 (by decide) (hg _ w259) (fun _ h9 => h9) rfl dX9_cut_5 ?_
  refine va_bald (D := D) (i := (V 6 6)) hx hb hK hP 7 0 rfl rfl (i_in (a := ((V 6 6)).toInt) rfl (by first | exact om_22b8d629e40e rp1 r1.2 r2.1 | first | omega | ((try (have i_rp4 := Imp.go rp4 (by omega))); omega))) dX9_cut_8 ?_
  have eg : Int32.toNatClampNeg (V 6 6) = gs := by have q9 := i_clamp (x := V 6 6) rfl (by (first | exact om_eafa9039069c r2.1 | omega)); (first | exact om_c4e1e142d663 rp3 q9 | omega)
  have hx9 : 0 ≤ (V 10 (Int32.toNatClampNeg (V 6 6))).toInt ∧ (V 10 (Int32.toNatClampNeg (V 6 6))).toInt ≤ 126 := by rw [eg]; exact rp4.elim (fun q => by omega) (fun q => by omega)
  refine lv_istore_n (lv' := [(1, .int (V 10 (Int32.toNatClampNeg (V 6 6)))), (0, .ref (ad 6))]) hx hb dX9_cut_9 rfl hl (by decide) rfl (fun ls hl => ?_)
  refine lv_aload_n hx hb dX9_cut_10 rfl (lv_at hl 1 rfl) ?_
  refine va_get (D := D) (ci := 9) (v := .ref (ad 10)) (fs := (xfTape ad V L Z)) (C := RX9) (T := TX9) (N := 12) hx hb hg inX9 hown hK hP 6 xgTape rfl 3 (by decide) (hg _ w255) (fun _ h9 => h9) rfl dX9_cut_11 ?_
  refine lv_aload_n hx hb dX9_cut_14 rfl (lv_at hl 1 rfl) ?_
  refine va_get (D := D) (ci := 9) (v := .int (V 6 7)) (fs := (xfTape ad V L Z)) (C := RX9) (T := TX9) (N := 12) hx hb hg inX9 hown hK hP 6 xgTape rfl 7 (by decide) (hg _ w260) (fun _ h9 => h9) rfl dX9_cut_15 ?_
  refine lv_aload_n hx hb dX9_cut_18 rfl (lv_at hl 1 rfl) ?_
  refine va_get (D := D) (ci := 9) (v := .int (V 6 6)) (fs := (xfTape ad V L Z)) (C := RX9) (T := TX9) (N := 12) hx hb hg inX9 hown hK hP 6 xgTape rfl 6 (by decide) (hg _ w259) (fun _ h9 => h9) rfl dX9_cut_19 ?_
  refine va_iast (D := D) (i := (V 6 7)) (x := (V 6 6)) hx hb hK hP hD hS 10 3 rfl rfl (i_in (a := ((V 6 7)).toInt) rfl (by first | exact om_1452076f4170 rp2 r3.1 | first | omega | ((try (have i_rp4 := Imp.go rp4 (by omega))); omega))) dX9_cut_22 (fun H locs hP hD hS => ?_)
  obtain ⟨V4, hV4⟩ : ∃ z, z = up2 V 13 (Int32.toNatClampNeg (V 6 7)) (V 6 6) := ⟨_, rfl⟩
  have ew5 : (xw ad kk V L Z).set 10 ((ad 10), .inl ((kk 10), 4001, .inl (upd (V 13) (Int32.toNatClampNeg (V 6 7)) (V 6 6)))) = xw ad kk V4 L Z := by rw [hV4]; exact xw_ss (by decide) rfl (xb_si (by decide))
  have hP : va_P D vwCl (xw ad kk V4 L Z) H := by rw [← ew5]; exact hP
  have hD : va_D A (xw ad kk V4 L Z) := by rw [← ew5]; exact hD
  have hMV4 : rgd bX V4 := hMV.put hV4 (show 0 ≤ ((V 6 6)).toInt ∧ ((V 6 6)).toInt ≤ 4000 from by first | exact om_17779d3d27a1 rp1 r1.2 r2.1 | first | omega | ((try (have i_rp4 := Imp.go rp4 (by omega))); omega))
  have agV4 : agr [(6, 6), (6, 7)] [12, 13, 14] V V4 := agV.up hV4 rfl
  refine lv_aload_n hx hb dX9_cut_23 rfl (lv_at hl 1 rfl) ?_
  refine va_get (D := D) (ci := 9) (v := .ref (ad 11)) (fs := (xfTape ad V4 L Z)) (C := RX9) (T := TX9) (N := 12) hx hb hg inX9 hown hK hP 6 xgTape rfl 4 (by decide) (hg _ w256) (fun _ h9 => h9) rfl dX9_cut_24 ?_
  refine lv_aload_n hx hb dX9_cut_27 rfl (lv_at hl 1 rfl) ?_
  refine va_get (D := D) (ci := 9) (v := .int (V4 6 7)) (fs := (xfTape ad V4 L Z)) (C := RX9) (T := TX9) (N := 12) hx hb hg inX9 hown hK hP 6 xgTape rfl 7 (by decide) (hg _ w260) (fun _ h9 => h9) rfl dX9_cut_28 ?_
  refine g_top (v := (V 6 7)) (up2_o hV4 (by decide)) ?_
  refine lv_lconst (v := 0) hx hb dX9_cut_31 (by decide) ?_
  refine va_last (D := D) (i := (V 6 7)) (x := 0) hx hb hK hP hD hS 11 4 rfl rfl (i_in (a := ((V 6 7)).toInt) rfl (by first | exact om_1452076f4170 rp2 r3.1 | first | omega | ((try (have i_rp4 := Imp.go rp4 (by omega))); omega))) dX9_cut_32 (fun H locs hP hD hS => ?_)
  obtain ⟨L6, hL6⟩ : ∃ z, z = upL L 14 (Int32.toNatClampNeg (V 6 7)) 0 := ⟨_, rfl⟩
  have ew7 : (xw ad kk V4 L Z).set 11 ((ad 11), .inl ((kk 11), 4001, .inr (.inl (vp_updL (L 14) (Int32.toNatClampNeg (V 6 7)) 0)))) = xw ad kk V4 L6 Z := by rw [hL6]; exact xw_ss (by decide) rfl (fun j => xe_L (fun a => absurd a.1 (by decide)))
  have hP : va_P D vwCl (xw ad kk V4 L6 Z) H := by rw [← ew7]; exact hP
  have hD : va_D A (xw ad kk V4 L6 Z) := by rw [← ew7]; exact hD
  have alL6 : agL [14] L L6 := agL.up alL hL6 rfl
  refine lv_iload_n hx hb dX9_cut_33 rfl (lv_at hl 0 rfl) ?_
  refine gE_int (g_runS (As := [.int (V 10 (Int32.toNatClampNeg (V 6 6)))]) (rest := []) (wc := []) (tc := []) hx hb hml hown hg gw_self hP hD hK hS hA hnw hgk [] [] (by decide) rfl rfl (x_isDigit2 l D ks H.size (V 10 (Int32.toNatClampNeg (V 6 6))) ) w249 w250 w157 w251 hdS_yX9_isDigit ⟨Nat.le_of_ble_eq_true rfl, Nat.le_of_ble_eq_true rfl⟩ rfl hl.1 rfl (Nat.le_of_ble_eq_true rfl) dX9_cut_34 ⟨Nat.le_of_ble_eq_true rfl, Nat.le_of_ble_eq_true rfl⟩) hP hD hK hS hA (fun z8 u9 H locs w10 hP hD hK hS => ?_)
  obtain ⟨rgz8, t11, t12⟩ := w10
  have rgz8 : 0 ≤ z8.toInt ∧ z8.toInt ≤ 1 := rgz8
  have t11 : Imp (z8.toInt = 1) (48 ≤ ((V 10 (Int32.toNatClampNeg (V 6 6)))).toInt ∧ ((V 10 (Int32.toNatClampNeg (V 6 6)))).toInt ≤ 57) := t11
  have t12 : Imp (z8.toInt = 0) (((V 10 (Int32.toNatClampNeg (V 6 6)))).toInt < 48 ∨ 57 < ((V 10 (Int32.toNatClampNeg (V 6 6)))).toInt) := t12
  refine lv_if_eq (tgt := 47) hx hb dX9_cut_37 (by decide) (fun c13 => ?_) (fun c13 => ?_)
  · skip
    have f14 : z8.toInt = 0 := b_eq rfl (by decide) c13
    refine lv_iload_n hx hb dX9_cut_47 rfl (lv_at hl 0 rfl) ?_
    refine gE_int (g_runS (As := [.int (V 10 (Int32.toNatClampNeg (V 6 6)))]) (rest := []) (wc := []) (tc := []) hx hb hml hown hg gw_self hP hD hK hS hA hnw hgk [] [] (by decide) rfl rfl (x_isLetter2 l D ks H.size (V 10 (Int32.toNatClampNeg (V 6 6))) ) w780 w781 w157 w782 hdS_yX9_isLetter ⟨Nat.le_of_ble_eq_true rfl, Nat.le_of_ble_eq_true rfl⟩ rfl hl.1 rfl (Nat.le_of_ble_eq_true rfl) dX9_cut_48 ⟨Nat.le_of_ble_eq_true rfl, Nat.le_of_ble_eq_true rfl⟩) hP hD hK hS hA (fun z15 u16 H locs w17 hP hD hK hS => ?_)
    obtain ⟨rgz15, t18, t19⟩ := w17
    have rgz15 : 0 ≤ z15.toInt ∧ z15.toInt ≤ 1 := rgz15
    have t18 : Imp (z15.toInt = 1) (97 ≤ ((V 10 (Int32.toNatClampNeg (V 6 6)))).toInt ∧ ((V 10 (Int32.toNatClampNeg (V 6 6)))).toInt ≤ 122) := t18
    have t19 : Imp (z15.toInt = 0) (((V 10 (Int32.toNatClampNeg (V 6 6)))).toInt < 97 ∨ 122 < ((V 10 (Int32.toNatClampNeg (V 6 6)))).toInt) := t19
    refine lv_if_eq (tgt := 61) hx hb dX9_cut_51 (by decide) (fun c20 => ?_) (fun c20 => ?_)
    · skip
      have f21 : z15.toInt = 0 := b_eq rfl (by decide) c20
      refine lv_aload_n hx hb dX9_cut_61 rfl (lv_at hl 1 rfl) ?_
      refine va_get (D := D) (ci := 9) (v := .ref (ad 9)) (fs := (xfTape ad V4 L6 Z)) (C := RX9) (T := TX9) (N := 12) hx hb hg inX9 hown hK hP 6 xgTape rfl 2 (by decide) (hg _ w254) (fun _ h9 => h9) rfl dX9_cut_62 ?_
      refine lv_aload_n hx hb dX9_cut_65 rfl (lv_at hl 1 rfl) ?_
      refine va_get (D := D) (ci := 9) (v := .int (V4 6 7)) (fs := (xfTape ad V4 L6 Z)) (C := RX9) (T := TX9) (N := 12) hx hb hg inX9 hown hK hP 6 xgTape rfl 7 (by decide) (hg _ w260) (fun _ h9 => h9) rfl dX9_cut_66 ?_
      refine g_top (v := (V 6 7)) (up2_o hV4 (by decide)) ?_
      refine va_ldcS hx hb hown hgk.2.2.2.2.2.2 dX9_cut_69 ?_
      refine lv_iload_n hx hb dX9_cut_71 rfl (lv_at hl 0 rfl) ?_
      refine lv_i2c hx hb dX9_cut_72 rfl ?_
      refine lv_topi (fun z22 ez22 => ?_)
      have hz9 : z22 = V 10 (Int32.toNatClampNeg (V 6 6)) := ez22.trans (tp_c hx9)
      refine gE_int (g_runW (As := [.int z22]) (rest := [.int (V 6 7), .ref (ad 9)]) (wc := []) (tc := []) (C := RJ0) hx hb hml hown hg gw_self hP hD hK hS hA hnw hgk [] [] (by decide) rfl rfl (c_sg_index2 l D ks H.size z22 (by rw [hz9]; exact hx9)) w792 w793 w794 w158 w795 (vk_recv (i := 0) hgk.2.2.2.2.2.1 (by decide) hS) hdV_yJ0_indexOf_0f7a4 ⟨Nat.le_of_ble_eq_true rfl, Nat.le_of_ble_eq_true rfl⟩ rfl hl.1 rfl (Nat.le_of_ble_eq_true rfl) dX9_cut_73 ⟨Nat.le_of_ble_eq_true rfl, Nat.le_of_ble_eq_true rfl⟩) hP hD hK hS hA (fun z23 u24 H locs w25 hP hD hK hS => ?_)
      have hsg : SGX (V 10 (Int32.toNatClampNeg (V 6 6))) z23 := by rw [← hz9]; exact w25
      refine lv_if_lt (tgt := 83) hx hb dX9_cut_76 (by decide) (fun c26 => ?_) (fun c26 => ?_)
      · skip
        have f27 : z23.toInt < 0 := b_lt rfl (by decide) c26
        refine lv_iconst (v := 1) hx hb dX9_cut_83 (by decide) ?_
        refine va_iast (D := D) (i := (V 6 7)) (x := 1) hx hb hK hP hD hS 9 2 rfl rfl (i_in (a := ((V 6 7)).toInt) rfl (by first | exact om_1452076f4170 rp2 r3.1 | first | omega | ((try (have i_t19 := Imp.go t19 (f21))); (try (have i_t12 := Imp.go t12 (f14))); omega) | ((try (have i_t19 := Imp.go t19 (by omega))); (try (have i_t18 := Imp.go t18 (by omega))); (try (have i_t12 := Imp.go t12 (by omega))); (try (have i_t11 := Imp.go t11 (by omega))); first | omega | ((try (have i_rp4 := Imp.go rp4 (by omega))); (try (have i_rp4 := Imp.go rp4 (by omega))); (try (have i_t11 := Imp.go t11 (by omega))); (try (have i_t12 := Imp.go t12 (by omega))); (try (have i_t18 := Imp.go t18 (by omega))); (try (have i_t19 := Imp.go t19 (by omega))); omega)))) dX9_cut_84 (fun H locs hP hD hS => ?_)
        obtain ⟨V28, hV28⟩ : ∃ z, z = up2 V4 12 (Int32.toNatClampNeg (V 6 7)) 1 := ⟨_, rfl⟩
        have ew29 : (xw ad kk V4 L6 Z).set 9 ((ad 9), .inl ((kk 9), 4001, .inl (upd (V4 12) (Int32.toNatClampNeg (V 6 7)) 1))) = xw ad kk V28 L6 Z := by rw [hV28]; exact xw_ss (by decide) rfl (xb_si (by decide))
        have hP : va_P D vwCl (xw ad kk V28 L6 Z) H := by rw [← ew29]; exact hP
        have hD : va_D A (xw ad kk V28 L6 Z) := by rw [← ew29]; exact hD
        have hMV28 : rgd bX V28 := hMV4.put hV28 (i_full _)
        have agV28 : agr [(6, 6), (6, 7)] [12, 13, 14] V V28 := agV4.up hV28 rfl
        refine lv_aload_n hx hb dX9_cut_85 rfl (lv_at hl 1 rfl) ?_
        refine lv_dup hx hb dX9_cut_86 rfl ?_
        refine va_get (D := D) (ci := 9) (v := .int (V28 6 6)) (fs := (xfTape ad V28 L6 Z)) (C := RX9) (T := TX9) (N := 12) hx hb hg inX9 hown hK hP 6 xgTape rfl 6 (by decide) (hg _ w259) (fun _ h9 => h9) rfl dX9_cut_87 ?_
        refine g_top (v := (V 6 6)) ((up2_o hV28 (by decide)).trans (up2_o hV4 (by decide))) ?_
        refine lv_iconst (v := 1) hx hb dX9_cut_90 (by decide) ?_
        refine lv_iadd hx hb dX9_cut_91 ?_
        refine lv_topi (fun z30 ez30 => ?_)
        have hz30 : z30.toInt = ((V 6 6)).toInt + 1 := i_add ez30 rfl (by decide) (by (first | exact om_f4a62807000a rp1 r1.2 r2.1 | omega))
        refine va_put (D := D) (ci := 9) (v := .int z30) (ty := tyX9 6) (fs := (xfTape ad V28 L6 Z)) (C := RX9) (T := TX9) (N := 12) hx hb hg inX9 tyX9 tyX9_ok nmX9 hown hK hP hD hS 6 xgTape rfl 6 (by decide) (hg _ w259) (fun _ h9 => h9) rfl (tyX9_ok 6 (by decide)) rfl rfl (Nat.le_of_ble_eq_true rfl) dX9_cut_92 (fun H locs hP hD hS => ?_)
        obtain ⟨V31, hV31⟩ : ∃ z, z = up2 V28 6 6 z30 := ⟨_, rfl⟩
        have ew32 : (xw ad kk V28 L6 Z).set 6 ((ad 6), .inr (9, (xfTape ad V28 L6 Z).set 6 (.int z30))) = xw ad kk V31 L6 Z := by rw [hV31]; exact xw_ss (by decide) rfl (xb_si (by decide))
        have hP : va_P D vwCl (xw ad kk V31 L6 Z) H := by rw [← ew32]; exact hP
        have hD : va_D A (xw ad kk V31 L6 Z) := by rw [← ew32]; exact hD
        have hMV31 : rgd bX V31 := hMV28.put hV31 (show 0 ≤ z30.toInt ∧ z30.toInt ≤ 4000 from by first | exact om_79968e91715f rp1 r1.2 r2.1 hz30 | first | omega | ((try (have i_t19 := Imp.go t19 (f21))); (try (have i_t12 := Imp.go t12 (f14))); omega) | ((try (have i_t19 := Imp.go t19 (by omega))); (try (have i_t18 := Imp.go t18 (by omega))); (try (have i_t12 := Imp.go t12 (by omega))); (try (have i_t11 := Imp.go t11 (by omega))); first | omega | ((try (have i_rp4 := Imp.go rp4 (by omega))); (try (have i_rp4 := Imp.go rp4 (by omega))); (try (have i_t11 := Imp.go t11 (by omega))); (try (have i_t12 := Imp.go t12 (by omega))); (try (have i_t18 := Imp.go t18 (by omega))); (try (have i_t19 := Imp.go t19 (by omega))); omega)))
        have agV31 : agr [(6, 6), (6, 7)] [12, 13, 14] V V31 := agV28.up hV31 rfl
        refine lv_aload_n hx hb dX9_cut_95 rfl (lv_at hl 1 rfl) ?_
        refine lv_dup hx hb dX9_cut_96 rfl ?_
        refine va_get (D := D) (ci := 9) (v := .int (V31 6 7)) (fs := (xfTape ad V31 L6 Z)) (C := RX9) (T := TX9) (N := 12) hx hb hg inX9 hown hK hP 6 xgTape rfl 7 (by decide) (hg _ w260) (fun _ h9 => h9) rfl dX9_cut_97 ?_
        refine g_top (v := (V 6 7)) ((up2_k hV31 (by decide)).trans ((up2_o hV28 (by decide)).trans (up2_o hV4 (by decide)))) ?_
        refine lv_iconst (v := 1) hx hb dX9_cut_100 (by decide) ?_
        refine lv_iadd hx hb dX9_cut_101 ?_
        refine lv_topi (fun z33 ez33 => ?_)
        have hz33 : z33.toInt = ((V 6 7)).toInt + 1 := i_add ez33 rfl (by decide) (by (first | exact om_8e750d289af3 rp2 r3.1 | omega))
        refine va_put (D := D) (ci := 9) (v := .int z33) (ty := tyX9 7) (fs := (xfTape ad V31 L6 Z)) (C := RX9) (T := TX9) (N := 12) hx hb hg inX9 tyX9 tyX9_ok nmX9 hown hK hP hD hS 6 xgTape rfl 7 (by decide) (hg _ w260) (fun _ h9 => h9) rfl (tyX9_ok 7 (by decide)) rfl rfl (Nat.le_of_ble_eq_true rfl) dX9_cut_102 (fun H locs hP hD hS => ?_)
        obtain ⟨V34, hV34⟩ : ∃ z, z = up2 V31 6 7 z33 := ⟨_, rfl⟩
        have ew35 : (xw ad kk V31 L6 Z).set 6 ((ad 6), .inr (9, (xfTape ad V31 L6 Z).set 7 (.int z33))) = xw ad kk V34 L6 Z := by rw [hV34]; exact xw_ss (by decide) rfl (xb_si (by decide))
        have hP : va_P D vwCl (xw ad kk V34 L6 Z) H := by rw [← ew35]; exact hP
        have hD : va_D A (xw ad kk V34 L6 Z) := by rw [← ew35]; exact hD
        have hMV34 : rgd bX V34 := hMV31.put hV34 (show 0 ≤ z33.toInt ∧ z33.toInt ≤ 4000 from by first | exact om_71db763616c9 rp2 r3.1 hz33 | first | omega | ((try (have i_t19 := Imp.go t19 (f21))); (try (have i_t12 := Imp.go t12 (f14))); omega) | ((try (have i_t19 := Imp.go t19 (by omega))); (try (have i_t18 := Imp.go t18 (by omega))); (try (have i_t12 := Imp.go t12 (by omega))); (try (have i_t11 := Imp.go t11 (by omega))); first | omega | ((try (have i_rp4 := Imp.go rp4 (by omega))); (try (have i_rp4 := Imp.go rp4 (by omega))); (try (have i_t11 := Imp.go t11 (by omega))); (try (have i_t12 := Imp.go t12 (by omega))); (try (have i_t18 := Imp.go t18 (by omega))); (try (have i_t19 := Imp.go t19 (by omega))); omega)))
        have agV34 : agr [(6, 6), (6, 7)] [12, 13, 14] V V34 := agV31.up hV34 rfl
        have pq36 : (V34 6 5).toInt = ((V 6 5)).toInt := congrArg Int32.toInt ((up2_k hV34 (by decide)).trans ((up2_k hV31 (by decide)).trans ((up2_o hV28 (by decide)).trans (up2_o hV4 (by decide)))))
        have pq37 : (V34 6 6).toInt = z30.toInt := congrArg Int32.toInt ((up2_k hV34 (by decide)).trans (up2_s hV31))
        have pq38 : (V34 6 7).toInt = z33.toInt := congrArg Int32.toInt (up2_s hV34)
        have rp39 : CUT V V34 L L6 gs (Int32.toNatClampNeg (V 6 7)) := CUT.sg hV4 (by omega) hL6 hV28 (by rw [(up2_fo hV34 (by decide) : V34 12 = V31 12), (up2_fo hV31 (by decide) : V31 12 = V28 12)] : V34 12 = V28 12) (by rw [(up2_fo hV34 (by decide) : V34 13 = V31 13), (up2_fo hV31 (by decide) : V31 13 = V28 13)] : V34 13 = V28 13) (by first | omega | ((try (have i_t19 := Imp.go t19 (f21))); (try (have i_t12 := Imp.go t12 (f14))); omega) | ((try (have i_t19 := Imp.go t19 (by omega))); (try (have i_t18 := Imp.go t18 (by omega))); (try (have i_t12 := Imp.go t12 (by omega))); (try (have i_t11 := Imp.go t11 (by omega))); first | omega | ((try (have i_rp4 := Imp.go rp4 (by omega))); (try (have i_rp4 := Imp.go rp4 (by omega))); (try (have i_t11 := Imp.go t11 (by omega))); (try (have i_t12 := Imp.go t12 (by omega))); (try (have i_t18 := Imp.go t18 (by omega))); (try (have i_t19 := Imp.go t19 (by omega))); omega))) (fun q => by rw [← eg] at q; have q1 := q.1; have q2 := q.2; have z := Imp.go t12 (by omega); omega) (fun q => by rw [← eg] at q; have q1 := q.1; have q2 := q.2; have z := Imp.go t19 (by omega); omega) (by omega) (Or.inr ⟨by rw [← eg]; exact sg_n hsg hx9 (by omega), rfl⟩)
        exact W.vret hx hb hr (fun t ht hW => ⟨⟨(V34, L6), rfl, ⟨hMV34, agV34, alL6, (show (V34 6 6).toInt ≤ (V34 6 5).toInt from by first | exact om_1257dc0753d6 rp1 hz30 pq36 pq37 | first | omega | ((try (have i_t19 := Imp.go t19 (f21))); (try (have i_t12 := Imp.go t12 (f14))); omega) | ((try (have i_t19 := Imp.go t19 (by omega))); (try (have i_t18 := Imp.go t18 (by omega))); (try (have i_t12 := Imp.go t12 (by omega))); (try (have i_t11 := Imp.go t11 (by omega))); first | omega | ((try (have i_rp4 := Imp.go rp4 (by omega))); (try (have i_rp4 := Imp.go rp4 (by omega))); (try (have i_t11 := Imp.go t11 (by omega))); (try (have i_t12 := Imp.go t12 (by omega))); (try (have i_t18 := Imp.go t18 (by omega))); (try (have i_t19 := Imp.go t19 (by omega))); omega))), (show (V34 6 7).toInt = (V 6 7).toInt + 1 from by first | exact om_689eeacb6d53 hz33 pq38 | first | omega | ((try (have i_t19 := Imp.go t19 (f21))); (try (have i_t12 := Imp.go t12 (f14))); omega) | ((try (have i_t19 := Imp.go t19 (by omega))); (try (have i_t18 := Imp.go t18 (by omega))); (try (have i_t12 := Imp.go t12 (by omega))); (try (have i_t11 := Imp.go t11 (by omega))); first | omega | ((try (have i_rp4 := Imp.go rp4 (by omega))); (try (have i_rp4 := Imp.go rp4 (by omega))); (try (have i_t11 := Imp.go t11 (by omega))); (try (have i_t12 := Imp.go t12 (by omega))); (try (have i_t18 := Imp.go t18 (by omega))); (try (have i_t19 := Imp.go t19 (by omega))); omega))), rp39, (show (V 6 6).toInt + 1 ≤ (V34 6 6).toInt from by first | exact om_1f8d46bc165b hz30 pq37 | first | omega | ((try (have i_t19 := Imp.go t19 (f21))); (try (have i_t12 := Imp.go t12 (f14))); omega) | ((try (have i_t19 := Imp.go t19 (by omega))); (try (have i_t18 := Imp.go t18 (by omega))); (try (have i_t12 := Imp.go t12 (by omega))); (try (have i_t11 := Imp.go t11 (by omega))); first | omega | ((try (have i_rp4 := Imp.go rp4 (by omega))); (try (have i_rp4 := Imp.go rp4 (by omega))); (try (have i_t11 := Imp.go t11 (by omega))); (try (have i_t12 := Imp.go t12 (by omega))); (try (have i_t18 := Imp.go t18 (by omega))); (try (have i_t19 := Imp.go t19 (by omega))); omega)))⟩, by rw [ht]; exact hP, va_K.moved hW.alike hK, hD⟩, hS.F ht⟩) hS.2.2 dX9_cut_105
      · skip
        have f40 : 0 ≤ z23.toInt := b_nlt rfl (by decide) c26
        refine lv_iload_n hx hb dX9_cut_79 rfl (lv_at hl 0 rfl) ?_
        refine lv_goto (tgt := 84) hx hb dX9_cut_80 (by decide) ?_
        refine va_iast (D := D) (i := (V 6 7)) (x := (V 10 (Int32.toNatClampNeg (V 6 6)))) hx hb hK hP hD hS 9 2 rfl rfl (i_in (a := ((V 6 7)).toInt) rfl (by first | exact om_1452076f4170 rp2 r3.1 | first | omega | ((try (have i_t19 := Imp.go t19 (f21))); (try (have i_t12 := Imp.go t12 (f14))); omega) | ((try (have i_t19 := Imp.go t19 (by omega))); (try (have i_t18 := Imp.go t18 (by omega))); (try (have i_t12 := Imp.go t12 (by omega))); (try (have i_t11 := Imp.go t11 (by omega))); first | omega | ((try (have i_rp4 := Imp.go rp4 (by omega))); (try (have i_rp4 := Imp.go rp4 (by omega))); (try (have i_t11 := Imp.go t11 (by omega))); (try (have i_t12 := Imp.go t12 (by omega))); (try (have i_t18 := Imp.go t18 (by omega))); (try (have i_t19 := Imp.go t19 (by omega))); omega)))) dX9_cut_84 (fun H locs hP hD hS => ?_)
        obtain ⟨V41, hV41⟩ : ∃ z, z = up2 V4 12 (Int32.toNatClampNeg (V 6 7)) (V 10 (Int32.toNatClampNeg (V 6 6))) := ⟨_, rfl⟩
        have ew42 : (xw ad kk V4 L6 Z).set 9 ((ad 9), .inl ((kk 9), 4001, .inl (upd (V4 12) (Int32.toNatClampNeg (V 6 7)) (V 10 (Int32.toNatClampNeg (V 6 6)))))) = xw ad kk V41 L6 Z := by rw [hV41]; exact xw_ss (by decide) rfl (xb_si (by decide))
        have hP : va_P D vwCl (xw ad kk V41 L6 Z) H := by rw [← ew42]; exact hP
        have hD : va_D A (xw ad kk V41 L6 Z) := by rw [← ew42]; exact hD
        have hMV41 : rgd bX V41 := hMV4.put hV41 (i_full _)
        have agV41 : agr [(6, 6), (6, 7)] [12, 13, 14] V V41 := agV4.up hV41 rfl
        refine lv_aload_n hx hb dX9_cut_85 rfl (lv_at hl 1 rfl) ?_
        refine lv_dup hx hb dX9_cut_86 rfl ?_
        refine va_get (D := D) (ci := 9) (v := .int (V41 6 6)) (fs := (xfTape ad V41 L6 Z)) (C := RX9) (T := TX9) (N := 12) hx hb hg inX9 hown hK hP 6 xgTape rfl 6 (by decide) (hg _ w259) (fun _ h9 => h9) rfl dX9_cut_87 ?_
        refine g_top (v := (V 6 6)) ((up2_o hV41 (by decide)).trans (up2_o hV4 (by decide))) ?_
        refine lv_iconst (v := 1) hx hb dX9_cut_90 (by decide) ?_
        refine lv_iadd hx hb dX9_cut_91 ?_
        refine lv_topi (fun z43 ez43 => ?_)
        have hz43 : z43.toInt = ((V 6 6)).toInt + 1 := i_add ez43 rfl (by decide) (by (first | exact om_f4a62807000a rp1 r1.2 r2.1 | omega))
        refine va_put (D := D) (ci := 9) (v := .int z43) (ty := tyX9 6) (fs := (xfTape ad V41 L6 Z)) (C := RX9) (T := TX9) (N := 12) hx hb hg inX9 tyX9 tyX9_ok nmX9 hown hK hP hD hS 6 xgTape rfl 6 (by decide) (hg _ w259) (fun _ h9 => h9) rfl (tyX9_ok 6 (by decide)) rfl rfl (Nat.le_of_ble_eq_true rfl) dX9_cut_92 (fun H locs hP hD hS => ?_)
        obtain ⟨V44, hV44⟩ : ∃ z, z = up2 V41 6 6 z43 := ⟨_, rfl⟩
        have ew45 : (xw ad kk V41 L6 Z).set 6 ((ad 6), .inr (9, (xfTape ad V41 L6 Z).set 6 (.int z43))) = xw ad kk V44 L6 Z := by rw [hV44]; exact xw_ss (by decide) rfl (xb_si (by decide))
        have hP : va_P D vwCl (xw ad kk V44 L6 Z) H := by rw [← ew45]; exact hP
        have hD : va_D A (xw ad kk V44 L6 Z) := by rw [← ew45]; exact hD
        have hMV44 : rgd bX V44 := hMV41.put hV44 (show 0 ≤ z43.toInt ∧ z43.toInt ≤ 4000 from by first | exact om_79968e91715f rp1 r1.2 r2.1 hz43 | first | omega | ((try (have i_t19 := Imp.go t19 (f21))); (try (have i_t12 := Imp.go t12 (f14))); omega) | ((try (have i_t19 := Imp.go t19 (by omega))); (try (have i_t18 := Imp.go t18 (by omega))); (try (have i_t12 := Imp.go t12 (by omega))); (try (have i_t11 := Imp.go t11 (by omega))); first | omega | ((try (have i_rp4 := Imp.go rp4 (by omega))); (try (have i_rp4 := Imp.go rp4 (by omega))); (try (have i_t11 := Imp.go t11 (by omega))); (try (have i_t12 := Imp.go t12 (by omega))); (try (have i_t18 := Imp.go t18 (by omega))); (try (have i_t19 := Imp.go t19 (by omega))); omega)))
        have agV44 : agr [(6, 6), (6, 7)] [12, 13, 14] V V44 := agV41.up hV44 rfl
        refine lv_aload_n hx hb dX9_cut_95 rfl (lv_at hl 1 rfl) ?_
        refine lv_dup hx hb dX9_cut_96 rfl ?_
        refine va_get (D := D) (ci := 9) (v := .int (V44 6 7)) (fs := (xfTape ad V44 L6 Z)) (C := RX9) (T := TX9) (N := 12) hx hb hg inX9 hown hK hP 6 xgTape rfl 7 (by decide) (hg _ w260) (fun _ h9 => h9) rfl dX9_cut_97 ?_
        refine g_top (v := (V 6 7)) ((up2_k hV44 (by decide)).trans ((up2_o hV41 (by decide)).trans (up2_o hV4 (by decide)))) ?_
        refine lv_iconst (v := 1) hx hb dX9_cut_100 (by decide) ?_
        refine lv_iadd hx hb dX9_cut_101 ?_
        refine lv_topi (fun z46 ez46 => ?_)
        have hz46 : z46.toInt = ((V 6 7)).toInt + 1 := i_add ez46 rfl (by decide) (by (first | exact om_8e750d289af3 rp2 r3.1 | omega))
        refine va_put (D := D) (ci := 9) (v := .int z46) (ty := tyX9 7) (fs := (xfTape ad V44 L6 Z)) (C := RX9) (T := TX9) (N := 12) hx hb hg inX9 tyX9 tyX9_ok nmX9 hown hK hP hD hS 6 xgTape rfl 7 (by decide) (hg _ w260) (fun _ h9 => h9) rfl (tyX9_ok 7 (by decide)) rfl rfl (Nat.le_of_ble_eq_true rfl) dX9_cut_102 (fun H locs hP hD hS => ?_)
        obtain ⟨V47, hV47⟩ : ∃ z, z = up2 V44 6 7 z46 := ⟨_, rfl⟩
        have ew48 : (xw ad kk V44 L6 Z).set 6 ((ad 6), .inr (9, (xfTape ad V44 L6 Z).set 7 (.int z46))) = xw ad kk V47 L6 Z := by rw [hV47]; exact xw_ss (by decide) rfl (xb_si (by decide))
        have hP : va_P D vwCl (xw ad kk V47 L6 Z) H := by rw [← ew48]; exact hP
        have hD : va_D A (xw ad kk V47 L6 Z) := by rw [← ew48]; exact hD
        have hMV47 : rgd bX V47 := hMV44.put hV47 (show 0 ≤ z46.toInt ∧ z46.toInt ≤ 4000 from by first | exact om_71db763616c9 rp2 r3.1 hz46 | first | omega | ((try (have i_t19 := Imp.go t19 (f21))); (try (have i_t12 := Imp.go t12 (f14))); omega) | ((try (have i_t19 := Imp.go t19 (by omega))); (try (have i_t18 := Imp.go t18 (by omega))); (try (have i_t12 := Imp.go t12 (by omega))); (try (have i_t11 := Imp.go t11 (by omega))); first | omega | ((try (have i_rp4 := Imp.go rp4 (by omega))); (try (have i_rp4 := Imp.go rp4 (by omega))); (try (have i_t11 := Imp.go t11 (by omega))); (try (have i_t12 := Imp.go t12 (by omega))); (try (have i_t18 := Imp.go t18 (by omega))); (try (have i_t19 := Imp.go t19 (by omega))); omega)))
        have agV47 : agr [(6, 6), (6, 7)] [12, 13, 14] V V47 := agV44.up hV47 rfl
        have pq49 : (V47 6 5).toInt = ((V 6 5)).toInt := congrArg Int32.toInt ((up2_k hV47 (by decide)).trans ((up2_k hV44 (by decide)).trans ((up2_o hV41 (by decide)).trans (up2_o hV4 (by decide)))))
        have pq50 : (V47 6 6).toInt = z43.toInt := congrArg Int32.toInt ((up2_k hV47 (by decide)).trans (up2_s hV44))
        have pq51 : (V47 6 7).toInt = z46.toInt := congrArg Int32.toInt (up2_s hV47)
        have rp52 : CUT V V47 L L6 gs (Int32.toNatClampNeg (V 6 7)) := CUT.sg hV4 (by omega) hL6 hV41 (by rw [(up2_fo hV47 (by decide) : V47 12 = V44 12), (up2_fo hV44 (by decide) : V44 12 = V41 12)] : V47 12 = V41 12) (by rw [(up2_fo hV47 (by decide) : V47 13 = V44 13), (up2_fo hV44 (by decide) : V44 13 = V41 13)] : V47 13 = V41 13) (by first | omega | ((try (have i_t19 := Imp.go t19 (f21))); (try (have i_t12 := Imp.go t12 (f14))); omega) | ((try (have i_t19 := Imp.go t19 (by omega))); (try (have i_t18 := Imp.go t18 (by omega))); (try (have i_t12 := Imp.go t12 (by omega))); (try (have i_t11 := Imp.go t11 (by omega))); first | omega | ((try (have i_rp4 := Imp.go rp4 (by omega))); (try (have i_rp4 := Imp.go rp4 (by omega))); (try (have i_t11 := Imp.go t11 (by omega))); (try (have i_t12 := Imp.go t12 (by omega))); (try (have i_t18 := Imp.go t18 (by omega))); (try (have i_t19 := Imp.go t19 (by omega))); omega))) (fun q => by rw [← eg] at q; have q1 := q.1; have q2 := q.2; have z := Imp.go t12 (by omega); omega) (fun q => by rw [← eg] at q; have q1 := q.1; have q2 := q.2; have z := Imp.go t19 (by omega); omega) (by omega) (Or.inl ⟨by rw [← eg]; exact sg_y hsg hx9 (by omega), by rw [eg]⟩)
        exact W.vret hx hb hr (fun t ht hW => ⟨⟨(V47, L6), rfl, ⟨hMV47, agV47, alL6, (show (V47 6 6).toInt ≤ (V47 6 5).toInt from by first | exact om_1257dc0753d6 rp1 hz43 pq49 pq50 | first | omega | ((try (have i_t19 := Imp.go t19 (f21))); (try (have i_t12 := Imp.go t12 (f14))); omega) | ((try (have i_t19 := Imp.go t19 (by omega))); (try (have i_t18 := Imp.go t18 (by omega))); (try (have i_t12 := Imp.go t12 (by omega))); (try (have i_t11 := Imp.go t11 (by omega))); first | omega | ((try (have i_rp4 := Imp.go rp4 (by omega))); (try (have i_rp4 := Imp.go rp4 (by omega))); (try (have i_t11 := Imp.go t11 (by omega))); (try (have i_t12 := Imp.go t12 (by omega))); (try (have i_t18 := Imp.go t18 (by omega))); (try (have i_t19 := Imp.go t19 (by omega))); omega))), (show (V47 6 7).toInt = (V 6 7).toInt + 1 from by first | exact om_689eeacb6d53 hz46 pq51 | first | omega | ((try (have i_t19 := Imp.go t19 (f21))); (try (have i_t12 := Imp.go t12 (f14))); omega) | ((try (have i_t19 := Imp.go t19 (by omega))); (try (have i_t18 := Imp.go t18 (by omega))); (try (have i_t12 := Imp.go t12 (by omega))); (try (have i_t11 := Imp.go t11 (by omega))); first | omega | ((try (have i_rp4 := Imp.go rp4 (by omega))); (try (have i_rp4 := Imp.go rp4 (by omega))); (try (have i_t11 := Imp.go t11 (by omega))); (try (have i_t12 := Imp.go t12 (by omega))); (try (have i_t18 := Imp.go t18 (by omega))); (try (have i_t19 := Imp.go t19 (by omega))); omega))), rp52, (show (V 6 6).toInt + 1 ≤ (V47 6 6).toInt from by first | exact om_1f8d46bc165b hz43 pq50 | first | omega | ((try (have i_t19 := Imp.go t19 (f21))); (try (have i_t12 := Imp.go t12 (f14))); omega) | ((try (have i_t19 := Imp.go t19 (by omega))); (try (have i_t18 := Imp.go t18 (by omega))); (try (have i_t12 := Imp.go t12 (by omega))); (try (have i_t11 := Imp.go t11 (by omega))); first | omega | ((try (have i_rp4 := Imp.go rp4 (by omega))); (try (have i_rp4 := Imp.go rp4 (by omega))); (try (have i_t11 := Imp.go t11 (by omega))); (try (have i_t12 := Imp.go t12 (by omega))); (try (have i_t18 := Imp.go t18 (by omega))); (try (have i_t19 := Imp.go t19 (by omega))); omega)))⟩, by rw [ht]; exact hP, va_K.moved hW.alike hK, hD⟩, hS.F ht⟩) hS.2.2 dX9_cut_105
    · skip
      have f53 : z15.toInt ≠ 0 := b_neq rfl (by decide) c20
      refine lv_aload_n hx hb dX9_cut_54 rfl (lv_at hl 1 rfl) ?_
      have pq54 : (V4 6 5).toInt = ((V 6 5)).toInt := congrArg Int32.toInt (up2_o hV4 (by decide))
      have pq55 : (V4 6 6).toInt = ((V 6 6)).toInt := congrArg Int32.toInt (up2_o hV4 (by decide))
      have pq56 : (V4 6 7).toInt = ((V 6 7)).toInt := congrArg Int32.toInt (up2_o hV4 (by decide))
      refine gA_void (gA_runV (As := []) (rest := []) (ci := 9) (q0 := 6) hx hb hml hown hg hP hD hK hS hA hnw hgk (x_cutWord2 l D ks H.size ad kk V4 L6 Z (gs) hMV4 (show (V4 6 6).toInt < (V4 6 5).toInt from by first | exact om_3c0fce7f0866 rp1 pq54 pq55 | first | omega | ((try (have i_t18 := Imp.go t18 (imp_a (rgz15.1) (rgz15.2) (f53)))); (try (have i_t12 := Imp.go t12 (f14))); omega) | ((try (have i_t19 := Imp.go t19 (by omega))); (try (have i_t18 := Imp.go t18 (by omega))); (try (have i_t12 := Imp.go t12 (by omega))); (try (have i_t11 := Imp.go t11 (by omega))); first | omega | ((try (have i_rp4 := Imp.go rp4 (by omega))); (try (have i_rp4 := Imp.go rp4 (by omega))); (try (have i_t11 := Imp.go t11 (by omega))); (try (have i_t12 := Imp.go t12 (by omega))); (try (have i_t18 := Imp.go t18 (by omega))); (try (have i_t19 := Imp.go t19 (by omega))); omega))) (show (V4 6 7).toInt ≤ 3999 from by first | exact om_cca9797ede8c rp2 pq56 | first | omega | ((try (have i_t18 := Imp.go t18 (imp_a (rgz15.1) (rgz15.2) (f53)))); (try (have i_t12 := Imp.go t12 (f14))); omega) | ((try (have i_t19 := Imp.go t19 (by omega))); (try (have i_t18 := Imp.go t18 (by omega))); (try (have i_t12 := Imp.go t12 (by omega))); (try (have i_t11 := Imp.go t11 (by omega))); first | omega | ((try (have i_rp4 := Imp.go rp4 (by omega))); (try (have i_rp4 := Imp.go rp4 (by omega))); (try (have i_t11 := Imp.go t11 (by omega))); (try (have i_t12 := Imp.go t12 (by omega))); (try (have i_t18 := Imp.go t18 (by omega))); (try (have i_t19 := Imp.go t19 (by omega))); omega))) (show (V4 6 6).toInt = (gs : Int) from by first | exact om_adf531c77a0d rp3 pq55 | first | omega | ((try (have i_t18 := Imp.go t18 (imp_a (rgz15.1) (rgz15.2) (f53)))); (try (have i_t12 := Imp.go t12 (f14))); omega) | ((try (have i_t19 := Imp.go t19 (by omega))); (try (have i_t18 := Imp.go t18 (by omega))); (try (have i_t12 := Imp.go t12 (by omega))); (try (have i_t11 := Imp.go t11 (by omega))); first | omega | ((try (have i_rp4 := Imp.go rp4 (by omega))); (try (have i_rp4 := Imp.go rp4 (by omega))); (try (have i_t11 := Imp.go t11 (by omega))); (try (have i_t12 := Imp.go t12 (by omega))); (try (have i_t18 := Imp.go t18 (by omega))); (try (have i_t19 := Imp.go t19 (by omega))); omega))) (by rw [(up2_fo hV4 (by decide) : V4 10 = V 10), ← eg]; exact Imp.go t18 (by omega))) w783 w785 w2 w157 w786 rfl xgTape hdV_yX9_cutWord ⟨Nat.le_of_ble_eq_true rfl, Nat.le_of_ble_eq_true rfl⟩ rfl hl.1 rfl (Nat.le_of_ble_eq_true rfl) dX9_cut_55 ⟨Nat.le_of_ble_eq_true rfl, Nat.le_of_ble_eq_true rfl⟩) hP hD hK hS hA (fun u58 H locs w59 hP hD hK hS => ?_)
      obtain ⟨V62, L63⟩ := u58
      obtain ⟨hMV62, ajV62, axL63, t60, t61⟩ := w59
      have alL63 : agL [14] L L63 := agL.tr alL6 axL63 (by decide)
      have hP : va_P D vwCl (xw ad kk V62 L63 Z) H := hP
      have hD : va_D A (xw ad kk V62 L63 Z) := hD
      have hMV62 : rgd bX V62 := hMV62
      have ajV62 : agr [(6, 6)] [12, 14] V4 V62 := ajV62
      have agV62 : agr [(6, 6), (6, 7)] [12, 13, 14] V V62 := agV4.tr ajV62 (by decide) (by decide)
      have t60 : ∃ e : Nat, RUN isLD (V4 10) (V4 6 5).toInt.toNat gs e ∧ (V62 6 6).toInt = (e : Int) ∧ (12 < e - gs → (V62 12 (Int32.toNatClampNeg (V4 6 7))).toInt = 1) ∧ (e - gs ≤ 12 → KW L6 (wv (V4 10) gs (e - gs)) (V62 12 (Int32.toNatClampNeg (V4 6 7))).toInt ∧ L63 14 (Int32.toNatClampNeg (V4 6 7)) = wv (V4 10) gs (e - gs)) := t60
      have t61 : ∀ k : Nat, k ≠ (Int32.toNatClampNeg (V4 6 7)) → V62 12 k = V4 12 k ∧ L63 14 k = L6 14 k := t61
      obtain ⟨ge, hr0, hp5, hk1, hk2⟩ := t60
      have f10 : V4 10 = V 10 := up2_fo hV4 (by decide)
      have f6 : V4 6 = V 6 := up2_fo hV4 (by decide)
      rw [f10, f6] at hr0
      rw [f6] at hk1
      rw [f10, f6] at hk2
      have hle := hr0.2.1
      have hgt := hr0.1
      have hge : (ge : Int) ≤ (V 6 5).toInt := by omega
      refine lv_goto (tgt := 95) hx hb dX9_cut_58 (by decide) ?_
      refine lv_aload_n hx hb dX9_cut_95 rfl (lv_at hl 1 rfl) ?_
      refine lv_dup hx hb dX9_cut_96 rfl ?_
      refine va_get (D := D) (ci := 9) (v := .int (V62 6 7)) (fs := (xfTape ad V62 L63 Z)) (C := RX9) (T := TX9) (N := 12) hx hb hg inX9 hown hK hP 6 xgTape rfl 7 (by decide) (hg _ w260) (fun _ h9 => h9) rfl dX9_cut_97 ?_
      refine g_top (v := (V 6 7)) ((ajV62 6 7 rfl).trans (up2_o hV4 (by decide))) ?_
      refine lv_iconst (v := 1) hx hb dX9_cut_100 (by decide) ?_
      refine lv_iadd hx hb dX9_cut_101 ?_
      refine lv_topi (fun z64 ez64 => ?_)
      have hz64 : z64.toInt = ((V 6 7)).toInt + 1 := i_add ez64 rfl (by decide) (by (first | exact om_8e750d289af3 rp2 r3.1 | omega))
      refine va_put (D := D) (ci := 9) (v := .int z64) (ty := tyX9 7) (fs := (xfTape ad V62 L63 Z)) (C := RX9) (T := TX9) (N := 12) hx hb hg inX9 tyX9 tyX9_ok nmX9 hown hK hP hD hS 6 xgTape rfl 7 (by decide) (hg _ w260) (fun _ h9 => h9) rfl (tyX9_ok 7 (by decide)) rfl rfl (Nat.le_of_ble_eq_true rfl) dX9_cut_102 (fun H locs hP hD hS => ?_)
      obtain ⟨V65, hV65⟩ : ∃ z, z = up2 V62 6 7 z64 := ⟨_, rfl⟩
      have ew66 : (xw ad kk V62 L63 Z).set 6 ((ad 6), .inr (9, (xfTape ad V62 L63 Z).set 7 (.int z64))) = xw ad kk V65 L63 Z := by rw [hV65]; exact xw_ss (by decide) rfl (xb_si (by decide))
      have hP : va_P D vwCl (xw ad kk V65 L63 Z) H := by rw [← ew66]; exact hP
      have hD : va_D A (xw ad kk V65 L63 Z) := by rw [← ew66]; exact hD
      have hMV65 : rgd bX V65 := hMV62.put hV65 (show 0 ≤ z64.toInt ∧ z64.toInt ≤ 4000 from by first | exact om_71db763616c9 rp2 r3.1 hz64 | first | omega | ((try (have i_t18 := Imp.go t18 (imp_a (rgz15.1) (rgz15.2) (f53)))); (try (have i_t12 := Imp.go t12 (f14))); omega) | ((try (have i_t19 := Imp.go t19 (by omega))); (try (have i_t18 := Imp.go t18 (by omega))); (try (have i_t12 := Imp.go t12 (by omega))); (try (have i_t11 := Imp.go t11 (by omega))); first | omega | ((try (have i_rp4 := Imp.go rp4 (by omega))); (try (have i_rp4 := Imp.go rp4 (by omega))); (try (have i_t11 := Imp.go t11 (by omega))); (try (have i_t12 := Imp.go t12 (by omega))); (try (have i_t18 := Imp.go t18 (by omega))); (try (have i_t19 := Imp.go t19 (by omega))); omega)))
      have agV65 : agr [(6, 6), (6, 7)] [12, 13, 14] V V65 := agV62.up hV65 rfl
      have pq67 : (V65 6 5).toInt = ((V 6 5)).toInt := congrArg Int32.toInt ((up2_k hV65 (by decide)).trans ((ajV62 6 5 rfl).trans (up2_o hV4 (by decide))))
      have pq68 : (V65 6 6).toInt = ((V62 6 6)).toInt := congrArg Int32.toInt (up2_k hV65 (by decide))
      have r69 : 0 ≤ ((V62 6 6)).toInt ∧ ((V62 6 6)).toInt ≤ 4000 := hMV62 6 6
      have pq70 : (V65 6 7).toInt = z64.toInt := congrArg Int32.toInt (up2_s hV65)
      have hd9 : isLt (V 10 gs) := (by rw [← eg]; exact Imp.go t18 (by omega))
      have hot : ∀ k, k ≠ (Int32.toNatClampNeg (V 6 7)) → V62 12 k = V4 12 k ∧ L63 14 k = L6 14 k := fun k hk => t61 k (by rw [f6]; exact hk)
      have rp71 : CUT V V65 L L63 gs (Int32.toNatClampNeg (V 6 7)) := CUT.mk1 hV4 (by omega) hL6 (by rw [(funext (fun q => ajV62 13 q rfl) : V62 13 = V4 13)] : V62 13 = V4 13) (by rw [(up2_fo hV65 (by decide) : V65 12 = V62 12)] : V65 12 = V62 12) (by rw [(up2_fo hV65 (by decide) : V65 13 = V62 13)] : V65 13 = V62 13) (by first | omega | ((try (have i_t18 := Imp.go t18 (imp_a (rgz15.1) (rgz15.2) (f53)))); (try (have i_t12 := Imp.go t12 (f14))); omega) | ((try (have i_t19 := Imp.go t19 (by omega))); (try (have i_t18 := Imp.go t18 (by omega))); (try (have i_t12 := Imp.go t12 (by omega))); (try (have i_t11 := Imp.go t11 (by omega))); first | omega | ((try (have i_rp4 := Imp.go rp4 (by omega))); (try (have i_rp4 := Imp.go rp4 (by omega))); (try (have i_t11 := Imp.go t11 (by omega))); (try (have i_t12 := Imp.go t12 (by omega))); (try (have i_t18 := Imp.go t18 (by omega))); (try (have i_t19 := Imp.go t19 (by omega))); omega))) (Or.inr (Or.inl ⟨hd9, hr0⟩)) ⟨fun q => absurd hd9 (fun z => dg_lt q z), fun _ => ⟨hk1, fun q => ⟨(hk2 q).1.ex (upL_14 hL6).1.symm, (hk2 q).2⟩⟩, fun _ q => absurd hd9 q⟩ hot
      exact W.vret hx hb hr (fun t ht hW => ⟨⟨(V65, L63), rfl, ⟨hMV65, agV65, alL63, (show (V65 6 6).toInt ≤ (V65 6 5).toInt from by first | omega | ((try (have i_t18 := Imp.go t18 (imp_a (rgz15.1) (rgz15.2) (f53)))); (try (have i_t12 := Imp.go t12 (f14))); omega) | ((try (have i_t19 := Imp.go t19 (by omega))); (try (have i_t18 := Imp.go t18 (by omega))); (try (have i_t12 := Imp.go t12 (by omega))); (try (have i_t11 := Imp.go t11 (by omega))); first | omega | ((try (have i_rp4 := Imp.go rp4 (by omega))); (try (have i_rp4 := Imp.go rp4 (by omega))); (try (have i_t11 := Imp.go t11 (by omega))); (try (have i_t12 := Imp.go t12 (by omega))); (try (have i_t18 := Imp.go t18 (by omega))); (try (have i_t19 := Imp.go t19 (by omega))); omega))), (show (V65 6 7).toInt = (V 6 7).toInt + 1 from by first | exact om_689eeacb6d53 hz64 pq70 | first | omega | ((try (have i_t18 := Imp.go t18 (imp_a (rgz15.1) (rgz15.2) (f53)))); (try (have i_t12 := Imp.go t12 (f14))); omega) | ((try (have i_t19 := Imp.go t19 (by omega))); (try (have i_t18 := Imp.go t18 (by omega))); (try (have i_t12 := Imp.go t12 (by omega))); (try (have i_t11 := Imp.go t11 (by omega))); first | omega | ((try (have i_rp4 := Imp.go rp4 (by omega))); (try (have i_rp4 := Imp.go rp4 (by omega))); (try (have i_t11 := Imp.go t11 (by omega))); (try (have i_t12 := Imp.go t12 (by omega))); (try (have i_t18 := Imp.go t18 (by omega))); (try (have i_t19 := Imp.go t19 (by omega))); omega))), rp71, (show (V 6 6).toInt + 1 ≤ (V65 6 6).toInt from by first | omega | ((try (have i_t18 := Imp.go t18 (imp_a (rgz15.1) (rgz15.2) (f53)))); (try (have i_t12 := Imp.go t12 (f14))); omega) | ((try (have i_t19 := Imp.go t19 (by omega))); (try (have i_t18 := Imp.go t18 (by omega))); (try (have i_t12 := Imp.go t12 (by omega))); (try (have i_t11 := Imp.go t11 (by omega))); first | omega | ((try (have i_rp4 := Imp.go rp4 (by omega))); (try (have i_rp4 := Imp.go rp4 (by omega))); (try (have i_t11 := Imp.go t11 (by omega))); (try (have i_t12 := Imp.go t12 (by omega))); (try (have i_t18 := Imp.go t18 (by omega))); (try (have i_t19 := Imp.go t19 (by omega))); omega)))⟩, by rw [ht]; exact hP, va_K.moved hW.alike hK, hD⟩, hS.F ht⟩) hS.2.2 dX9_cut_105
  · skip
    have f72 : z8.toInt ≠ 0 := b_neq rfl (by decide) c13
    refine lv_aload_n hx hb dX9_cut_40 rfl (lv_at hl 1 rfl) ?_
    have pq73 : (V4 6 5).toInt = ((V 6 5)).toInt := congrArg Int32.toInt (up2_o hV4 (by decide))
    have pq74 : (V4 6 6).toInt = ((V 6 6)).toInt := congrArg Int32.toInt (up2_o hV4 (by decide))
    have pq75 : (V4 6 7).toInt = ((V 6 7)).toInt := congrArg Int32.toInt (up2_o hV4 (by decide))
    refine gA_void (gA_runV (As := []) (rest := []) (ci := 9) (q0 := 6) hx hb hml hown hg hP hD hK hS hA hnw hgk (x_cutNumber2 l D ks H.size ad kk V4 L6 Z (gs) hMV4 (show (V4 6 6).toInt < (V4 6 5).toInt from by first | exact om_3c0fce7f0866 rp1 pq73 pq74 | first | omega | ((try (have i_t12 := Imp.go t12 (by omega))); (try (have i_t11 := Imp.go t11 (by omega))); (try (have i_rp4 := Imp.go rp4 (by omega))); (try (have i_rp4 := Imp.go rp4 (by omega))); (try (have i_t11 := Imp.go t11 (by omega))); (try (have i_t12 := Imp.go t12 (by omega))); omega)) (show (V4 6 7).toInt ≤ 3999 from by first | exact om_cca9797ede8c rp2 pq75 | first | omega | ((try (have i_t12 := Imp.go t12 (by omega))); (try (have i_t11 := Imp.go t11 (by omega))); (try (have i_rp4 := Imp.go rp4 (by omega))); (try (have i_rp4 := Imp.go rp4 (by omega))); (try (have i_t11 := Imp.go t11 (by omega))); (try (have i_t12 := Imp.go t12 (by omega))); omega)) (show (V4 6 6).toInt = (gs : Int) from by first | exact om_adf531c77a0d rp3 pq74 | first | omega | ((try (have i_t12 := Imp.go t12 (by omega))); (try (have i_t11 := Imp.go t11 (by omega))); (try (have i_rp4 := Imp.go rp4 (by omega))); (try (have i_rp4 := Imp.go rp4 (by omega))); (try (have i_t11 := Imp.go t11 (by omega))); (try (have i_t12 := Imp.go t12 (by omega))); omega)) (by rw [(up2_fo hV4 (by decide) : V4 10 = V 10), ← eg]; exact Imp.go t11 (by omega))) w774 w776 w1 w157 w777 rfl xgTape hdV_yX9_cutNumber ⟨Nat.le_of_ble_eq_true rfl, Nat.le_of_ble_eq_true rfl⟩ rfl hl.1 rfl (Nat.le_of_ble_eq_true rfl) dX9_cut_41 ⟨Nat.le_of_ble_eq_true rfl, Nat.le_of_ble_eq_true rfl⟩) hP hD hK hS hA (fun u77 H locs w78 hP hD hK hS => ?_)
    obtain ⟨V81, L82⟩ := u77
    obtain ⟨hMV81, ajV81, axL82, t79, t80⟩ := w78
    have alL82 : agL [14] L L82 := agL.tr alL6 axL82 (by decide)
    have hP : va_P D vwCl (xw ad kk V81 L82 Z) H := hP
    have hD : va_D A (xw ad kk V81 L82 Z) := hD
    have hMV81 : rgd bX V81 := hMV81
    have ajV81 : agr [(6, 6)] [12, 14] V4 V81 := ajV81
    have agV81 : agr [(6, 6), (6, 7)] [12, 13, 14] V V81 := agV4.tr ajV81 (by decide) (by decide)
    have t79 : ∃ e : Nat, RUN isDg (V4 10) (V4 6 5).toInt.toNat gs e ∧ (V81 6 6).toInt = (e : Int) ∧ (9 < e - gs → (V81 12 (Int32.toNatClampNeg (V4 6 7))).toInt = 1) ∧ (e - gs ≤ 9 → (V81 12 (Int32.toNatClampNeg (V4 6 7))).toInt = 2 ∧ L82 14 (Int32.toNatClampNeg (V4 6 7)) = nv (V4 10) gs (e - gs)) := t79
    have t80 : ∀ k : Nat, k ≠ (Int32.toNatClampNeg (V4 6 7)) → V81 12 k = V4 12 k ∧ L82 14 k = L6 14 k := t80
    obtain ⟨ge, hr0, hp5, hk1, hk2⟩ := t79
    have f10 : V4 10 = V 10 := up2_fo hV4 (by decide)
    have f6 : V4 6 = V 6 := up2_fo hV4 (by decide)
    rw [f10, f6] at hr0
    rw [f6] at hk1
    rw [f10, f6] at hk2
    have hle := hr0.2.1
    have hgt := hr0.1
    have hge : (ge : Int) ≤ (V 6 5).toInt := by omega
    refine lv_goto (tgt := 95) hx hb dX9_cut_44 (by decide) ?_
    refine lv_aload_n hx hb dX9_cut_95 rfl (lv_at hl 1 rfl) ?_
    refine lv_dup hx hb dX9_cut_96 rfl ?_
    refine va_get (D := D) (ci := 9) (v := .int (V81 6 7)) (fs := (xfTape ad V81 L82 Z)) (C := RX9) (T := TX9) (N := 12) hx hb hg inX9 hown hK hP 6 xgTape rfl 7 (by decide) (hg _ w260) (fun _ h9 => h9) rfl dX9_cut_97 ?_
    refine g_top (v := (V 6 7)) ((ajV81 6 7 rfl).trans (up2_o hV4 (by decide))) ?_
    refine lv_iconst (v := 1) hx hb dX9_cut_100 (by decide) ?_
    refine lv_iadd hx hb dX9_cut_101 ?_
    refine lv_topi (fun z83 ez83 => ?_)
    have hz83 : z83.toInt = ((V 6 7)).toInt + 1 := i_add ez83 rfl (by decide) (by (first | exact om_8e750d289af3 rp2 r3.1 | omega))
    refine va_put (D := D) (ci := 9) (v := .int z83) (ty := tyX9 7) (fs := (xfTape ad V81 L82 Z)) (C := RX9) (T := TX9) (N := 12) hx hb hg inX9 tyX9 tyX9_ok nmX9 hown hK hP hD hS 6 xgTape rfl 7 (by decide) (hg _ w260) (fun _ h9 => h9) rfl (tyX9_ok 7 (by decide)) rfl rfl (Nat.le_of_ble_eq_true rfl) dX9_cut_102 (fun H locs hP hD hS => ?_)
    obtain ⟨V84, hV84⟩ : ∃ z, z = up2 V81 6 7 z83 := ⟨_, rfl⟩
    have ew85 : (xw ad kk V81 L82 Z).set 6 ((ad 6), .inr (9, (xfTape ad V81 L82 Z).set 7 (.int z83))) = xw ad kk V84 L82 Z := by rw [hV84]; exact xw_ss (by decide) rfl (xb_si (by decide))
    have hP : va_P D vwCl (xw ad kk V84 L82 Z) H := by rw [← ew85]; exact hP
    have hD : va_D A (xw ad kk V84 L82 Z) := by rw [← ew85]; exact hD
    have hMV84 : rgd bX V84 := hMV81.put hV84 (show 0 ≤ z83.toInt ∧ z83.toInt ≤ 4000 from by first | exact om_71db763616c9 rp2 r3.1 hz83 | first | omega | ((try (have i_t12 := Imp.go t12 (by omega))); (try (have i_t11 := Imp.go t11 (by omega))); (try (have i_rp4 := Imp.go rp4 (by omega))); (try (have i_rp4 := Imp.go rp4 (by omega))); (try (have i_t11 := Imp.go t11 (by omega))); (try (have i_t12 := Imp.go t12 (by omega))); omega))
    have agV84 : agr [(6, 6), (6, 7)] [12, 13, 14] V V84 := agV81.up hV84 rfl
    have pq86 : (V84 6 5).toInt = ((V 6 5)).toInt := congrArg Int32.toInt ((up2_k hV84 (by decide)).trans ((ajV81 6 5 rfl).trans (up2_o hV4 (by decide))))
    have pq87 : (V84 6 6).toInt = ((V81 6 6)).toInt := congrArg Int32.toInt (up2_k hV84 (by decide))
    have r88 : 0 ≤ ((V81 6 6)).toInt ∧ ((V81 6 6)).toInt ≤ 4000 := hMV81 6 6
    have pq89 : (V84 6 7).toInt = z83.toInt := congrArg Int32.toInt (up2_s hV84)
    have hd9 : isDg (V 10 gs) := (by rw [← eg]; exact Imp.go t11 (by omega))
    have hot : ∀ k, k ≠ (Int32.toNatClampNeg (V 6 7)) → V81 12 k = V4 12 k ∧ L82 14 k = L6 14 k := fun k hk => t80 k (by rw [f6]; exact hk)
    have rp90 : CUT V V84 L L82 gs (Int32.toNatClampNeg (V 6 7)) := CUT.mk1 hV4 (by omega) hL6 (by rw [(funext (fun q => ajV81 13 q rfl) : V81 13 = V4 13)] : V81 13 = V4 13) (by rw [(up2_fo hV84 (by decide) : V84 12 = V81 12)] : V84 12 = V81 12) (by rw [(up2_fo hV84 (by decide) : V84 13 = V81 13)] : V84 13 = V81 13) (by first | omega | ((try (have i_t12 := Imp.go t12 (by omega))); (try (have i_t11 := Imp.go t11 (by omega))); (try (have i_rp4 := Imp.go rp4 (by omega))); (try (have i_rp4 := Imp.go rp4 (by omega))); (try (have i_t11 := Imp.go t11 (by omega))); (try (have i_t12 := Imp.go t12 (by omega))); omega)) (Or.inl ⟨hd9, hr0⟩) ⟨fun _ => ⟨hk1, hk2⟩, fun q => absurd q (fun q => dg_lt hd9 q), fun q => absurd hd9 q⟩ hot
    exact W.vret hx hb hr (fun t ht hW => ⟨⟨(V84, L82), rfl, ⟨hMV84, agV84, alL82, (show (V84 6 6).toInt ≤ (V84 6 5).toInt from by first | omega | ((try (have i_t12 := Imp.go t12 (by omega))); (try (have i_t11 := Imp.go t11 (by omega))); (try (have i_rp4 := Imp.go rp4 (by omega))); (try (have i_rp4 := Imp.go rp4 (by omega))); (try (have i_t11 := Imp.go t11 (by omega))); (try (have i_t12 := Imp.go t12 (by omega))); omega)), (show (V84 6 7).toInt = (V 6 7).toInt + 1 from by first | exact om_689eeacb6d53 hz83 pq89 | first | omega | ((try (have i_t12 := Imp.go t12 (by omega))); (try (have i_t11 := Imp.go t11 (by omega))); (try (have i_rp4 := Imp.go rp4 (by omega))); (try (have i_rp4 := Imp.go rp4 (by omega))); (try (have i_t11 := Imp.go t11 (by omega))); (try (have i_t12 := Imp.go t12 (by omega))); omega)), rp90, (show (V 6 6).toInt + 1 ≤ (V84 6 6).toInt from by first | omega | ((try (have i_t12 := Imp.go t12 (by omega))); (try (have i_t11 := Imp.go t11 (by omega))); (try (have i_rp4 := Imp.go rp4 (by omega))); (try (have i_rp4 := Imp.go rp4 (by omega))); (try (have i_t11 := Imp.go t11 (by omega))); (try (have i_t12 := Imp.go t12 (by omega))); omega))⟩, by rw [ht]; exact hP, va_K.moved hW.alike hK, hD⟩, hS.F ht⟩) hS.2.2 dX9_cut_105
abbrev r_x_next2 : Room := { frames := 0, cells := 0, slots := 0, locals := 0 }
abbrev q_x_next2 (D : va_G) (ks : KS) (ad : Nat → Nat) (kk : Nat → ClassId) (V : Vf) (L : Lf) (Z : XZ) (A : Nat → Prop) : Array Value → State → Outcome → State → Prop := va_Qv (fun (u : Vf × Lf) => rgd bX u.1 ∧ agr [(6, 8), (6, 9), (6, 10)] [] V u.1 ∧ agL [6] L u.2 ∧ ((u.1 6 8).toInt ≤ (u.1 6 7).toInt) ∧ (CUR u.1 u.2 (Int32.toNatClampNeg (V 6 8)))) (fun u t => gq D A (xw ad kk u.1 u.2 Z) (xty kk Z) t) A
set_option maxHeartbeats 4000000 in
set_option maxRecDepth 100000 in
theorem x_next2 (l : Launch) (D : va_G) (ks : KS) (sz : Nat) (ad : Nat → Nat) (kk : Nat → ClassId) (V : Vf) (L : Lf) (Z : XZ)  (hMV : rgd bX V) (rp1 : (V 6 8).toInt ≤ (V 6 7).toInt)  : Met l yX9_next (Cond.code yX9_next cX9_next 1 none :: GW) r_x_next2 (va_Pc [.ref (ad 6)] (gp D ks (xw ad kk V L Z) (xty kk Z) sz)) (q_x_next2 D ks ad kk V L Z  (va_A (xw ad kk V L Z) sz)) 0 0 (va_A (xw ad kk V L Z) sz) := by
  refine g_met (q_x_next2 D ks ad kk V L Z) (by decide) (Nat.le_of_ble_eq_true rfl) ?_
  intro p e s m below meth c A ls H locs hx hb hr hml hown hg hlocks hin hnw hgk hP hK hD hS hA hl
  have hown : s.vm.findClass RX9 = some m.cls := hown
  have hl : lv_has ls 1 [(0, .ref (ad 6))] := hl
  have hP : va_P D vwCl (xw ad kk V L Z) H := hP
  have hD : va_D A (xw ad kk V L Z) := hD
  have hK : va_K D vwCl (xty kk Z) s := hK
  have agV : agr [(6, 8), (6, 9), (6, 10)] [] V V := agr.rf
  have alL : agL [6] L L := agL.rf
  have r1 : 0 ≤ ((V 6 8)).toInt ∧ ((V 6 8)).toInt ≤ 4000 := hMV 6 8
  have r2 : 0 ≤ ((V 6 7)).toInt ∧ ((V 6 7)).toInt ≤ 4000 := hMV 6 7
  refine lv_aload_n hx hb dX9_next_0 rfl (lv_at hl 0 rfl) ?_
  refine lv_aload_n hx hb dX9_next_1 rfl (lv_at hl 0 rfl) ?_
  refine va_get (D := D) (ci := 9) (v := .ref (ad 9)) (fs := (xfTape ad V L Z)) (C := RX9) (T := TX9) (N := 12) hx hb hg inX9 hown hK hP 6 xgTape rfl 2 (by decide) (hg _ w254) (fun _ h9 => h9) rfl dX9_next_2 ?_
  refine lv_aload_n hx hb dX9_next_5 rfl (lv_at hl 0 rfl) ?_
  refine va_get (D := D) (ci := 9) (v := .int (V 6 8)) (fs := (xfTape ad V L Z)) (C := RX9) (T := TX9) (N := 12) hx hb hg inX9 hown hK hP 6 xgTape rfl 8 (by decide) (hg _ w261) (fun _ h9 => h9) rfl dX9_next_6 ?_
  refine va_iald (D := D) (i := (V 6 8)) hx hb hK hP 9 2 rfl rfl (i_in (a := ((V 6 8)).toInt) rfl (by (first | exact om_d7f25fda8b0e r1.1 r1.2 | omega))) dX9_next_9 ?_
  refine va_put (D := D) (ci := 9) (v := .int (V 12 (Int32.toNatClampNeg (V 6 8)))) (ty := tyX9 9) (fs := (xfTape ad V L Z)) (C := RX9) (T := TX9) (N := 12) hx hb hg inX9 tyX9 tyX9_ok nmX9 hown hK hP hD hS 6 xgTape rfl 9 (by decide) (hg _ w264) (fun _ h9 => h9) rfl (tyX9_ok 9 (by decide)) rfl rfl (Nat.le_of_ble_eq_true rfl) dX9_next_10 (fun H locs hP hD hS => ?_)
  obtain ⟨V3, hV3⟩ : ∃ z, z = up2 V 6 9 (V 12 (Int32.toNatClampNeg (V 6 8))) := ⟨_, rfl⟩
  have ew4 : (xw ad kk V L Z).set 6 ((ad 6), .inr (9, (xfTape ad V L Z).set 9 (.int (V 12 (Int32.toNatClampNeg (V 6 8)))))) = xw ad kk V3 L Z := by rw [hV3]; exact xw_ss (by decide) rfl (xb_si (by decide))
  have hP : va_P D vwCl (xw ad kk V3 L Z) H := by rw [← ew4]; exact hP
  have hD : va_D A (xw ad kk V3 L Z) := by rw [← ew4]; exact hD
  have hMV3 : rgd bX V3 := hMV.put hV3 (i_full _)
  have agV3 : agr [(6, 8), (6, 9), (6, 10)] [] V V3 := agV.up hV3 rfl
  refine lv_aload_n hx hb dX9_next_13 rfl (lv_at hl 0 rfl) ?_
  refine lv_aload_n hx hb dX9_next_14 rfl (lv_at hl 0 rfl) ?_
  refine va_get (D := D) (ci := 9) (v := .ref (ad 10)) (fs := (xfTape ad V3 L Z)) (C := RX9) (T := TX9) (N := 12) hx hb hg inX9 hown hK hP 6 xgTape rfl 3 (by decide) (hg _ w255) (fun _ h9 => h9) rfl dX9_next_15 ?_
  refine lv_aload_n hx hb dX9_next_18 rfl (lv_at hl 0 rfl) ?_
  refine va_get (D := D) (ci := 9) (v := .int (V3 6 8)) (fs := (xfTape ad V3 L Z)) (C := RX9) (T := TX9) (N := 12) hx hb hg inX9 hown hK hP 6 xgTape rfl 8 (by decide) (hg _ w261) (fun _ h9 => h9) rfl dX9_next_19 ?_
  refine g_top (v := (V 6 8)) (up2_k hV3 (by decide)) ?_
  refine va_iald (D := D) (i := (V 6 8)) hx hb hK hP 10 3 rfl rfl (i_in (a := ((V 6 8)).toInt) rfl (by (first | exact om_d7f25fda8b0e r1.1 r1.2 | omega))) dX9_next_22 ?_
  refine g_top (v := (V 13 (Int32.toNatClampNeg (V 6 8)))) (up2_o hV3 (by decide)) ?_
  have r5 : 0 ≤ ((V 13 (Int32.toNatClampNeg (V 6 8)))).toInt ∧ ((V 13 (Int32.toNatClampNeg (V 6 8)))).toInt ≤ 4000 := hMV 13 (Int32.toNatClampNeg (V 6 8))
  refine va_put (D := D) (ci := 9) (v := .int (V 13 (Int32.toNatClampNeg (V 6 8)))) (ty := tyX9 10) (fs := (xfTape ad V3 L Z)) (C := RX9) (T := TX9) (N := 12) hx hb hg inX9 tyX9 tyX9_ok nmX9 hown hK hP hD hS 6 xgTape rfl 10 (by decide) (hg _ w265) (fun _ h9 => h9) rfl (tyX9_ok 10 (by decide)) rfl rfl (Nat.le_of_ble_eq_true rfl) dX9_next_23 (fun H locs hP hD hS => ?_)
  obtain ⟨V6, hV6⟩ : ∃ z, z = up2 V3 6 10 (V 13 (Int32.toNatClampNeg (V 6 8))) := ⟨_, rfl⟩
  have ew7 : (xw ad kk V3 L Z).set 6 ((ad 6), .inr (9, (xfTape ad V3 L Z).set 10 (.int (V 13 (Int32.toNatClampNeg (V 6 8)))))) = xw ad kk V6 L Z := by rw [hV6]; exact xw_ss (by decide) rfl (xb_si (by decide))
  have hP : va_P D vwCl (xw ad kk V6 L Z) H := by rw [← ew7]; exact hP
  have hD : va_D A (xw ad kk V6 L Z) := by rw [← ew7]; exact hD
  have hMV6 : rgd bX V6 := hMV3.put hV6 (show 0 ≤ ((V 13 (Int32.toNatClampNeg (V 6 8)))).toInt ∧ ((V 13 (Int32.toNatClampNeg (V 6 8)))).toInt ≤ 4000 from by (first | exact om_1194ef72f15b r5.1 r5.2 | omega))
  have agV6 : agr [(6, 8), (6, 9), (6, 10)] [] V V6 := agV3.up hV6 rfl
  refine lv_aload_n hx hb dX9_next_26 rfl (lv_at hl 0 rfl) ?_
  refine lv_aload_n hx hb dX9_next_27 rfl (lv_at hl 0 rfl) ?_
  refine va_get (D := D) (ci := 9) (v := .ref (ad 11)) (fs := (xfTape ad V6 L Z)) (C := RX9) (T := TX9) (N := 12) hx hb hg inX9 hown hK hP 6 xgTape rfl 4 (by decide) (hg _ w256) (fun _ h9 => h9) rfl dX9_next_28 ?_
  refine lv_aload_n hx hb dX9_next_31 rfl (lv_at hl 0 rfl) ?_
  refine va_get (D := D) (ci := 9) (v := .int (V6 6 8)) (fs := (xfTape ad V6 L Z)) (C := RX9) (T := TX9) (N := 12) hx hb hg inX9 hown hK hP 6 xgTape rfl 8 (by decide) (hg _ w261) (fun _ h9 => h9) rfl dX9_next_32 ?_
  refine g_top (v := (V 6 8)) ((up2_k hV6 (by decide)).trans (up2_k hV3 (by decide))) ?_
  refine va_lald (D := D) (i := (V 6 8)) hx hb hK hP 11 4 rfl rfl (i_in (a := ((V 6 8)).toInt) rfl (by (first | exact om_d7f25fda8b0e r1.1 r1.2 | omega))) dX9_next_35 ?_
  refine lv_topl (fun w8 ew8 => ?_)
  refine va_put (D := D) (ci := 9) (v := .long w8) (ty := tyX9 11) (fs := (xfTape ad V6 L Z)) (C := RX9) (T := TX9) (N := 12) hx hb hg inX9 tyX9 tyX9_ok nmX9 hown hK hP hD hS 6 xgTape rfl 11 (by decide) (hg _ w268) (fun _ h9 => h9) rfl (tyX9_ok 11 (by decide)) rfl rfl (Nat.le_of_ble_eq_true rfl) dX9_next_36 (fun H locs hP hD hS => ?_)
  obtain ⟨L9, hL9⟩ : ∃ z, z = upL L 6 11 w8 := ⟨_, rfl⟩
  have ew10 : (xw ad kk V6 L Z).set 6 ((ad 6), .inr (9, (xfTape ad V6 L Z).set 11 (.long w8))) = xw ad kk V6 L9 Z := by rw [hL9]; exact xw_ss (by decide) rfl (fun j => xe_L (fun a => absurd a.1 (by decide)))
  have hP : va_P D vwCl (xw ad kk V6 L9 Z) H := by rw [← ew10]; exact hP
  have hD : va_D A (xw ad kk V6 L9 Z) := by rw [← ew10]; exact hD
  have alL9 : agL [6] L L9 := agL.up alL hL9 rfl
  refine lv_aload_n hx hb dX9_next_39 rfl (lv_at hl 0 rfl) ?_
  refine va_get (D := D) (ci := 9) (v := .int (V6 6 8)) (fs := (xfTape ad V6 L9 Z)) (C := RX9) (T := TX9) (N := 12) hx hb hg inX9 hown hK hP 6 xgTape rfl 8 (by decide) (hg _ w261) (fun _ h9 => h9) rfl dX9_next_40 ?_
  refine g_top (v := (V 6 8)) ((up2_k hV6 (by decide)).trans (up2_k hV3 (by decide))) ?_
  refine lv_aload_n hx hb dX9_next_43 rfl (lv_at hl 0 rfl) ?_
  refine va_get (D := D) (ci := 9) (v := .int (V6 6 7)) (fs := (xfTape ad V6 L9 Z)) (C := RX9) (T := TX9) (N := 12) hx hb hg inX9 hown hK hP 6 xgTape rfl 7 (by decide) (hg _ w260) (fun _ h9 => h9) rfl dX9_next_44 ?_
  refine g_top (v := (V 6 7)) ((up2_k hV6 (by decide)).trans (up2_k hV3 (by decide))) ?_
  refine lv_icmp_ge (tgt := 60) hx hb dX9_next_47 (by decide) (fun c11 => ?_) (fun c11 => ?_)
  · skip
    have f12 : ((V 6 7)).toInt ≤ ((V 6 8)).toInt := b_le rfl rfl c11
    have pq13 : (V6 6 8).toInt = ((V 6 8)).toInt := congrArg Int32.toInt ((up2_k hV6 (by decide)).trans (up2_k hV3 (by decide)))
    have pq14 : (V6 6 7).toInt = ((V 6 7)).toInt := congrArg Int32.toInt ((up2_k hV6 (by decide)).trans (up2_k hV3 (by decide)))
    have kz15 := i_clamp (x := V 6 8) rfl (by (first | exact om_eafa9039069c r1.1 | omega))
    have rp16 : CUR V6 L9 (Int32.toNatClampNeg (V 6 8)) := ⟨by omega, (show V6 6 9 = V 12 (Int32.toNatClampNeg (V 6 8)) from ((up2_k hV6 (by decide)).trans (up2_s hV3))).trans (congrFun (by rw [(up2_fo hV6 (by decide) : V6 12 = V3 12), (up2_fo hV3 (by decide) : V3 12 = V 12)] : V6 12 = V 12) (Int32.toNatClampNeg (V 6 8))).symm, (show V6 6 10 = V 13 (Int32.toNatClampNeg (V 6 8)) from (up2_s hV6)).trans (congrFun (by rw [(up2_fo hV6 (by decide) : V6 13 = V3 13), (up2_fo hV3 (by decide) : V3 13 = V 13)] : V6 13 = V 13) (Int32.toNatClampNeg (V 6 8))).symm, (upL_s hL9).trans ((show w8 = L 14 (Int32.toNatClampNeg (V 6 8)) from ew8).trans (congrFun (upL_o hL9 (by decide)) _).symm), by split <;> omega⟩
    exact W.vret hx hb hr (fun t ht hW => ⟨⟨(V6, L9), rfl, ⟨hMV6, agV6, alL9, (show (V6 6 8).toInt ≤ (V6 6 7).toInt from by (first | exact om_842ee80c0797 rp1 pq13 pq14 | omega)), rp16⟩, by rw [ht]; exact hP, va_K.moved hW.alike hK, hD⟩, hS.F ht⟩) hS.2.2 dX9_next_60
  · skip
    have f17 : ((V 6 8)).toInt < ((V 6 7)).toInt := b_nle rfl rfl c11
    refine lv_aload_n hx hb dX9_next_50 rfl (lv_at hl 0 rfl) ?_
    refine lv_dup hx hb dX9_next_51 rfl ?_
    refine va_get (D := D) (ci := 9) (v := .int (V6 6 8)) (fs := (xfTape ad V6 L9 Z)) (C := RX9) (T := TX9) (N := 12) hx hb hg inX9 hown hK hP 6 xgTape rfl 8 (by decide) (hg _ w261) (fun _ h9 => h9) rfl dX9_next_52 ?_
    refine g_top (v := (V 6 8)) ((up2_k hV6 (by decide)).trans (up2_k hV3 (by decide))) ?_
    refine lv_iconst (v := 1) hx hb dX9_next_55 (by decide) ?_
    refine lv_iadd hx hb dX9_next_56 ?_
    refine lv_topi (fun z18 ez18 => ?_)
    have hz18 : z18.toInt = ((V 6 8)).toInt + 1 := i_add ez18 rfl (by decide) (by (first | exact om_b8a2391ac875 r1.1 r2.2 f17 | omega))
    refine va_put (D := D) (ci := 9) (v := .int z18) (ty := tyX9 8) (fs := (xfTape ad V6 L9 Z)) (C := RX9) (T := TX9) (N := 12) hx hb hg inX9 tyX9 tyX9_ok nmX9 hown hK hP hD hS 6 xgTape rfl 8 (by decide) (hg _ w261) (fun _ h9 => h9) rfl (tyX9_ok 8 (by decide)) rfl rfl (Nat.le_of_ble_eq_true rfl) dX9_next_57 (fun H locs hP hD hS => ?_)
    obtain ⟨V19, hV19⟩ : ∃ z, z = up2 V6 6 8 z18 := ⟨_, rfl⟩
    have ew20 : (xw ad kk V6 L9 Z).set 6 ((ad 6), .inr (9, (xfTape ad V6 L9 Z).set 8 (.int z18))) = xw ad kk V19 L9 Z := by rw [hV19]; exact xw_ss (by decide) rfl (xb_si (by decide))
    have hP : va_P D vwCl (xw ad kk V19 L9 Z) H := by rw [← ew20]; exact hP
    have hD : va_D A (xw ad kk V19 L9 Z) := by rw [← ew20]; exact hD
    have hMV19 : rgd bX V19 := hMV6.put hV19 (show 0 ≤ z18.toInt ∧ z18.toInt ≤ 4000 from by (first | exact om_65a6d0bb414d r1.1 r2.2 f17 hz18 | omega))
    have agV19 : agr [(6, 8), (6, 9), (6, 10)] [] V V19 := agV6.up hV19 rfl
    have pq21 : (V19 6 8).toInt = z18.toInt := congrArg Int32.toInt (up2_s hV19)
    have pq22 : (V19 6 7).toInt = ((V 6 7)).toInt := congrArg Int32.toInt ((up2_k hV19 (by decide)).trans ((up2_k hV6 (by decide)).trans (up2_k hV3 (by decide))))
    have kz23 := i_clamp (x := V 6 8) rfl (by (first | exact om_eafa9039069c r1.1 | omega))
    have rp24 : CUR V19 L9 (Int32.toNatClampNeg (V 6 8)) := ⟨by omega, (show V19 6 9 = V 12 (Int32.toNatClampNeg (V 6 8)) from ((up2_k hV19 (by decide)).trans ((up2_k hV6 (by decide)).trans (up2_s hV3)))).trans (congrFun (by rw [(up2_fo hV19 (by decide) : V19 12 = V6 12), (up2_fo hV6 (by decide) : V6 12 = V3 12), (up2_fo hV3 (by decide) : V3 12 = V 12)] : V19 12 = V 12) (Int32.toNatClampNeg (V 6 8))).symm, (show V19 6 10 = V 13 (Int32.toNatClampNeg (V 6 8)) from ((up2_k hV19 (by decide)).trans (up2_s hV6))).trans (congrFun (by rw [(up2_fo hV19 (by decide) : V19 13 = V6 13), (up2_fo hV6 (by decide) : V6 13 = V3 13), (up2_fo hV3 (by decide) : V3 13 = V 13)] : V19 13 = V 13) (Int32.toNatClampNeg (V 6 8))).symm, (upL_s hL9).trans ((show w8 = L 14 (Int32.toNatClampNeg (V 6 8)) from ew8).trans (congrFun (upL_o hL9 (by decide)) _).symm), by split <;> omega⟩
    exact W.vret hx hb hr (fun t ht hW => ⟨⟨(V19, L9), rfl, ⟨hMV19, agV19, alL9, (show (V19 6 8).toInt ≤ (V19 6 7).toInt from by (first | exact om_edfc951a51f8 f17 hz18 pq21 pq22 | omega)), rp24⟩, by rw [ht]; exact hP, va_K.moved hW.alike hK, hD⟩, hS.F ht⟩) hS.2.2 dX9_next_60
abbrev r_x_begin2 : Room := { frames := 5, cells := 0, slots := 0, locals := 112 }
abbrev q_x_begin2 (D : va_G) (ks : KS) (ad : Nat → Nat) (kk : Nat → ClassId) (V : Vf) (L : Lf) (Z : XZ) (A : Nat → Prop) : Array Value → State → Outcome → State → Prop := va_Qv (fun (u : Vf × Lf) => rgd bX u.1 ∧ agr [(6, 6), (6, 7), (6, 8), (6, 9), (6, 10)] [12, 13, 14] V u.1 ∧ agL [6, 14] L u.2 ∧ ((u.1 6 8).toInt ≤ (u.1 6 7).toInt) ∧ (CTE V L u.1 u.2)) (fun u t => gq D A (xw ad kk u.1 u.2 Z) (xty kk Z) t) A
set_option maxHeartbeats 4000000 in
set_option maxRecDepth 100000 in
theorem x_begin2 (l : Launch) (D : va_G) (ks : KS) (sz : Nat) (ad : Nat → Nat) (kk : Nat → ClassId) (V : Vf) (L : Lf) (Z : XZ)  (hMV : rgd bX V) (bp1 : ∀ k : Nat, (k : Int) < (V 6 5).toInt → isTp (V 10 k))  : Met l yX9_begin (Cond.code yX9_begin cX9_begin 2 none :: GW) r_x_begin2 (va_Pc [.ref (ad 6)] (gp D ks (xw ad kk V L Z) (xty kk Z) sz)) (q_x_begin2 D ks ad kk V L Z  (va_A (xw ad kk V L Z) sz)) 0 0 (va_A (xw ad kk V L Z) sz) := by
  refine g_met (q_x_begin2 D ks ad kk V L Z) (by decide) (Nat.le_of_ble_eq_true rfl) ?_
  intro p e s m below meth c A ls H locs hx hb hr hml hown hg hlocks hin hnw hgk hP hK hD hS hA hl
  have hown : s.vm.findClass RX9 = some m.cls := hown
  have hl : lv_has ls 2 [(0, .ref (ad 6))] := hl
  have hP : va_P D vwCl (xw ad kk V L Z) H := hP
  have hD : va_D A (xw ad kk V L Z) := hD
  have hK : va_K D vwCl (xty kk Z) s := hK
  have agV : agr [(6, 6), (6, 7), (6, 8), (6, 9), (6, 10)] [12, 13, 14] V V := agr.rf
  have alL : agL [6, 14] L L := agL.rf
  refine lv_aload_n hx hb dX9_begin_0 rfl (lv_at hl 0 rfl) ?_
  refine lv_iconst (v := 0) hx hb dX9_begin_1 (by decide) ?_
  refine va_put (D := D) (ci := 9) (v := .int 0) (ty := tyX9 6) (fs := (xfTape ad V L Z)) (C := RX9) (T := TX9) (N := 12) hx hb hg inX9 tyX9 tyX9_ok nmX9 hown hK hP hD hS 6 xgTape rfl 6 (by decide) (hg _ w259) (fun _ h9 => h9) rfl (tyX9_ok 6 (by decide)) rfl rfl (Nat.le_of_ble_eq_true rfl) dX9_begin_2 (fun H locs hP hD hS => ?_)
  obtain ⟨V1, hV1⟩ : ∃ z, z = up2 V 6 6 0 := ⟨_, rfl⟩
  have ew2 : (xw ad kk V L Z).set 6 ((ad 6), .inr (9, (xfTape ad V L Z).set 6 (.int 0))) = xw ad kk V1 L Z := by rw [hV1]; exact xw_ss (by decide) rfl (xb_si (by decide))
  have hP : va_P D vwCl (xw ad kk V1 L Z) H := by rw [← ew2]; exact hP
  have hD : va_D A (xw ad kk V1 L Z) := by rw [← ew2]; exact hD
  have hMV1 : rgd bX V1 := hMV.put hV1 (by decide)
  have agV1 : agr [(6, 6), (6, 7), (6, 8), (6, 9), (6, 10)] [12, 13, 14] V V1 := agV.up hV1 rfl
  refine lv_aload_n hx hb dX9_begin_5 rfl (lv_at hl 0 rfl) ?_
  refine lv_iconst (v := 0) hx hb dX9_begin_6 (by decide) ?_
  refine va_put (D := D) (ci := 9) (v := .int 0) (ty := tyX9 7) (fs := (xfTape ad V1 L Z)) (C := RX9) (T := TX9) (N := 12) hx hb hg inX9 tyX9 tyX9_ok nmX9 hown hK hP hD hS 6 xgTape rfl 7 (by decide) (hg _ w260) (fun _ h9 => h9) rfl (tyX9_ok 7 (by decide)) rfl rfl (Nat.le_of_ble_eq_true rfl) dX9_begin_7 (fun H locs hP hD hS => ?_)
  obtain ⟨V3, hV3⟩ : ∃ z, z = up2 V1 6 7 0 := ⟨_, rfl⟩
  have ew4 : (xw ad kk V1 L Z).set 6 ((ad 6), .inr (9, (xfTape ad V1 L Z).set 7 (.int 0))) = xw ad kk V3 L Z := by rw [hV3]; exact xw_ss (by decide) rfl (xb_si (by decide))
  have hP : va_P D vwCl (xw ad kk V3 L Z) H := by rw [← ew4]; exact hP
  have hD : va_D A (xw ad kk V3 L Z) := by rw [← ew4]; exact hD
  have hMV3 : rgd bX V3 := hMV1.put hV3 (by decide)
  have agV3 : agr [(6, 6), (6, 7), (6, 8), (6, 9), (6, 10)] [12, 13, 14] V V3 := agV1.up hV3 rfl
  refine lv_iconst (v := 0) hx hb dX9_begin_10 (by decide) ?_
  refine lv_istore_n (lv' := [(1, .int 0), (0, .ref (ad 6))]) hx hb dX9_begin_11 rfl hl (by decide) rfl (fun ls hl => ?_)
  have lp8 : ∀ (fulp8 : Nat) (y5 : Int32) (V6 : Vf) (L7 : Lf) (H : Heap) (locs : List Loc) (ls : Array Slot), 0 ≤ y5.toInt ∧ y5.toInt ≤ 4000 → (V6 6 6).toInt ≤ (V6 6 5).toInt → (V6 6 7).toInt ≤ y5.toInt → y5.toInt ≤ (V6 6 6).toInt → (CT V L V6 L7) → 4000 - y5.toInt < (fulp8 : Int) → agL [6, 14] L L7 → agr [(6, 6), (6, 7)] [12, 13, 14] V3 V6 → rgd bX V6 → va_P D vwCl (xw ad kk V6 L7 Z) H → va_D A (xw ad kk V6 L7 Z) → va_S A s.heap H locs → lv_has ls 2 [(1, .int y5), (0, .ref (ad 6))] → W p l e r_x_begin2 s m ([.ref (ad 6)] : List Value).toArray below meth c H locs 0 0 (MQ below (q_x_begin2 D ks ad kk V L Z  A) ([.ref (ad 6)] : List Value).toArray s 0 0 A) (F0 m 12 ls []) := by
    intro fulp8
    induction fulp8 with
    | zero =>
      intro y5 V6 L7 H locs ls klp8_0 xlp8_0 xlp8_1 xlp8_2 xlp8_3 hn alL7 ajV6 hMV6 hP hD hS hl
      exfalso; (first | exact om_03b755d7679e klp8_0.2 hn | omega)
    | succ fulp8 ihlp8 =>
      intro y5 V6 L7 H locs ls klp8_0 xlp8_0 xlp8_1 xlp8_2 xlp8_3 hn alL7 ajV6 hMV6 hP hD hS hl
      have agV6 : agr [(6, 6), (6, 7), (6, 8), (6, 9), (6, 10)] [12, 13, 14] V V6 := agV3.tr ajV6 (by decide) (by decide)
      have pq9 : (V6 6 5).toInt = ((V 6 5)).toInt := congrArg Int32.toInt ((ajV6 6 5 rfl).trans ((up2_k hV3 (by decide)).trans (up2_k hV1 (by decide))))
      have r10 : 0 ≤ ((V 6 5)).toInt ∧ ((V 6 5)).toInt ≤ 4000 := hMV 6 5
      have r11 : 0 ≤ ((V6 6 6)).toInt ∧ ((V6 6 6)).toInt ≤ 4000 := hMV6 6 6
      have r12 : 0 ≤ ((V6 6 7)).toInt ∧ ((V6 6 7)).toInt ≤ 4000 := hMV6 6 7
      refine lv_iload_n hx hb dX9_begin_12 rfl (lv_at hl 0 rfl) ?_
      refine lv_sipush (v := 4000) hx hb dX9_begin_13 (by decide) ?_
      refine lv_icmp_ge (tgt := 81) hx hb dX9_begin_16 (by decide) (fun c13 => ?_) (fun c13 => ?_)
      · skip
        have f14 : 4000 ≤ y5.toInt := b_le (by decide) rfl c13
        refine lv_aload_n hx hb dX9_begin_81 rfl (lv_at hl 1 rfl) ?_
        refine va_get (D := D) (ci := 9) (v := .ref (ad 9)) (fs := (xfTape ad V6 L7 Z)) (C := RX9) (T := TX9) (N := 12) hx hb hg inX9 hown hK hP 6 xgTape rfl 2 (by decide) (hg _ w254) (fun _ h9 => h9) rfl dX9_begin_82 ?_
        refine lv_aload_n hx hb dX9_begin_85 rfl (lv_at hl 1 rfl) ?_
        refine va_get (D := D) (ci := 9) (v := .int (V6 6 7)) (fs := (xfTape ad V6 L7 Z)) (C := RX9) (T := TX9) (N := 12) hx hb hg inX9 hown hK hP 6 xgTape rfl 7 (by decide) (hg _ w260) (fun _ h9 => h9) rfl dX9_begin_86 ?_
        refine lv_iconst (v := 0) hx hb dX9_begin_89 (by decide) ?_
        refine va_iast (D := D) (i := (V6 6 7)) (x := 0) hx hb hK hP hD hS 9 2 rfl rfl (i_in (a := ((V6 6 7)).toInt) rfl (by first | exact om_d7f25fda8b0e r12.1 r12.2 | first | omega | ((try (have i_bp1 := Imp.go bp1 (by omega))); omega))) dX9_begin_90 (fun H locs hP hD hS => ?_)
        obtain ⟨V15, hV15⟩ : ∃ z, z = up2 V6 12 (Int32.toNatClampNeg (V6 6 7)) 0 := ⟨_, rfl⟩
        have ew16 : (xw ad kk V6 L7 Z).set 9 ((ad 9), .inl ((kk 9), 4001, .inl (upd (V6 12) (Int32.toNatClampNeg (V6 6 7)) 0))) = xw ad kk V15 L7 Z := by rw [hV15]; exact xw_ss (by decide) rfl (xb_si (by decide))
        have hP : va_P D vwCl (xw ad kk V15 L7 Z) H := by rw [← ew16]; exact hP
        have hD : va_D A (xw ad kk V15 L7 Z) := by rw [← ew16]; exact hD
        have hMV15 : rgd bX V15 := hMV6.put hV15 (i_full _)
        have agV15 : agr [(6, 6), (6, 7), (6, 8), (6, 9), (6, 10)] [12, 13, 14] V V15 := agV6.up hV15 rfl
        refine lv_aload_n hx hb dX9_begin_91 rfl (lv_at hl 1 rfl) ?_
        refine va_get (D := D) (ci := 9) (v := .ref (ad 10)) (fs := (xfTape ad V15 L7 Z)) (C := RX9) (T := TX9) (N := 12) hx hb hg inX9 hown hK hP 6 xgTape rfl 3 (by decide) (hg _ w255) (fun _ h9 => h9) rfl dX9_begin_92 ?_
        refine lv_aload_n hx hb dX9_begin_95 rfl (lv_at hl 1 rfl) ?_
        refine va_get (D := D) (ci := 9) (v := .int (V15 6 7)) (fs := (xfTape ad V15 L7 Z)) (C := RX9) (T := TX9) (N := 12) hx hb hg inX9 hown hK hP 6 xgTape rfl 7 (by decide) (hg _ w260) (fun _ h9 => h9) rfl dX9_begin_96 ?_
        refine g_top (v := (V6 6 7)) (up2_o hV15 (by decide)) ?_
        refine lv_aload_n hx hb dX9_begin_99 rfl (lv_at hl 1 rfl) ?_
        refine va_get (D := D) (ci := 9) (v := .int (V15 6 5)) (fs := (xfTape ad V15 L7 Z)) (C := RX9) (T := TX9) (N := 12) hx hb hg inX9 hown hK hP 6 xgTape rfl 5 (by decide) (hg _ w258) (fun _ h9 => h9) rfl dX9_begin_100 ?_
        refine g_top (v := (V 6 5)) ((up2_o hV15 (by decide)).trans ((ajV6 6 5 rfl).trans ((up2_k hV3 (by decide)).trans (up2_k hV1 (by decide))))) ?_
        refine va_iast (D := D) (i := (V6 6 7)) (x := (V 6 5)) hx hb hK hP hD hS 10 3 rfl rfl (i_in (a := ((V6 6 7)).toInt) rfl (by first | exact om_d7f25fda8b0e r12.1 r12.2 | first | omega | ((try (have i_bp1 := Imp.go bp1 (by omega))); omega))) dX9_begin_103 (fun H locs hP hD hS => ?_)
        obtain ⟨V17, hV17⟩ : ∃ z, z = up2 V15 13 (Int32.toNatClampNeg (V6 6 7)) (V 6 5) := ⟨_, rfl⟩
        have ew18 : (xw ad kk V15 L7 Z).set 10 ((ad 10), .inl ((kk 10), 4001, .inl (upd (V15 13) (Int32.toNatClampNeg (V6 6 7)) (V 6 5)))) = xw ad kk V17 L7 Z := by rw [hV17]; exact xw_ss (by decide) rfl (xb_si (by decide))
        have hP : va_P D vwCl (xw ad kk V17 L7 Z) H := by rw [← ew18]; exact hP
        have hD : va_D A (xw ad kk V17 L7 Z) := by rw [← ew18]; exact hD
        have hMV17 : rgd bX V17 := hMV15.put hV17 (show 0 ≤ ((V 6 5)).toInt ∧ ((V 6 5)).toInt ≤ 4000 from by first | exact om_ecebcb700658 xlp8_0 xlp8_2 pq9 r10.2 f14 | first | omega | ((try (have i_bp1 := Imp.go bp1 (by omega))); omega))
        have agV17 : agr [(6, 6), (6, 7), (6, 8), (6, 9), (6, 10)] [12, 13, 14] V V17 := agV15.up hV17 rfl
        refine lv_aload_n hx hb dX9_begin_104 rfl (lv_at hl 1 rfl) ?_
        refine va_get (D := D) (ci := 9) (v := .ref (ad 11)) (fs := (xfTape ad V17 L7 Z)) (C := RX9) (T := TX9) (N := 12) hx hb hg inX9 hown hK hP 6 xgTape rfl 4 (by decide) (hg _ w256) (fun _ h9 => h9) rfl dX9_begin_105 ?_
        refine lv_aload_n hx hb dX9_begin_108 rfl (lv_at hl 1 rfl) ?_
        refine va_get (D := D) (ci := 9) (v := .int (V17 6 7)) (fs := (xfTape ad V17 L7 Z)) (C := RX9) (T := TX9) (N := 12) hx hb hg inX9 hown hK hP 6 xgTape rfl 7 (by decide) (hg _ w260) (fun _ h9 => h9) rfl dX9_begin_109 ?_
        refine g_top (v := (V6 6 7)) ((up2_o hV17 (by decide)).trans (up2_o hV15 (by decide))) ?_
        refine lv_lconst (v := 0) hx hb dX9_begin_112 (by decide) ?_
        refine va_last (D := D) (i := (V6 6 7)) (x := 0) hx hb hK hP hD hS 11 4 rfl rfl (i_in (a := ((V6 6 7)).toInt) rfl (by first | exact om_d7f25fda8b0e r12.1 r12.2 | first | omega | ((try (have i_bp1 := Imp.go bp1 (by omega))); omega))) dX9_begin_113 (fun H locs hP hD hS => ?_)
        obtain ⟨L19, hL19⟩ : ∃ z, z = upL L7 14 (Int32.toNatClampNeg (V6 6 7)) 0 := ⟨_, rfl⟩
        have ew20 : (xw ad kk V17 L7 Z).set 11 ((ad 11), .inl ((kk 11), 4001, .inr (.inl (vp_updL (L7 14) (Int32.toNatClampNeg (V6 6 7)) 0)))) = xw ad kk V17 L19 Z := by rw [hL19]; exact xw_ss (by decide) rfl (fun j => xe_L (fun a => absurd a.1 (by decide)))
        have hP : va_P D vwCl (xw ad kk V17 L19 Z) H := by rw [← ew20]; exact hP
        have hD : va_D A (xw ad kk V17 L19 Z) := by rw [← ew20]; exact hD
        have alL19 : agL [6, 14] L L19 := agL.up alL7 hL19 rfl
        refine lv_aload_n hx hb dX9_begin_114 rfl (lv_at hl 1 rfl) ?_
        refine lv_iconst (v := 0) hx hb dX9_begin_115 (by decide) ?_
        refine va_put (D := D) (ci := 9) (v := .int 0) (ty := tyX9 8) (fs := (xfTape ad V17 L19 Z)) (C := RX9) (T := TX9) (N := 12) hx hb hg inX9 tyX9 tyX9_ok nmX9 hown hK hP hD hS 6 xgTape rfl 8 (by decide) (hg _ w261) (fun _ h9 => h9) rfl (tyX9_ok 8 (by decide)) rfl rfl (Nat.le_of_ble_eq_true rfl) dX9_begin_116 (fun H locs hP hD hS => ?_)
        obtain ⟨V21, hV21⟩ : ∃ z, z = up2 V17 6 8 0 := ⟨_, rfl⟩
        have ew22 : (xw ad kk V17 L19 Z).set 6 ((ad 6), .inr (9, (xfTape ad V17 L19 Z).set 8 (.int 0))) = xw ad kk V21 L19 Z := by rw [hV21]; exact xw_ss (by decide) rfl (xb_si (by decide))
        have hP : va_P D vwCl (xw ad kk V21 L19 Z) H := by rw [← ew22]; exact hP
        have hD : va_D A (xw ad kk V21 L19 Z) := by rw [← ew22]; exact hD
        have hMV21 : rgd bX V21 := hMV17.put hV21 (by decide)
        have agV21 : agr [(6, 6), (6, 7), (6, 8), (6, 9), (6, 10)] [12, 13, 14] V V21 := agV17.up hV21 rfl
        refine lv_aload_n hx hb dX9_begin_119 rfl (lv_at hl 1 rfl) ?_
        have pq23 : (V21 6 8).toInt = 0 := (congrArg Int32.toInt (up2_s hV21)).trans (by decide)
        have pq24 : (V21 6 7).toInt = ((V6 6 7)).toInt := congrArg Int32.toInt ((up2_k hV21 (by decide)).trans ((up2_o hV17 (by decide)).trans (up2_o hV15 (by decide))))
        refine gA_void (gA_runV (As := []) (rest := []) (ci := 9) (q0 := 6) hx hb hml hown hg hP hD hK hS hA hnw hgk (x_next2 l D ks H.size ad kk V21 L19 Z  hMV21 (show (V21 6 8).toInt ≤ (V21 6 7).toInt from by first | exact om_ff3fc84f1c65 r12.1 pq23 pq24 | first | omega | ((try (have i_bp1 := Imp.go bp1 (by omega))); omega))) w851 w852 w853 w157 w854 rfl xgTape hdV_yX9_next ⟨Nat.le_of_ble_eq_true rfl, Nat.le_of_ble_eq_true rfl⟩ rfl hl.1 rfl (Nat.le_of_ble_eq_true rfl) dX9_begin_120 ⟨Nat.le_of_ble_eq_true rfl, Nat.le_of_ble_eq_true rfl⟩) hP hD hK hS hA (fun u26 H locs w27 hP hD hK hS => ?_)
        obtain ⟨V30, L31⟩ := u26
        obtain ⟨hMV30, ajV30, axL31, t28, t29⟩ := w27
        have alL31 : agL [6, 14] L L31 := agL.tr alL19 axL31 (by decide)
        have hP : va_P D vwCl (xw ad kk V30 L31 Z) H := hP
        have hD : va_D A (xw ad kk V30 L31 Z) := hD
        have hMV30 : rgd bX V30 := hMV30
        have ajV30 : agr [(6, 8), (6, 9), (6, 10)] [] V21 V30 := ajV30
        have agV30 : agr [(6, 6), (6, 7), (6, 8), (6, 9), (6, 10)] [12, 13, 14] V V30 := agV21.tr ajV30 (by decide) (by decide)
        have t28 : (V30 6 8).toInt ≤ (V30 6 7).toInt := t28
        have t29 : CUR V30 L31 (Int32.toNatClampNeg (V21 6 8)) := t29
        have r32 : 0 ≤ ((V30 6 8)).toInt ∧ ((V30 6 8)).toInt ≤ 4000 := hMV30 6 8
        have pq33 : (V30 6 7).toInt = ((V6 6 7)).toInt := congrArg Int32.toInt ((ajV30 6 7 rfl).trans ((up2_k hV21 (by decide)).trans ((up2_o hV17 (by decide)).trans (up2_o hV15 (by decide)))))
        have kz34 := i_clamp (x := V6 6 7) rfl (by (first | exact om_eafa9039069c r12.1 | omega))
        have hcu : CUR V30 L31 0 := by have z9 := t29; rw [up2_s hV21] at z9; exact z9
        have rp35 : CTE V L V30 L31 := CTE.mk xlp8_3 hV15 hV17 hL19 (by rw [(funext (fun q => ajV30 12 q rfl) : V30 12 = V21 12), (up2_fo hV21 (by decide) : V21 12 = V17 12)] : V30 12 = V17 12) (by rw [(funext (fun q => ajV30 13 q rfl) : V30 13 = V21 13), (up2_fo hV21 (by decide) : V21 13 = V17 13)] : V30 13 = V17 13) (funext (fun q => axL31 14 q rfl)) (show V30 6 7 = V6 6 7 from ((ajV30 6 7 rfl).trans ((up2_k hV21 (by decide)).trans ((up2_o hV17 (by decide)).trans (up2_o hV15 (by decide)))))) (show V30 6 6 = V6 6 6 from ((ajV30 6 6 rfl).trans ((up2_k hV21 (by decide)).trans ((up2_o hV17 (by decide)).trans (up2_o hV15 (by decide)))))) rfl (by (first | exact om_c098d3e04c36 r12.1 kz34 | omega)) (by (first | exact om_c0761f9775a3 xlp8_0 xlp8_2 pq9 r10.2 f14 | omega)) hcu
        exact W.vret hx hb hr (fun t ht hW => ⟨⟨(V30, L31), rfl, ⟨hMV30, agV30, alL31, (show (V30 6 8).toInt ≤ (V30 6 7).toInt from by first | exact om_f4906d00fa52 t28 | first | omega | ((try (have i_bp1 := Imp.go bp1 (by omega))); omega)), rp35⟩, by rw [ht]; exact hP, va_K.moved hW.alike hK, hD⟩, hS.F ht⟩) hS.2.2 dX9_begin_123
      · skip
        have f36 : y5.toInt < 4000 := b_nle (by decide) rfl c13
        refine lv_aload_n hx hb dX9_begin_19 rfl (lv_at hl 1 rfl) ?_
        refine va_get (D := D) (ci := 9) (v := .int (V6 6 6)) (fs := (xfTape ad V6 L7 Z)) (C := RX9) (T := TX9) (N := 12) hx hb hg inX9 hown hK hP 6 xgTape rfl 6 (by decide) (hg _ w259) (fun _ h9 => h9) rfl dX9_begin_20 ?_
        refine lv_aload_n hx hb dX9_begin_23 rfl (lv_at hl 1 rfl) ?_
        refine va_get (D := D) (ci := 9) (v := .int (V6 6 5)) (fs := (xfTape ad V6 L7 Z)) (C := RX9) (T := TX9) (N := 12) hx hb hg inX9 hown hK hP 6 xgTape rfl 5 (by decide) (hg _ w258) (fun _ h9 => h9) rfl dX9_begin_24 ?_
        refine g_top (v := (V 6 5)) ((ajV6 6 5 rfl).trans ((up2_k hV3 (by decide)).trans (up2_k hV1 (by decide)))) ?_
        refine lv_icmp_ge (tgt := 81) hx hb dX9_begin_27 (by decide) (fun c37 => ?_) (fun c37 => ?_)
        · skip
          have f38 : ((V 6 5)).toInt ≤ ((V6 6 6)).toInt := b_le rfl rfl c37
          refine lv_aload_n hx hb dX9_begin_81 rfl (lv_at hl 1 rfl) ?_
          refine va_get (D := D) (ci := 9) (v := .ref (ad 9)) (fs := (xfTape ad V6 L7 Z)) (C := RX9) (T := TX9) (N := 12) hx hb hg inX9 hown hK hP 6 xgTape rfl 2 (by decide) (hg _ w254) (fun _ h9 => h9) rfl dX9_begin_82 ?_
          refine lv_aload_n hx hb dX9_begin_85 rfl (lv_at hl 1 rfl) ?_
          refine va_get (D := D) (ci := 9) (v := .int (V6 6 7)) (fs := (xfTape ad V6 L7 Z)) (C := RX9) (T := TX9) (N := 12) hx hb hg inX9 hown hK hP 6 xgTape rfl 7 (by decide) (hg _ w260) (fun _ h9 => h9) rfl dX9_begin_86 ?_
          refine lv_iconst (v := 0) hx hb dX9_begin_89 (by decide) ?_
          refine va_iast (D := D) (i := (V6 6 7)) (x := 0) hx hb hK hP hD hS 9 2 rfl rfl (i_in (a := ((V6 6 7)).toInt) rfl (by first | exact om_fe84a465e0a9 xlp8_1 r12.1 f36 | first | omega | ((try (have i_bp1 := Imp.go bp1 (by omega))); omega))) dX9_begin_90 (fun H locs hP hD hS => ?_)
          obtain ⟨V39, hV39⟩ : ∃ z, z = up2 V6 12 (Int32.toNatClampNeg (V6 6 7)) 0 := ⟨_, rfl⟩
          have ew40 : (xw ad kk V6 L7 Z).set 9 ((ad 9), .inl ((kk 9), 4001, .inl (upd (V6 12) (Int32.toNatClampNeg (V6 6 7)) 0))) = xw ad kk V39 L7 Z := by rw [hV39]; exact xw_ss (by decide) rfl (xb_si (by decide))
          have hP : va_P D vwCl (xw ad kk V39 L7 Z) H := by rw [← ew40]; exact hP
          have hD : va_D A (xw ad kk V39 L7 Z) := by rw [← ew40]; exact hD
          have hMV39 : rgd bX V39 := hMV6.put hV39 (i_full _)
          have agV39 : agr [(6, 6), (6, 7), (6, 8), (6, 9), (6, 10)] [12, 13, 14] V V39 := agV6.up hV39 rfl
          refine lv_aload_n hx hb dX9_begin_91 rfl (lv_at hl 1 rfl) ?_
          refine va_get (D := D) (ci := 9) (v := .ref (ad 10)) (fs := (xfTape ad V39 L7 Z)) (C := RX9) (T := TX9) (N := 12) hx hb hg inX9 hown hK hP 6 xgTape rfl 3 (by decide) (hg _ w255) (fun _ h9 => h9) rfl dX9_begin_92 ?_
          refine lv_aload_n hx hb dX9_begin_95 rfl (lv_at hl 1 rfl) ?_
          refine va_get (D := D) (ci := 9) (v := .int (V39 6 7)) (fs := (xfTape ad V39 L7 Z)) (C := RX9) (T := TX9) (N := 12) hx hb hg inX9 hown hK hP 6 xgTape rfl 7 (by decide) (hg _ w260) (fun _ h9 => h9) rfl dX9_begin_96 ?_
          refine g_top (v := (V6 6 7)) (up2_o hV39 (by decide)) ?_
          refine lv_aload_n hx hb dX9_begin_99 rfl (lv_at hl 1 rfl) ?_
          refine va_get (D := D) (ci := 9) (v := .int (V39 6 5)) (fs := (xfTape ad V39 L7 Z)) (C := RX9) (T := TX9) (N := 12) hx hb hg inX9 hown hK hP 6 xgTape rfl 5 (by decide) (hg _ w258) (fun _ h9 => h9) rfl dX9_begin_100 ?_
          refine g_top (v := (V 6 5)) ((up2_o hV39 (by decide)).trans ((ajV6 6 5 rfl).trans ((up2_k hV3 (by decide)).trans (up2_k hV1 (by decide))))) ?_
          refine va_iast (D := D) (i := (V6 6 7)) (x := (V 6 5)) hx hb hK hP hD hS 10 3 rfl rfl (i_in (a := ((V6 6 7)).toInt) rfl (by first | exact om_fe84a465e0a9 xlp8_1 r12.1 f36 | first | omega | ((try (have i_bp1 := Imp.go bp1 (by omega))); omega))) dX9_begin_103 (fun H locs hP hD hS => ?_)
          obtain ⟨V41, hV41⟩ : ∃ z, z = up2 V39 13 (Int32.toNatClampNeg (V6 6 7)) (V 6 5) := ⟨_, rfl⟩
          have ew42 : (xw ad kk V39 L7 Z).set 10 ((ad 10), .inl ((kk 10), 4001, .inl (upd (V39 13) (Int32.toNatClampNeg (V6 6 7)) (V 6 5)))) = xw ad kk V41 L7 Z := by rw [hV41]; exact xw_ss (by decide) rfl (xb_si (by decide))
          have hP : va_P D vwCl (xw ad kk V41 L7 Z) H := by rw [← ew42]; exact hP
          have hD : va_D A (xw ad kk V41 L7 Z) := by rw [← ew42]; exact hD
          have hMV41 : rgd bX V41 := hMV39.put hV41 (show 0 ≤ ((V 6 5)).toInt ∧ ((V 6 5)).toInt ≤ 4000 from by first | exact om_d7d791e66fbf xlp8_0 pq9 r11.1 r11.2 f38 | first | omega | ((try (have i_bp1 := Imp.go bp1 (by omega))); omega))
          have agV41 : agr [(6, 6), (6, 7), (6, 8), (6, 9), (6, 10)] [12, 13, 14] V V41 := agV39.up hV41 rfl
          refine lv_aload_n hx hb dX9_begin_104 rfl (lv_at hl 1 rfl) ?_
          refine va_get (D := D) (ci := 9) (v := .ref (ad 11)) (fs := (xfTape ad V41 L7 Z)) (C := RX9) (T := TX9) (N := 12) hx hb hg inX9 hown hK hP 6 xgTape rfl 4 (by decide) (hg _ w256) (fun _ h9 => h9) rfl dX9_begin_105 ?_
          refine lv_aload_n hx hb dX9_begin_108 rfl (lv_at hl 1 rfl) ?_
          refine va_get (D := D) (ci := 9) (v := .int (V41 6 7)) (fs := (xfTape ad V41 L7 Z)) (C := RX9) (T := TX9) (N := 12) hx hb hg inX9 hown hK hP 6 xgTape rfl 7 (by decide) (hg _ w260) (fun _ h9 => h9) rfl dX9_begin_109 ?_
          refine g_top (v := (V6 6 7)) ((up2_o hV41 (by decide)).trans (up2_o hV39 (by decide))) ?_
          refine lv_lconst (v := 0) hx hb dX9_begin_112 (by decide) ?_
          refine va_last (D := D) (i := (V6 6 7)) (x := 0) hx hb hK hP hD hS 11 4 rfl rfl (i_in (a := ((V6 6 7)).toInt) rfl (by first | exact om_fe84a465e0a9 xlp8_1 r12.1 f36 | first | omega | ((try (have i_bp1 := Imp.go bp1 (by omega))); omega))) dX9_begin_113 (fun H locs hP hD hS => ?_)
          obtain ⟨L43, hL43⟩ : ∃ z, z = upL L7 14 (Int32.toNatClampNeg (V6 6 7)) 0 := ⟨_, rfl⟩
          have ew44 : (xw ad kk V41 L7 Z).set 11 ((ad 11), .inl ((kk 11), 4001, .inr (.inl (vp_updL (L7 14) (Int32.toNatClampNeg (V6 6 7)) 0)))) = xw ad kk V41 L43 Z := by rw [hL43]; exact xw_ss (by decide) rfl (fun j => xe_L (fun a => absurd a.1 (by decide)))
          have hP : va_P D vwCl (xw ad kk V41 L43 Z) H := by rw [← ew44]; exact hP
          have hD : va_D A (xw ad kk V41 L43 Z) := by rw [← ew44]; exact hD
          have alL43 : agL [6, 14] L L43 := agL.up alL7 hL43 rfl
          refine lv_aload_n hx hb dX9_begin_114 rfl (lv_at hl 1 rfl) ?_
          refine lv_iconst (v := 0) hx hb dX9_begin_115 (by decide) ?_
          refine va_put (D := D) (ci := 9) (v := .int 0) (ty := tyX9 8) (fs := (xfTape ad V41 L43 Z)) (C := RX9) (T := TX9) (N := 12) hx hb hg inX9 tyX9 tyX9_ok nmX9 hown hK hP hD hS 6 xgTape rfl 8 (by decide) (hg _ w261) (fun _ h9 => h9) rfl (tyX9_ok 8 (by decide)) rfl rfl (Nat.le_of_ble_eq_true rfl) dX9_begin_116 (fun H locs hP hD hS => ?_)
          obtain ⟨V45, hV45⟩ : ∃ z, z = up2 V41 6 8 0 := ⟨_, rfl⟩
          have ew46 : (xw ad kk V41 L43 Z).set 6 ((ad 6), .inr (9, (xfTape ad V41 L43 Z).set 8 (.int 0))) = xw ad kk V45 L43 Z := by rw [hV45]; exact xw_ss (by decide) rfl (xb_si (by decide))
          have hP : va_P D vwCl (xw ad kk V45 L43 Z) H := by rw [← ew46]; exact hP
          have hD : va_D A (xw ad kk V45 L43 Z) := by rw [← ew46]; exact hD
          have hMV45 : rgd bX V45 := hMV41.put hV45 (by decide)
          have agV45 : agr [(6, 6), (6, 7), (6, 8), (6, 9), (6, 10)] [12, 13, 14] V V45 := agV41.up hV45 rfl
          refine lv_aload_n hx hb dX9_begin_119 rfl (lv_at hl 1 rfl) ?_
          have pq47 : (V45 6 8).toInt = 0 := (congrArg Int32.toInt (up2_s hV45)).trans (by decide)
          have pq48 : (V45 6 7).toInt = ((V6 6 7)).toInt := congrArg Int32.toInt ((up2_k hV45 (by decide)).trans ((up2_o hV41 (by decide)).trans (up2_o hV39 (by decide))))
          refine gA_void (gA_runV (As := []) (rest := []) (ci := 9) (q0 := 6) hx hb hml hown hg hP hD hK hS hA hnw hgk (x_next2 l D ks H.size ad kk V45 L43 Z  hMV45 (show (V45 6 8).toInt ≤ (V45 6 7).toInt from by first | exact om_ff3fc84f1c65 r12.1 pq47 pq48 | first | omega | ((try (have i_bp1 := Imp.go bp1 (by omega))); omega))) w851 w852 w853 w157 w854 rfl xgTape hdV_yX9_next ⟨Nat.le_of_ble_eq_true rfl, Nat.le_of_ble_eq_true rfl⟩ rfl hl.1 rfl (Nat.le_of_ble_eq_true rfl) dX9_begin_120 ⟨Nat.le_of_ble_eq_true rfl, Nat.le_of_ble_eq_true rfl⟩) hP hD hK hS hA (fun u50 H locs w51 hP hD hK hS => ?_)
          obtain ⟨V54, L55⟩ := u50
          obtain ⟨hMV54, ajV54, axL55, t52, t53⟩ := w51
          have alL55 : agL [6, 14] L L55 := agL.tr alL43 axL55 (by decide)
          have hP : va_P D vwCl (xw ad kk V54 L55 Z) H := hP
          have hD : va_D A (xw ad kk V54 L55 Z) := hD
          have hMV54 : rgd bX V54 := hMV54
          have ajV54 : agr [(6, 8), (6, 9), (6, 10)] [] V45 V54 := ajV54
          have agV54 : agr [(6, 6), (6, 7), (6, 8), (6, 9), (6, 10)] [12, 13, 14] V V54 := agV45.tr ajV54 (by decide) (by decide)
          have t52 : (V54 6 8).toInt ≤ (V54 6 7).toInt := t52
          have t53 : CUR V54 L55 (Int32.toNatClampNeg (V45 6 8)) := t53
          have r56 : 0 ≤ ((V54 6 8)).toInt ∧ ((V54 6 8)).toInt ≤ 4000 := hMV54 6 8
          have pq57 : (V54 6 7).toInt = ((V6 6 7)).toInt := congrArg Int32.toInt ((ajV54 6 7 rfl).trans ((up2_k hV45 (by decide)).trans ((up2_o hV41 (by decide)).trans (up2_o hV39 (by decide)))))
          have kz58 := i_clamp (x := V6 6 7) rfl (by (first | exact om_eafa9039069c r12.1 | omega))
          have hcu : CUR V54 L55 0 := by have z9 := t53; rw [up2_s hV45] at z9; exact z9
          have rp59 : CTE V L V54 L55 := CTE.mk xlp8_3 hV39 hV41 hL43 (by rw [(funext (fun q => ajV54 12 q rfl) : V54 12 = V45 12), (up2_fo hV45 (by decide) : V45 12 = V41 12)] : V54 12 = V41 12) (by rw [(funext (fun q => ajV54 13 q rfl) : V54 13 = V45 13), (up2_fo hV45 (by decide) : V45 13 = V41 13)] : V54 13 = V41 13) (funext (fun q => axL55 14 q rfl)) (show V54 6 7 = V6 6 7 from ((ajV54 6 7 rfl).trans ((up2_k hV45 (by decide)).trans ((up2_o hV41 (by decide)).trans (up2_o hV39 (by decide)))))) (show V54 6 6 = V6 6 6 from ((ajV54 6 6 rfl).trans ((up2_k hV45 (by decide)).trans ((up2_o hV41 (by decide)).trans (up2_o hV39 (by decide)))))) rfl (by (first | exact om_c098d3e04c36 r12.1 kz58 | omega)) (by (first | exact om_8f99c9c57330 xlp8_0 pq9 f38 | omega)) hcu
          exact W.vret hx hb hr (fun t ht hW => ⟨⟨(V54, L55), rfl, ⟨hMV54, agV54, alL55, (show (V54 6 8).toInt ≤ (V54 6 7).toInt from by first | exact om_f4906d00fa52 t52 | first | omega | ((try (have i_bp1 := Imp.go bp1 (by omega))); omega)), rp59⟩, by rw [ht]; exact hP, va_K.moved hW.alike hK, hD⟩, hS.F ht⟩) hS.2.2 dX9_begin_123
        · skip
          have f60 : ((V6 6 6)).toInt < ((V 6 5)).toInt := b_nle rfl rfl c37
          refine lv_aload_n hx hb dX9_begin_30 rfl (lv_at hl 1 rfl) ?_
          refine va_get (D := D) (ci := 9) (v := .ref (ad 7)) (fs := (xfTape ad V6 L7 Z)) (C := RX9) (T := TX9) (N := 12) hx hb hg inX9 hown hK hP 6 xgTape rfl 0 (by decide) (hg _ w252) (fun _ h9 => h9) rfl dX9_begin_31 ?_
          refine lv_aload_n hx hb dX9_begin_34 rfl (lv_at hl 1 rfl) ?_
          refine va_get (D := D) (ci := 9) (v := .int (V6 6 6)) (fs := (xfTape ad V6 L7 Z)) (C := RX9) (T := TX9) (N := 12) hx hb hg inX9 hown hK hP 6 xgTape rfl 6 (by decide) (hg _ w259) (fun _ h9 => h9) rfl dX9_begin_35 ?_
          refine va_bald (D := D) (i := (V6 6 6)) hx hb hK hP 7 0 rfl rfl (i_in (a := ((V6 6 6)).toInt) rfl (by first | exact om_ae1ad81edeff r10.2 r11.1 f60 | first | omega | ((try (have i_bp1 := Imp.go bp1 (by omega))); omega))) dX9_begin_38 ?_
          refine g_top (v := (V 10 (Int32.toNatClampNeg (V6 6 6)))) ((ajV6 10 (Int32.toNatClampNeg (V6 6 6)) rfl).trans ((up2_o hV3 (by decide)).trans (up2_o hV1 (by decide)))) ?_
          refine lv_bipush (v := 32) hx hb dX9_begin_39 (by decide) ?_
          refine lv_icmp_eq (tgt := 58) hx hb dX9_begin_41 (by decide) (fun c61 => ?_) (fun c61 => ?_)
          · skip
            have f62 : ((V 10 (Int32.toNatClampNeg (V6 6 6)))).toInt = 32 := b_eq rfl (by decide) c61
            refine lv_aload_n hx hb dX9_begin_58 rfl (lv_at hl 1 rfl) ?_
            refine lv_dup hx hb dX9_begin_59 rfl ?_
            refine va_get (D := D) (ci := 9) (v := .int (V6 6 6)) (fs := (xfTape ad V6 L7 Z)) (C := RX9) (T := TX9) (N := 12) hx hb hg inX9 hown hK hP 6 xgTape rfl 6 (by decide) (hg _ w259) (fun _ h9 => h9) rfl dX9_begin_60 ?_
            refine lv_iconst (v := 1) hx hb dX9_begin_63 (by decide) ?_
            refine lv_iadd hx hb dX9_begin_64 ?_
            refine lv_topi (fun z63 ez63 => ?_)
            have hz63 : z63.toInt = ((V6 6 6)).toInt + 1 := i_add ez63 rfl (by decide) (by (first | exact om_60388b098aab r10.2 r11.1 f60 | omega))
            refine va_put (D := D) (ci := 9) (v := .int z63) (ty := tyX9 6) (fs := (xfTape ad V6 L7 Z)) (C := RX9) (T := TX9) (N := 12) hx hb hg inX9 tyX9 tyX9_ok nmX9 hown hK hP hD hS 6 xgTape rfl 6 (by decide) (hg _ w259) (fun _ h9 => h9) rfl (tyX9_ok 6 (by decide)) rfl rfl (Nat.le_of_ble_eq_true rfl) dX9_begin_65 (fun H locs hP hD hS => ?_)
            obtain ⟨V64, hV64⟩ : ∃ z, z = up2 V6 6 6 z63 := ⟨_, rfl⟩
            have ew65 : (xw ad kk V6 L7 Z).set 6 ((ad 6), .inr (9, (xfTape ad V6 L7 Z).set 6 (.int z63))) = xw ad kk V64 L7 Z := by rw [hV64]; exact xw_ss (by decide) rfl (xb_si (by decide))
            have hP : va_P D vwCl (xw ad kk V64 L7 Z) H := by rw [← ew65]; exact hP
            have hD : va_D A (xw ad kk V64 L7 Z) := by rw [← ew65]; exact hD
            have hMV64 : rgd bX V64 := hMV6.put hV64 (show 0 ≤ z63.toInt ∧ z63.toInt ≤ 4000 from by first | exact om_e23ddeb43246 r10.2 r11.1 f60 hz63 | first | omega | ((try (have i_bp1 := Imp.go bp1 (by omega))); omega))
            have agV64 : agr [(6, 6), (6, 7), (6, 8), (6, 9), (6, 10)] [12, 13, 14] V V64 := agV6.up hV64 rfl
            refine lv_goto (tgt := 75) hx hb dX9_begin_68 (by decide) ?_
            obtain ⟨z66, ez66⟩ : ∃ y : Int32, y = y5 + 1 := ⟨_, rfl⟩
            have hz66 : z66.toInt = y5.toInt + 1 := i_add ez66 rfl (by decide) (by (first | exact om_67c6ad613360 klp8_0.1 f36 | omega))
            refine lv_iinc (v := z66) (lv' := [(1, .int z66), (0, .ref (ad 6))]) hx hb dX9_begin_75 hl (k := 0) rfl (by rw [ez66]; rfl) (by decide) rfl (fun ls hl => ?_)
            refine lv_goto (tgt := 12) hx hb dX9_begin_78 (by decide) ?_
            have pq67 : (V64 6 5).toInt = ((V 6 5)).toInt := congrArg Int32.toInt ((up2_k hV64 (by decide)).trans ((ajV6 6 5 rfl).trans ((up2_k hV3 (by decide)).trans (up2_k hV1 (by decide)))))
            have pq68 : (V64 6 6).toInt = z63.toInt := congrArg Int32.toInt (up2_s hV64)
            have pq69 : (V64 6 7).toInt = ((V6 6 7)).toInt := congrArg Int32.toInt (up2_k hV64 (by decide))
            have kz70 := i_clamp (x := V6 6 6) rfl (by (first | exact om_eafa9039069c r11.1 | omega))
            have ez71 : (V6 6 6).toInt.toNat = Int32.toNatClampNeg (V6 6 6) := by (first | exact om_14d446f7993c r11.1 kz70 | omega)
            exact ihlp8 z66 V64 L7 H locs ls (by first | exact om_a72129a5d0e7 klp8_0.1 xlp8_2 r10.2 f60 hz66 | first | omega | ((try (have i_bp1 := Imp.go bp1 (by omega))); omega)) (show (V64 6 6).toInt ≤ (V64 6 5).toInt from by first | exact om_1257dc0753d6 f60 hz63 pq67 pq68 | first | omega | ((try (have i_bp1 := Imp.go bp1 (by omega))); omega)) (show (V64 6 7).toInt ≤ z66.toInt from by first | exact om_2cb4eafcf217 xlp8_1 hz66 pq69 | first | omega | ((try (have i_bp1 := Imp.go bp1 (by omega))); omega)) (show z66.toInt ≤ (V64 6 6).toInt from by first | exact om_ce335f784295 xlp8_2 hz63 hz66 pq68 | first | omega | ((try (have i_bp1 := Imp.go bp1 (by omega))); omega)) (CT.bl xlp8_3 hV64 (by first | exact om_55c67efb91e5 hz63 | first | omega | ((try (have i_bp1 := Imp.go bp1 (by omega))); omega)) (by (first | exact om_eafa9039069c r11.1 | omega)) (by (first | exact om_0e9116797efb f60 | omega)) (by rw [ez71]; unfold isBl; omega)) (by first | exact om_7390df9cc880 hn hz66 | first | omega | ((try (have i_bp1 := Imp.go bp1 (by omega))); omega)) alL7 (agr.up (agr.tr agr.rf ajV6 (by decide) (by decide)) hV64 rfl) hMV64 hP hD hS (lv_sub hl [0, 1] rfl)
          · skip
            have f72 : ((V 10 (Int32.toNatClampNeg (V6 6 6)))).toInt ≠ 32 := b_neq rfl (by decide) c61
            refine lv_aload_n hx hb dX9_begin_44 rfl (lv_at hl 1 rfl) ?_
            refine va_get (D := D) (ci := 9) (v := .ref (ad 7)) (fs := (xfTape ad V6 L7 Z)) (C := RX9) (T := TX9) (N := 12) hx hb hg inX9 hown hK hP 6 xgTape rfl 0 (by decide) (hg _ w252) (fun _ h9 => h9) rfl dX9_begin_45 ?_
            refine lv_aload_n hx hb dX9_begin_48 rfl (lv_at hl 1 rfl) ?_
            refine va_get (D := D) (ci := 9) (v := .int (V6 6 6)) (fs := (xfTape ad V6 L7 Z)) (C := RX9) (T := TX9) (N := 12) hx hb hg inX9 hown hK hP 6 xgTape rfl 6 (by decide) (hg _ w259) (fun _ h9 => h9) rfl dX9_begin_49 ?_
            refine va_bald (D := D) (i := (V6 6 6)) hx hb hK hP 7 0 rfl rfl (i_in (a := ((V6 6 6)).toInt) rfl (by first | exact om_ae1ad81edeff r10.2 r11.1 f60 | first | omega | ((try (have i_bp1 := Imp.go bp1 (by omega))); omega))) dX9_begin_52 ?_
            refine g_top (v := (V 10 (Int32.toNatClampNeg (V6 6 6)))) ((ajV6 10 (Int32.toNatClampNeg (V6 6 6)) rfl).trans ((up2_o hV3 (by decide)).trans (up2_o hV1 (by decide)))) ?_
            refine lv_bipush (v := 10) hx hb dX9_begin_53 (by decide) ?_
            refine lv_icmp_ne (tgt := 71) hx hb dX9_begin_55 (by decide) (fun c73 => ?_) (fun c73 => ?_)
            · skip
              have f74 : ((V 10 (Int32.toNatClampNeg (V6 6 6)))).toInt ≠ 10 := b_neq rfl (by decide) c73
              refine lv_aload_n hx hb dX9_begin_71 rfl (lv_at hl 1 rfl) ?_
              refine gA_void (gA_runV (As := []) (rest := []) (ci := 9) (q0 := 6) hx hb hml hown hg hP hD hK hS hA hnw hgk (x_cut2 l D ks H.size ad kk V6 L7 Z ((V6 6 6).toInt.toNat) hMV6 (show (V6 6 6).toInt < (V6 6 5).toInt from by first | exact om_f33e638bd498 pq9 f60 | first | omega | ((try (have i_bp1 := Imp.go bp1 (by omega))); omega)) (show (V6 6 7).toInt ≤ 3999 from by first | exact om_43b3f9a4c39f xlp8_1 f36 | first | omega | ((try (have i_bp1 := Imp.go bp1 (by omega))); omega)) (show (V6 6 6).toInt = (((V6 6 6).toInt.toNat) : Int) from by first | exact om_bb68b85f87a5 r11.1 | first | omega | ((try (have i_bp1 := Imp.go bp1 (by omega))); omega)) (by rw [(by rw [(funext (fun q => ajV6 10 q rfl) : V6 10 = V3 10), (up2_fo hV3 (by decide) : V3 10 = V1 10), (up2_fo hV1 (by decide) : V1 10 = V 10)] : V6 10 = V 10)]; exact bp1 _ (by omega))) w770 w772 w0 w157 w773 rfl xgTape hdV_yX9_cut ⟨Nat.le_of_ble_eq_true rfl, Nat.le_of_ble_eq_true rfl⟩ rfl hl.1 rfl (Nat.le_of_ble_eq_true rfl) dX9_begin_72 ⟨Nat.le_of_ble_eq_true rfl, Nat.le_of_ble_eq_true rfl⟩) hP hD hK hS hA (fun u76 H locs w77 hP hD hK hS => ?_)
              obtain ⟨V82, L83⟩ := u76
              obtain ⟨hMV82, ajV82, axL83, t78, t79, t80, t81⟩ := w77
              have alL83 : agL [6, 14] L L83 := agL.tr alL7 axL83 (by decide)
              have hP : va_P D vwCl (xw ad kk V82 L83 Z) H := hP
              have hD : va_D A (xw ad kk V82 L83 Z) := hD
              have hMV82 : rgd bX V82 := hMV82
              have ajV82 : agr [(6, 6), (6, 7)] [12, 13, 14] V6 V82 := ajV82
              have agV82 : agr [(6, 6), (6, 7), (6, 8), (6, 9), (6, 10)] [12, 13, 14] V V82 := agV6.tr ajV82 (by decide) (by decide)
              have t78 : (V82 6 6).toInt ≤ (V82 6 5).toInt := t78
              have t79 : (V82 6 7).toInt = (V6 6 7).toInt + 1 := t79
              have t80 : CUT V6 V82 L7 L83 ((V6 6 6).toInt.toNat) (Int32.toNatClampNeg (V6 6 7)) := t80
              have t81 : (V6 6 6).toInt + 1 ≤ (V82 6 6).toInt := t81
              have pq84 : (V82 6 5).toInt = ((V 6 5)).toInt := congrArg Int32.toInt ((ajV82 6 5 rfl).trans ((ajV6 6 5 rfl).trans ((up2_k hV3 (by decide)).trans (up2_k hV1 (by decide)))))
              have r85 : 0 ≤ ((V82 6 6)).toInt ∧ ((V82 6 6)).toInt ≤ 4000 := hMV82 6 6
              have r86 : 0 ≤ ((V82 6 7)).toInt ∧ ((V82 6 7)).toInt ≤ 4000 := hMV82 6 7
              obtain ⟨z87, ez87⟩ : ∃ y : Int32, y = y5 + 1 := ⟨_, rfl⟩
              have hz87 : z87.toInt = y5.toInt + 1 := i_add ez87 rfl (by decide) (by (first | exact om_b5e2203eea92 xlp8_1 r12.1 f36 | omega))
              refine lv_iinc (v := z87) (lv' := [(1, .int z87), (0, .ref (ad 6))]) hx hb dX9_begin_75 hl (k := 0) rfl (by rw [ez87]; rfl) (by decide) rfl (fun ls hl => ?_)
              refine lv_goto (tgt := 12) hx hb dX9_begin_78 (by decide) ?_
              have kz88 := i_clamp (x := V6 6 6) rfl (by (first | exact om_4f46abbfee0e xlp8_1 xlp8_2 r12.1 | omega))
              have ez89 : (V6 6 6).toInt.toNat = Int32.toNatClampNeg (V6 6 6) := by (first | exact om_2b3171b6437e xlp8_1 xlp8_2 r12.1 kz88 | omega)
              have kz90 := i_clamp (x := V6 6 7) rfl (by (first | exact om_eafa9039069c r12.1 | omega))
              exact ihlp8 z87 V82 L83 H locs ls (by first | exact om_d05bf1274801 klp8_0.1 xlp8_2 t81 r85.2 hz87 | first | omega | ((try (have i_bp1 := Imp.go bp1 (by omega))); omega)) (show (V82 6 6).toInt ≤ (V82 6 5).toInt from by first | exact om_f4906d00fa52 t78 | first | omega | ((try (have i_bp1 := Imp.go bp1 (by omega))); omega)) (show (V82 6 7).toInt ≤ z87.toInt from by first | exact om_953ed16b636a xlp8_1 t79 hz87 | first | omega | ((try (have i_bp1 := Imp.go bp1 (by omega))); omega)) (show z87.toInt ≤ (V82 6 6).toInt from by first | exact om_9040f9b0dfde xlp8_2 t81 hz87 | first | omega | ((try (have i_bp1 := Imp.go bp1 (by omega))); omega)) (CT.tk xlp8_3 t80 (by (first | exact om_c098d3e04c36 r12.1 kz90 | omega)) (by (first | exact om_55c67efb91e5 t79 | omega)) (by (first | exact om_eafa9039069c r12.1 | omega)) (by rw [(funext (fun q => ajV6 10 q rfl) : V6 10 = V3 10), (up2_fo hV3 (by decide) : V3 10 = V1 10), (up2_fo hV1 (by decide) : V1 10 = V 10)] : V6 10 = V 10) (show V6 6 5 = V 6 5 from ((ajV6 6 5 rfl).trans ((up2_k hV3 (by decide)).trans (up2_k hV1 (by decide))))) (funext (fun q => alL7 11 q rfl)) (by rw [ez89]; unfold isBl; omega)) (by first | exact om_7390df9cc880 hn hz87 | first | omega | ((try (have i_bp1 := Imp.go bp1 (by omega))); omega)) alL83 (agr.tr (agr.tr agr.rf ajV6 (by decide) (by decide)) ajV82 (by decide) (by decide)) hMV82 hP hD hS (lv_sub hl [0, 1] rfl)
            · skip
              have f91 : ((V 10 (Int32.toNatClampNeg (V6 6 6)))).toInt = 10 := b_eq rfl (by decide) c73
              refine lv_aload_n hx hb dX9_begin_58 rfl (lv_at hl 1 rfl) ?_
              refine lv_dup hx hb dX9_begin_59 rfl ?_
              refine va_get (D := D) (ci := 9) (v := .int (V6 6 6)) (fs := (xfTape ad V6 L7 Z)) (C := RX9) (T := TX9) (N := 12) hx hb hg inX9 hown hK hP 6 xgTape rfl 6 (by decide) (hg _ w259) (fun _ h9 => h9) rfl dX9_begin_60 ?_
              refine lv_iconst (v := 1) hx hb dX9_begin_63 (by decide) ?_
              refine lv_iadd hx hb dX9_begin_64 ?_
              refine lv_topi (fun z92 ez92 => ?_)
              have hz92 : z92.toInt = ((V6 6 6)).toInt + 1 := i_add ez92 rfl (by decide) (by (first | exact om_60388b098aab r10.2 r11.1 f60 | omega))
              refine va_put (D := D) (ci := 9) (v := .int z92) (ty := tyX9 6) (fs := (xfTape ad V6 L7 Z)) (C := RX9) (T := TX9) (N := 12) hx hb hg inX9 tyX9 tyX9_ok nmX9 hown hK hP hD hS 6 xgTape rfl 6 (by decide) (hg _ w259) (fun _ h9 => h9) rfl (tyX9_ok 6 (by decide)) rfl rfl (Nat.le_of_ble_eq_true rfl) dX9_begin_65 (fun H locs hP hD hS => ?_)
              obtain ⟨V93, hV93⟩ : ∃ z, z = up2 V6 6 6 z92 := ⟨_, rfl⟩
              have ew94 : (xw ad kk V6 L7 Z).set 6 ((ad 6), .inr (9, (xfTape ad V6 L7 Z).set 6 (.int z92))) = xw ad kk V93 L7 Z := by rw [hV93]; exact xw_ss (by decide) rfl (xb_si (by decide))
              have hP : va_P D vwCl (xw ad kk V93 L7 Z) H := by rw [← ew94]; exact hP
              have hD : va_D A (xw ad kk V93 L7 Z) := by rw [← ew94]; exact hD
              have hMV93 : rgd bX V93 := hMV6.put hV93 (show 0 ≤ z92.toInt ∧ z92.toInt ≤ 4000 from by first | exact om_e23ddeb43246 r10.2 r11.1 f60 hz92 | first | omega | ((try (have i_bp1 := Imp.go bp1 (by omega))); omega))
              have agV93 : agr [(6, 6), (6, 7), (6, 8), (6, 9), (6, 10)] [12, 13, 14] V V93 := agV6.up hV93 rfl
              refine lv_goto (tgt := 75) hx hb dX9_begin_68 (by decide) ?_
              obtain ⟨z95, ez95⟩ : ∃ y : Int32, y = y5 + 1 := ⟨_, rfl⟩
              have hz95 : z95.toInt = y5.toInt + 1 := i_add ez95 rfl (by decide) (by (first | exact om_67c6ad613360 klp8_0.1 f36 | omega))
              refine lv_iinc (v := z95) (lv' := [(1, .int z95), (0, .ref (ad 6))]) hx hb dX9_begin_75 hl (k := 0) rfl (by rw [ez95]; rfl) (by decide) rfl (fun ls hl => ?_)
              refine lv_goto (tgt := 12) hx hb dX9_begin_78 (by decide) ?_
              have pq96 : (V93 6 5).toInt = ((V 6 5)).toInt := congrArg Int32.toInt ((up2_k hV93 (by decide)).trans ((ajV6 6 5 rfl).trans ((up2_k hV3 (by decide)).trans (up2_k hV1 (by decide)))))
              have pq97 : (V93 6 6).toInt = z92.toInt := congrArg Int32.toInt (up2_s hV93)
              have pq98 : (V93 6 7).toInt = ((V6 6 7)).toInt := congrArg Int32.toInt (up2_k hV93 (by decide))
              have kz99 := i_clamp (x := V6 6 6) rfl (by (first | exact om_eafa9039069c r11.1 | omega))
              have ez100 : (V6 6 6).toInt.toNat = Int32.toNatClampNeg (V6 6 6) := by (first | exact om_14d446f7993c r11.1 kz99 | omega)
              exact ihlp8 z95 V93 L7 H locs ls (by first | exact om_a72129a5d0e7 klp8_0.1 xlp8_2 r10.2 f60 hz95 | first | omega | ((try (have i_bp1 := Imp.go bp1 (by omega))); omega)) (show (V93 6 6).toInt ≤ (V93 6 5).toInt from by first | exact om_1257dc0753d6 f60 hz92 pq96 pq97 | first | omega | ((try (have i_bp1 := Imp.go bp1 (by omega))); omega)) (show (V93 6 7).toInt ≤ z95.toInt from by first | exact om_2cb4eafcf217 xlp8_1 hz95 pq98 | first | omega | ((try (have i_bp1 := Imp.go bp1 (by omega))); omega)) (show z95.toInt ≤ (V93 6 6).toInt from by first | exact om_ce335f784295 xlp8_2 hz92 hz95 pq97 | first | omega | ((try (have i_bp1 := Imp.go bp1 (by omega))); omega)) (CT.bl xlp8_3 hV93 (by first | exact om_55c67efb91e5 hz92 | first | omega | ((try (have i_bp1 := Imp.go bp1 (by omega))); omega)) (by (first | exact om_eafa9039069c r11.1 | omega)) (by (first | exact om_0e9116797efb f60 | omega)) (by rw [ez100]; unfold isBl; omega)) (by first | exact om_7390df9cc880 hn hz95 | first | omega | ((try (have i_bp1 := Imp.go bp1 (by omega))); omega)) alL7 (agr.up (agr.tr agr.rf ajV6 (by decide) (by decide)) hV93 rfl) hMV93 hP hD hS (lv_sub hl [0, 1] rfl)
  have r101 : Int32.toInt 0 = 0 := by decide
  have pq102 : (V3 6 5).toInt = ((V 6 5)).toInt := congrArg Int32.toInt ((up2_k hV3 (by decide)).trans (up2_k hV1 (by decide)))
  have r103 : 0 ≤ ((V 6 5)).toInt ∧ ((V 6 5)).toInt ≤ 4000 := hMV 6 5
  have pq104 : (V3 6 6).toInt = 0 := (congrArg Int32.toInt ((up2_k hV3 (by decide)).trans (up2_s hV1))).trans (by decide)
  have pq105 : (V3 6 7).toInt = 0 := (congrArg Int32.toInt (up2_s hV3)).trans (by decide)
  exact lp8 ((4000 - (Int32.toInt 0) + 1 : Int).toNat) 0 V3 L H locs ls (by decide) (show (V3 6 6).toInt ≤ (V3 6 5).toInt from by first | exact om_b0eb2bb83bb7 pq102 r103.1 pq104 | first | omega | ((try (have i_bp1 := Imp.go bp1 (by omega))); omega)) (show (V3 6 7).toInt ≤ (Int32.toInt 0) from by first | exact om_0df9ae17f00b r101 pq105 | first | omega | ((try (have i_bp1 := Imp.go bp1 (by omega))); omega)) (show (Int32.toInt 0) ≤ (V3 6 6).toInt from by first | exact om_4f4755e15199 r101 pq104 | first | omega | ((try (have i_bp1 := Imp.go bp1 (by omega))); omega)) (CT.z (by omega) (by omega)) (by first | exact om_be7e3b1de7fd | first | omega | ((try (have i_bp1 := Imp.go bp1 (by omega))); omega)) alL agr.rf hMV3 hP hD hS (lv_sub hl [0, 1] rfl)
end
