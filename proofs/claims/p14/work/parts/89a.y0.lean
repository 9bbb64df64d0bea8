/-! what the tape holds -/
def wrF (s : Int32) (k : Nat) (f : Nat → Int32) : Nat → Int32 := if (s = 10 ∨ (32 ≤ s ∧ s ≤ 126)) ∧ k < 4000 then upd f k s else f
def apF (g : Int64 → Int32 → Int32) : Nat → Int64 → Nat → (Nat → Int32) → (Nat → Int32)
  | 0, _, _, f => f
  | n + 1, v, k, f => apF g n v (stp (g v (shv (n + 1))) k) (wrF (g v (shv (n + 1))) k f)
theorem wrF_i {z : Int32} {k : Nat} {f : Nat → Int32} (h : z.toInt = 10 ∨ (32 ≤ z.toInt ∧ z.toInt ≤ 126)) (hk : k < 4000) : wrF z k f = upd f k z := if_pos ⟨h.elim (fun q => Or.inl (Int32.toInt_inj.mp q)) (fun q => Or.inr ⟨Int32.le_iff_toInt_le.mpr q.1, Int32.le_iff_toInt_le.mpr q.2⟩), hk⟩
theorem wrF_j {z : Int32} {k : Nat} {f : Nat → Int32} (h : (z.toInt ≠ 10 ∧ (z.toInt < 32 ∨ 126 < z.toInt)) ∨ 4000 ≤ k) : wrF z k f = f := if_neg (fun q => by
  rcases h with h | h
  · rcases q.1 with a | a
    · exact h.1 (by rw [a]; decide)
    · have b1 := Int32.le_iff_toInt_le.mp a.1
      have b2 := Int32.le_iff_toInt_le.mp a.2
      have c1 : Int32.toInt 32 = 32 := by decide
      have c2 : Int32.toInt 126 = 126 := by decide
      omega
  · have := q.2
    omega)
theorem apF_s (g : Int64 → Int32 → Int32) (n : Nat) (v : Int64) (k : Nat) (f : Nat → Int32) : apF g (n + 1) v k f = apF g n v (stp (g v (shv (n + 1))) k) (wrF (g v (shv (n + 1))) k f) := rfl
theorem apF_g {g h : Int64 → Int32 → Int32} {v : Int64} (n : Nat) : ∀ (k : Nat) (f : Nat → Int32), (∀ m, m < n → g v (shv (m + 1)) = h v (shv (m + 1))) → apF g n v k f = apF h n v k f := by
  induction n with
  | zero => intro k f _; rfl
  | succ n ih =>
    intro k f e
    rw [apF_s, apF_s, e n (Nat.lt_succ_self n)]
    exact ih _ _ (fun m hm => e m (Nat.lt_succ_of_lt hm))
theorem apF_cm (v : Int64) (k : Nat) (f : Nat → Int32) : apF sgc 8 v k f = apF sgm 8 v k f := apF_g 8 k f (fun m hm => sgc_sgm v m hm)
def eqB (k : Nat) (f g : Nat → Int32) : Prop := ∀ q, q < k → f q = g q
theorem eqB.wr {s : Int32} {k : Nat} {f g : Nat → Int32} (h : eqB k f g) : eqB (stp s k) (wrF s k f) (wrF s k g) := by
  unfold stp wrF
  by_cases c : (s = 10 ∨ (32 ≤ s ∧ s ≤ 126)) ∧ k < 4000
  · rw [if_pos c, if_pos c, if_pos c]
    intro q hq
    show (if q = k then s else f q) = (if q = k then s else g q)
    by_cases e : q = k
    · rw [if_pos e, if_pos e]
    · rw [if_neg e, if_neg e]
      exact h q (by omega)
  · rw [if_neg c, if_neg c, if_neg c]
    exact h
theorem eqB.ap (n : Nat) : ∀ (v : Int64) (k : Nat) (f g : Nat → Int32), eqB k f g → eqB (apk n v k) (apF sgc n v k f) (apF sgc n v k g) := by
  induction n with
  | zero => intro v k f g h; exact h
  | succ n ih => intro v k f g h; exact ih v _ _ _ h.wr
theorem up2_fn {V W : Vf} {c k : Nat} {v : Int32} (h : W = up2 V c k v) : W c = upd (V c) k v := by
  rw [h]
  unfold up2
  rw [if_pos rfl]
theorem up2_fo {V W : Vf} {c k c' : Nat} {v : Int32} (h : W = up2 V c k v) (hc : c' ≠ c) : W c' = V c' := by
  rw [h]
  exact up2_ne hc
theorem nar_l : ∀ n, n < 127 → vp_nar .byte ((nI n).toInt8.toInt32) = nI n := by decide +kernel
theorem nar_z {z w : Int32} (e : w = z.toInt8.toInt32) (h : z.toInt = 10 ∨ (32 ≤ z.toInt ∧ z.toInt ≤ 126)) : vp_nar .byte w = z := by
  have hz : z = nI z.toInt.toNat := Int32.toInt_inj.mp (by rw [nI_toInt (by omega)]; omega)
  rw [e, hz]
  exact nar_l _ (by omega)


abbrev r_x_append2 : Room := { frames := 0, cells := 0, slots := 0, locals := 0 }
abbrev q_x_append2 (D : va_G) (ks : KS) (ad : Nat → Nat) (kk : Nat → ClassId) (V : Vf) (L : Lf) (Z : XZ) (p0 : Int64) (k0 : Nat) (A : Nat → Prop) : Array Value → State → Outcome → State → Prop := va_Qv (fun (u : Vf × Lf) => rgd bX u.1 ∧ agr [(6, 5)] [10] V u.1 ∧ u.2 = L ∧ ((u.1 6 5).toInt = ((apk 8 p0 k0 : Nat) : Int)) ∧ ((u.1 10) = apF sgc 8 p0 k0 (V 10))) (fun u t => gq D A (xw ad kk u.1 u.2 Z) (xty kk Z) t) A
set_option maxHeartbeats 4000000 in
set_option maxRecDepth 100000 in
theorem x_append2 (l : Launch) (D : va_G) (ks : KS) (sz : Nat) (ad : Nat → Nat) (kk : Nat → ClassId) (V : Vf) (L : Lf) (Z : XZ) (p0 : Int64) (k0 : Nat) (hMV : rgd bX V) (y1 : (V 6 5).toInt = (k0 : Int))  : Met l yX9_append (Cond.code yX9_append cX9_append 6 none :: GW) r_x_append2 (va_Pc [.ref (ad 6), .long p0] (gp D ks (xw ad kk V L Z) (xty kk Z) sz)) (q_x_append2 D ks ad kk V L Z p0 k0 (va_A (xw ad kk V L Z) sz)) 0 0 (va_A (xw ad kk V L Z) sz) := by
  refine g_met (q_x_append2 D ks ad kk V L Z p0 k0) (by decide) (Nat.le_of_ble_eq_true rfl) ?_
  intro p e s m below meth c A ls H locs hx hb hr hml hown hg hlocks hin hnw hgk hP hK hD hS hA hl
  have hown : s.vm.findClass RX9 = some m.cls := hown
  have hl : lv_has ls 6 [(0, .ref (ad 6)), (1, .long p0)] := hl
  have hP : va_P D vwCl (xw ad kk V L Z) H := hP
  have hD : va_D A (xw ad kk V L Z) := hD
  have hK : va_K D vwCl (xty kk Z) s := hK
  have agV : agr [(6, 5)] [10] V V := agr.rf
  have r1 : 0 ≤ ((V 6 5)).toInt ∧ ((V 6 5)).toInt ≤ 4000 := hMV 6 5
  refine lv_bipush (v := 56) hx hb dX9_append_0 (by decide) ?_
  refine lv_istore_n (lv' := [(3, .int 56), (0, .ref (ad 6)), (1, .long p0)]) hx hb dX9_append_2 rfl hl (by decide) rfl (fun ls hl => ?_)
  have lp4 : ∀ (fulp4 : Nat) (jg : Nat) (kg : Nat) (y2 : Int32) (V3 : Vf) (H : Heap) (locs : List Loc) (ls : Array Slot), (-8) ≤ y2.toInt ∧ y2.toInt ≤ 56 → y2.toInt = 8 * ((jg : Nat) : Int) - 8 → jg ≤ 8 → (V3 6 5).toInt = ((kg : Nat) : Int) → kg ≤ 4000 → apk jg p0 kg = apk 8 p0 k0 → apF sgc jg p0 kg (V3 10) = apF sgc 8 p0 k0 (V 10) → y2.toInt + 8 < (fulp4 : Int) → agr [(6, 5)] [10] V V3 → rgd bX V3 → va_P D vwCl (xw ad kk V3 L Z) H → va_D A (xw ad kk V3 L Z) → va_S A s.heap H locs → lv_has ls 6 [(3, .int y2), (0, .ref (ad 6)), (1, .long p0)] → W p l e r_x_append2 s m ([.ref (ad 6), .long p0] : List Value).toArray below meth c H locs 0 0 (MQ below (q_x_append2 D ks ad kk V L Z p0 k0 A) ([.ref (ad 6), .long p0] : List Value).toArray s 0 0 A) (F0 m 3 ls []) := by
    intro fulp4
    induction fulp4 with
    | zero =>
      intro jg kg y2 V3 H locs ls klp4_0 xlp4_0 xlp4_1 xlp4_2 xlp4_3 xlp4_4 xlp4_5 hn ajV3 hMV3 hP hD hS hl
      exfalso; omega
    | succ fulp4 ihlp4 =>
      intro jg kg y2 V3 H locs ls klp4_0 xlp4_0 xlp4_1 xlp4_2 xlp4_3 xlp4_4 xlp4_5 hn ajV3 hMV3 hP hD hS hl
      have agV3 : agr [(6, 5)] [10] V V3 := agV.tr ajV3 (by decide) (by decide)
      have r5 : 0 ≤ ((V3 6 5)).toInt ∧ ((V3 6 5)).toInt ≤ 4000 := hMV3 6 5
      refine lv_iload_n hx hb dX9_append_3 rfl (lv_at hl 0 rfl) ?_
      refine lv_if_lt (tgt := 85) hx hb dX9_append_4 (by decide) (fun c6 => ?_) (fun c6 => ?_)
      · skip
        have f7 : y2.toInt < 0 := b_lt rfl (by decide) c6
        exact W.vret hx hb hr (fun t ht hW => ⟨⟨(V3, L), rfl, ⟨hMV3, agV3, rfl, (by have hz : jg = 0 := (by omega); subst hz; have hz2 : kg = apk 8 p0 k0 := xlp4_4; show (V3 6 5).toInt = _; rw [← hz2]; omega), (by have hz : jg = 0 := (by omega); subst hz; show V3 10 = _; exact xlp4_5)⟩, by rw [ht]; exact hP, va_K.moved hW.alike hK, hD⟩, hS.F ht⟩) hS.2.2 dX9_append_85
      · skip
        have f8 : 0 ≤ y2.toInt := b_nlt rfl (by decide) c6
        obtain ⟨j, rfl⟩ : ∃ j, jg = j + 1 := ⟨jg - 1, by omega⟩
        refine lv_lload_n hx hb dX9_append_7 rfl (lv_at hl 2 rfl) ?_
        refine lv_iload_n hx hb dX9_append_8 rfl (lv_at hl 0 rfl) ?_
        refine lv_lushr hx hb dX9_append_9 rfl ?_
        refine lv_topl (fun w9 ew9 => ?_)
        refine lv_l2i hx hb dX9_append_10 rfl ?_
        refine lv_topi (fun z10 ez10 => ?_)
        refine lv_sipush (v := 255) hx hb dX9_append_11 (by decide) ?_
        refine lv_iand hx hb dX9_append_14 ?_
        refine lv_topi (fun z11 ez11 => ?_)
        have hz11 : 0 ≤ z11.toInt ∧ z11.toInt ≤ 255 := and_m ez11 (by decide)
        have es : z11 = sgc p0 y2 := by rw [ez11, ez10, ew9]; rfl
        have ey : y2 = shv (j + 1) := Int32.toInt_inj.mp (by rw [shv_toInt (j + 1) (by omega)]; omega)
        refine lv_istore (lv' := [(4, .int z11), (3, .int y2), (0, .ref (ad 6)), (1, .long p0)]) hx hb dX9_append_15 hl (by decide) rfl (fun ls hl => ?_)
        refine lv_iload hx hb dX9_append_17 (lv_at hl 0 rfl) ?_
        refine lv_bipush (v := 10) hx hb dX9_append_19 (by decide) ?_
        refine lv_icmp_eq (tgt := 38) hx hb dX9_append_21 (by decide) (fun c12 => ?_) (fun c12 => ?_)
        · skip
          have f13 : z11.toInt = 10 := b_eq rfl (by decide) c12
          refine lv_iconst (v := 1) hx hb dX9_append_38 (by decide) ?_
          refine lv_goto (tgt := 43) hx hb dX9_append_39 (by decide) ?_
          refine lv_istore (lv' := [(5, .int 1), (4, .int z11), (3, .int y2), (0, .ref (ad 6)), (1, .long p0)]) hx hb dX9_append_43 hl (by decide) rfl (fun ls hl => ?_)
          refine lv_iload hx hb dX9_append_45 (lv_at hl 0 rfl) ?_
          refine lv_if_eq (tgt := 79) hx hb dX9_append_47 (by decide) (fun q => absurd q (by decide)) (fun _ => ?_)
          refine lv_aload_n hx hb dX9_append_50 rfl (lv_at hl 3 rfl) ?_
          refine va_get (D := D) (ci := 9) (v := .int (V3 6 5)) (fs := (xfTape ad V3 L Z)) (C := RX9) (T := TX9) (N := 12) hx hb hg inX9 hown hK hP 6 xgTape rfl 5 (by decide) (hg _ w258) (fun _ h9 => h9) rfl dX9_append_51 ?_
          refine lv_sipush (v := 4000) hx hb dX9_append_54 (by decide) ?_
          refine lv_icmp_ge (tgt := 79) hx hb dX9_append_57 (by decide) (fun c14 => ?_) (fun c14 => ?_)
          · skip
            have f15 : 4000 ≤ ((V3 6 5)).toInt := b_le (by decide) rfl c14
            obtain ⟨z16, ez16⟩ : ∃ y : Int32, y = y2 + (-8) := ⟨_, rfl⟩
            have hz16 : z16.toInt = y2.toInt + (-8) := i_add ez16 rfl (by decide) (by (first | exact om_cd1367a02e57 klp4_0.2 f8 | omega))
            refine lv_iinc (v := z16) (lv' := [(3, .int z16), (5, .int 1), (4, .int z11), (0, .ref (ad 6)), (1, .long p0)]) hx hb dX9_append_79 hl (k := 2) rfl (by rw [ez16]; rfl) (by decide) rfl (fun ls hl => ?_)
            refine lv_goto (tgt := 3) hx hb dX9_append_82 (by decide) ?_
            have r17 : Int32.toInt 1 = 1 := by decide
            have ef18 : V3 10 = V3 10 := rfl
            exact ihlp4 (j) (kg) z16 V3 H locs ls (by (first | exact om_0850c42f4b69 klp4_0.2 f8 hz16 | omega)) (show z16.toInt = 8 * ((j : Nat) : Int) - 8 from by omega) (show j ≤ 8 from by omega) (show (V3 6 5).toInt = ((kg : Nat) : Int) from by (first | exact om_e4dc208c913d xlp4_2 xlp4_3 f15 | omega)) (show kg ≤ 4000 from by (first | exact om_af64e361c991 xlp4_3 | omega)) (by rw [← xlp4_4]; show _ = apk j p0 (stp (sgc p0 (shv (j + 1))) kg); rw [← ey, ← es, stp_j (by omega)]) (by rw [ef18, ← xlp4_5]; show _ = apF sgc j p0 (stp (sgc p0 (shv (j + 1))) kg) (wrF (sgc p0 (shv (j + 1))) kg (V3 10)); rw [← ey, ← es, stp_j (by omega), wrF_j (by omega)]) (by (first | exact om_74a39192ceaa hn hz16 | omega)) (agr.tr agr.rf ajV3 (by decide) (by decide)) hMV3 hP hD hS (lv_sub hl [0, 3, 4] rfl)
          · skip
            have f19 : ((V3 6 5)).toInt < 4000 := b_nle (by decide) rfl c14
            refine lv_aload_n hx hb dX9_append_60 rfl (lv_at hl 3 rfl) ?_
            refine va_get (D := D) (ci := 9) (v := .ref (ad 7)) (fs := (xfTape ad V3 L Z)) (C := RX9) (T := TX9) (N := 12) hx hb hg inX9 hown hK hP 6 xgTape rfl 0 (by decide) (hg _ w252) (fun _ h9 => h9) rfl dX9_append_61 ?_
            refine lv_aload_n hx hb dX9_append_64 rfl (lv_at hl 3 rfl) ?_
            refine lv_dup hx hb dX9_append_65 rfl ?_
            refine va_get (D := D) (ci := 9) (v := .int (V3 6 5)) (fs := (xfTape ad V3 L Z)) (C := RX9) (T := TX9) (N := 12) hx hb hg inX9 hown hK hP 6 xgTape rfl 5 (by decide) (hg _ w258) (fun _ h9 => h9) rfl dX9_append_66 ?_
            refine lv_dup_x1 hx hb dX9_append_69 rfl rfl ?_
            refine lv_iconst (v := 1) hx hb dX9_append_70 (by decide) ?_
            refine lv_iadd hx hb dX9_append_71 ?_
            refine lv_topi (fun z20 ez20 => ?_)
            have hz20 : z20.toInt = ((V3 6 5)).toInt + 1 := i_add ez20 rfl (by decide) (by (first | exact om_67c6ad613360 r5.1 f19 | omega))
            refine va_put (D := D) (ci := 9) (v := .int z20) (ty := tyX9 5) (fs := (xfTape ad V3 L Z)) (C := RX9) (T := TX9) (N := 12) hx hb hg inX9 tyX9 tyX9_ok nmX9 hown hK hP hD hS 6 xgTape rfl 5 (by decide) (hg _ w258) (fun _ h9 => h9) rfl (tyX9_ok 5 (by decide)) rfl rfl (Nat.le_of_ble_eq_true rfl) dX9_append_72 (fun H locs hP hD hS => ?_)
            obtain ⟨V21, hV21⟩ : ∃ z, z = up2 V3 6 5 z20 := ⟨_, rfl⟩
            have ew22 : (xw ad kk V3 L Z).set 6 ((ad 6), .inr (9, (xfTape ad V3 L Z).set 5 (.int z20))) = xw ad kk V21 L Z := by rw [hV21]; exact xw_ss (by decide) rfl (xb_si (by decide))
            have hP : va_P D vwCl (xw ad kk V21 L Z) H := by rw [← ew22]; exact hP
            have hD : va_D A (xw ad kk V21 L Z) := by rw [← ew22]; exact hD
            have hMV21 : rgd bX V21 := hMV3.put hV21 (show 0 ≤ z20.toInt ∧ z20.toInt ≤ 4000 from by (first | exact om_44a0a3faffcf r5.1 f19 hz20 | omega))
            have agV21 : agr [(6, 5)] [10] V V21 := agV3.up hV21 rfl
            refine lv_iload hx hb dX9_append_75 (lv_at hl 1 rfl) ?_
            refine lv_i2b hx hb dX9_append_77 rfl ?_
            refine lv_topi (fun z23 ez23 => ?_)
            refine va_bast (D := D) (i := (V3 6 5)) (x := z23) hx hb hK hP hD hS 7 0 rfl rfl (i_in (a := ((V3 6 5)).toInt) rfl (by omega)) dX9_append_78 (fun H locs hP hD hS => ?_)
            obtain ⟨V24, hV24⟩ : ∃ z, z = up2 V21 10 (Int32.toNatClampNeg (V3 6 5)) (vp_nar .byte z23) := ⟨_, rfl⟩
            have ew25 : (xw ad kk V21 L Z).set 7 ((ad 7), .inl ((kk 7), 4000, .inl (upd (V21 10) (Int32.toNatClampNeg (V3 6 5)) (vp_nar .byte z23)))) = xw ad kk V24 L Z := by rw [hV24]; exact xw_ss (by decide) rfl (xb_si (by decide))
            have hP : va_P D vwCl (xw ad kk V24 L Z) H := by rw [← ew25]; exact hP
            have hD : va_D A (xw ad kk V24 L Z) := by rw [← ew25]; exact hD
            have hMV24 : rgd bX V24 := hMV21.put hV24 (i_full _)
            have agV24 : agr [(6, 5)] [10] V V24 := agV21.up hV24 rfl
            obtain ⟨z26, ez26⟩ : ∃ y : Int32, y = y2 + (-8) := ⟨_, rfl⟩
            have hz26 : z26.toInt = y2.toInt + (-8) := i_add ez26 rfl (by decide) (by (first | exact om_cd1367a02e57 klp4_0.2 f8 | omega))
            refine lv_iinc (v := z26) (lv' := [(3, .int z26), (5, .int 1), (4, .int z11), (0, .ref (ad 6)), (1, .long p0)]) hx hb dX9_append_79 hl (k := 2) rfl (by rw [ez26]; rfl) (by decide) rfl (fun ls hl => ?_)
            refine lv_goto (tgt := 3) hx hb dX9_append_82 (by decide) ?_
            have r27 : Int32.toInt 1 = 1 := by decide
            have pq28 : (V24 6 5).toInt = z20.toInt := congrArg Int32.toInt ((up2_o hV24 (by decide)).trans (up2_s hV21))
            have kz30 := i_clamp (x := (V3 6 5)) rfl (by (first | exact om_eafa9039069c r5.1 | omega))
            have en31 : (Int32.toNatClampNeg (V3 6 5)) = kg := by (first | exact om_c4e1e142d663 xlp4_2 kz30 | omega)
            have nz32 : (vp_nar .byte z23) = z11 := nar_z ez23 (by omega)
            have ef29 : V24 10 = upd (V3 10) kg z11 := by rw [up2_fn hV24, up2_fo hV21 (by decide), en31, nz32]
            exact ihlp4 (j) (kg + 1) z26 V24 H locs ls (by (first | exact om_0850c42f4b69 klp4_0.2 f8 hz26 | omega)) (show z26.toInt = 8 * ((j : Nat) : Int) - 8 from by omega) (show j ≤ 8 from by omega) (show (V24 6 5).toInt = ((kg + 1 : Nat) : Int) from by (first | exact om_064febd7b2a5 xlp4_2 hz20 pq28 | omega)) (show kg + 1 ≤ 4000 from by (first | exact om_39fe2737fdae xlp4_2 f19 | omega)) (by rw [← xlp4_4]; show _ = apk j p0 (stp (sgc p0 (shv (j + 1))) kg); rw [← ey, ← es, stp_i (by omega) (by omega)]) (by rw [ef29, ← xlp4_5]; show _ = apF sgc j p0 (stp (sgc p0 (shv (j + 1))) kg) (wrF (sgc p0 (shv (j + 1))) kg (V3 10)); rw [← ey, ← es, stp_i (by omega) (by omega), wrF_i (by omega) (by omega)]) (by (first | exact om_74a39192ceaa hn hz26 | omega)) (agr.up (agr.up (agr.tr agr.rf ajV3 (by decide) (by decide)) hV21 rfl) hV24 rfl) hMV24 hP hD hS (lv_sub hl [0, 3, 4] rfl)
        · skip
          have f33 : z11.toInt ≠ 10 := b_neq rfl (by decide) c12
          refine lv_iload hx hb dX9_append_24 (lv_at hl 0 rfl) ?_
          refine lv_bipush (v := 32) hx hb dX9_append_26 (by decide) ?_
          refine lv_icmp_lt (tgt := 42) hx hb dX9_append_28 (by decide) (fun c34 => ?_) (fun c34 => ?_)
          · skip
            have f35 : z11.toInt < 32 := b_lt rfl (by decide) c34
            refine lv_iconst (v := 0) hx hb dX9_append_42 (by decide) ?_
            refine lv_istore (lv' := [(5, .int 0), (4, .int z11), (3, .int y2), (0, .ref (ad 6)), (1, .long p0)]) hx hb dX9_append_43 hl (by decide) rfl (fun ls hl => ?_)
            refine lv_iload hx hb dX9_append_45 (lv_at hl 0 rfl) ?_
            refine lv_if_eq (tgt := 79) hx hb dX9_append_47 (by decide) (fun _ => ?_) (fun q => absurd (by decide) q)
            obtain ⟨z36, ez36⟩ : ∃ y : Int32, y = y2 + (-8) := ⟨_, rfl⟩
            have hz36 : z36.toInt = y2.toInt + (-8) := i_add ez36 rfl (by decide) (by (first | exact om_cd1367a02e57 klp4_0.2 f8 | omega))
            refine lv_iinc (v := z36) (lv' := [(3, .int z36), (5, .int 0), (4, .int z11), (0, .ref (ad 6)), (1, .long p0)]) hx hb dX9_append_79 hl (k := 2) rfl (by rw [ez36]; rfl) (by decide) rfl (fun ls hl => ?_)
            refine lv_goto (tgt := 3) hx hb dX9_append_82 (by decide) ?_
            have r37 : Int32.toInt 0 = 0 := by decide
            have ef38 : V3 10 = V3 10 := rfl
            exact ihlp4 (j) (kg) z36 V3 H locs ls (by (first | exact om_0850c42f4b69 klp4_0.2 f8 hz36 | omega)) (show z36.toInt = 8 * ((j : Nat) : Int) - 8 from by omega) (show j ≤ 8 from by omega) (show (V3 6 5).toInt = ((kg : Nat) : Int) from by (first | exact om_08e0c9701055 xlp4_2 | omega)) (show kg ≤ 4000 from by (first | exact om_af64e361c991 xlp4_3 | omega)) (by rw [← xlp4_4]; show _ = apk j p0 (stp (sgc p0 (shv (j + 1))) kg); rw [← ey, ← es, stp_j (by omega)]) (by rw [ef38, ← xlp4_5]; show _ = apF sgc j p0 (stp (sgc p0 (shv (j + 1))) kg) (wrF (sgc p0 (shv (j + 1))) kg (V3 10)); rw [← ey, ← es, stp_j (by omega), wrF_j (by omega)]) (by (first | exact om_74a39192ceaa hn hz36 | omega)) (agr.tr agr.rf ajV3 (by decide) (by decide)) hMV3 hP hD hS (lv_sub hl [0, 3, 4] rfl)
          · skip
            have f39 : 32 ≤ z11.toInt := b_nlt rfl (by decide) c34
            refine lv_iload hx hb dX9_append_31 (lv_at hl 0 rfl) ?_
            refine lv_bipush (v := 126) hx hb dX9_append_33 (by decide) ?_
            refine lv_icmp_gt (tgt := 42) hx hb dX9_append_35 (by decide) (fun c40 => ?_) (fun c40 => ?_)
            · skip
              have f41 : 126 < z11.toInt := b_lt (by decide) rfl c40
              refine lv_iconst (v := 0) hx hb dX9_append_42 (by decide) ?_
              refine lv_istore (lv' := [(5, .int 0), (4, .int z11), (3, .int y2), (0, .ref (ad 6)), (1, .long p0)]) hx hb dX9_append_43 hl (by decide) rfl (fun ls hl => ?_)
              refine lv_iload hx hb dX9_append_45 (lv_at hl 0 rfl) ?_
              refine lv_if_eq (tgt := 79) hx hb dX9_append_47 (by decide) (fun _ => ?_) (fun q => absurd (by decide) q)
              obtain ⟨z42, ez42⟩ : ∃ y : Int32, y = y2 + (-8) := ⟨_, rfl⟩
              have hz42 : z42.toInt = y2.toInt + (-8) := i_add ez42 rfl (by decide) (by (first | exact om_cd1367a02e57 klp4_0.2 f8 | omega))
              refine lv_iinc (v := z42) (lv' := [(3, .int z42), (5, .int 0), (4, .int z11), (0, .ref (ad 6)), (1, .long p0)]) hx hb dX9_append_79 hl (k := 2) rfl (by rw [ez42]; rfl) (by decide) rfl (fun ls hl => ?_)
              refine lv_goto (tgt := 3) hx hb dX9_append_82 (by decide) ?_
              have r43 : Int32.toInt 0 = 0 := by decide
              have ef44 : V3 10 = V3 10 := rfl
              exact ihlp4 (j) (kg) z42 V3 H locs ls (by (first | exact om_0850c42f4b69 klp4_0.2 f8 hz42 | omega)) (show z42.toInt = 8 * ((j : Nat) : Int) - 8 from by omega) (show j ≤ 8 from by omega) (show (V3 6 5).toInt = ((kg : Nat) : Int) from by (first | exact om_08e0c9701055 xlp4_2 | omega)) (show kg ≤ 4000 from by (first | exact om_af64e361c991 xlp4_3 | omega)) (by rw [← xlp4_4]; show _ = apk j p0 (stp (sgc p0 (shv (j + 1))) kg); rw [← ey, ← es, stp_j (by omega)]) (by rw [ef44, ← xlp4_5]; show _ = apF sgc j p0 (stp (sgc p0 (shv (j + 1))) kg) (wrF (sgc p0 (shv (j + 1))) kg (V3 10)); rw [← ey, ← es, stp_j (by omega), wrF_j (by omega)]) (by (first | exact om_74a39192ceaa hn hz42 | omega)) (agr.tr agr.rf ajV3 (by decide) (by decide)) hMV3 hP hD hS (lv_sub hl [0, 3, 4] rfl)
            · skip
              have f45 : z11.toInt ≤ 126 := b_nlt (by decide) rfl c40
              refine lv_iconst (v := 1) hx hb dX9_append_38 (by decide) ?_
              refine lv_goto (tgt := 43) hx hb dX9_append_39 (by decide) ?_
              refine lv_istore (lv' := [(5, .int 1), (4, .int z11), (3, .int y2), (0, .ref (ad 6)), (1, .long p0)]) hx hb dX9_append_43 hl (by decide) rfl (fun ls hl => ?_)
              refine lv_iload hx hb dX9_append_45 (lv_at hl 0 rfl) ?_
              refine lv_if_eq (tgt := 79) hx hb dX9_append_47 (by decide) (fun q => absurd q (by decide)) (fun _ => ?_)
              refine lv_aload_n hx hb dX9_append_50 rfl (lv_at hl 3 rfl) ?_
              refine va_get (D := D) (ci := 9) (v := .int (V3 6 5)) (fs := (xfTape ad V3 L Z)) (C := RX9) (T := TX9) (N := 12) hx hb hg inX9 hown hK hP 6 xgTape rfl 5 (by decide) (hg _ w258) (fun _ h9 => h9) rfl dX9_append_51 ?_
              refine lv_sipush (v := 4000) hx hb dX9_append_54 (by decide) ?_
              refine lv_icmp_ge (tgt := 79) hx hb dX9_append_57 (by decide) (fun c46 => ?_) (fun c46 => ?_)
              · skip
                have f47 : 4000 ≤ ((V3 6 5)).toInt := b_le (by decide) rfl c46
                obtain ⟨z48, ez48⟩ : ∃ y : Int32, y = y2 + (-8) := ⟨_, rfl⟩
                have hz48 : z48.toInt = y2.toInt + (-8) := i_add ez48 rfl (by decide) (by (first | exact om_cd1367a02e57 klp4_0.2 f8 | omega))
                refine lv_iinc (v := z48) (lv' := [(3, .int z48), (5, .int 1), (4, .int z11), (0, .ref (ad 6)), (1, .long p0)]) hx hb dX9_append_79 hl (k := 2) rfl (by rw [ez48]; rfl) (by decide) rfl (fun ls hl => ?_)
                refine lv_goto (tgt := 3) hx hb dX9_append_82 (by decide) ?_
                have r49 : Int32.toInt 1 = 1 := by decide
                have ef50 : V3 10 = V3 10 := rfl
                exact ihlp4 (j) (kg) z48 V3 H locs ls (by (first | exact om_0850c42f4b69 klp4_0.2 f8 hz48 | omega)) (show z48.toInt = 8 * ((j : Nat) : Int) - 8 from by omega) (show j ≤ 8 from by omega) (show (V3 6 5).toInt = ((kg : Nat) : Int) from by (first | exact om_e4dc208c913d xlp4_2 xlp4_3 f47 | omega)) (show kg ≤ 4000 from by (first | exact om_af64e361c991 xlp4_3 | omega)) (by rw [← xlp4_4]; show _ = apk j p0 (stp (sgc p0 (shv (j + 1))) kg); rw [← ey, ← es, stp_j (by omega)]) (by rw [ef50, ← xlp4_5]; show _ = apF sgc j p0 (stp (sgc p0 (shv (j + 1))) kg) (wrF (sgc p0 (shv (j + 1))) kg (V3 10)); rw [← ey, ← es, stp_j (by omega), wrF_j (by omega)]) (by (first | exact om_74a39192ceaa hn hz48 | omega)) (agr.tr agr.rf ajV3 (by decide) (by decide)) hMV3 hP hD hS (lv_sub hl [0, 3, 4] rfl)
              · skip
                have f51 : ((V3 6 5)).toInt < 4000 := b_nle (by decide) rfl c46
                refine lv_aload_n hx hb dX9_append_60 rfl (lv_at hl 3 rfl) ?_
                refine va_get (D := D) (ci := 9) (v := .ref (ad 7)) (fs := (xfTape ad V3 L Z)) (C := RX9) (T := TX9) (N := 12) hx hb hg inX9 hown hK hP 6 xgTape rfl 0 (by decide) (hg _ w252) (fun _ h9 => h9) rfl dX9_append_61 ?_
                refine lv_aload_n hx hb dX9_append_64 rfl (lv_at hl 3 rfl) ?_
                refine lv_dup hx hb dX9_append_65 rfl ?_
                refine va_get (D := D) (ci := 9) (v := .int (V3 6 5)) (fs := (xfTape ad V3 L Z)) (C := RX9) (T := TX9) (N := 12) hx hb hg inX9 hown hK hP 6 xgTape rfl 5 (by decide) (hg _ w258) (fun _ h9 => h9) rfl dX9_append_66 ?_
                refine lv_dup_x1 hx hb dX9_append_69 rfl rfl ?_
                refine lv_iconst (v := 1) hx hb dX9_append_70 (by decide) ?_
                refine lv_iadd hx hb dX9_append_71 ?_
                refine lv_topi (fun z52 ez52 => ?_)
                have hz52 : z52.toInt = ((V3 6 5)).toInt + 1 := i_add ez52 rfl (by decide) (by (first | exact om_67c6ad613360 r5.1 f51 | omega))
                refine va_put (D := D) (ci := 9) (v := .int z52) (ty := tyX9 5) (fs := (xfTape ad V3 L Z)) (C := RX9) (T := TX9) (N := 12) hx hb hg inX9 tyX9 tyX9_ok nmX9 hown hK hP hD hS 6 xgTape rfl 5 (by decide) (hg _ w258) (fun _ h9 => h9) rfl (tyX9_ok 5 (by decide)) rfl rfl (Nat.le_of_ble_eq_true rfl) dX9_append_72 (fun H locs hP hD hS => ?_)
                obtain ⟨V53, hV53⟩ : ∃ z, z = up2 V3 6 5 z52 := ⟨_, rfl⟩
                have ew54 : (xw ad kk V3 L Z).set 6 ((ad 6), .inr (9, (xfTape ad V3 L Z).set 5 (.int z52))) = xw ad kk V53 L Z := by rw [hV53]; exact xw_ss (by decide) rfl (xb_si (by decide))
                have hP : va_P D vwCl (xw ad kk V53 L Z) H := by rw [← ew54]; exact hP
                have hD : va_D A (xw ad kk V53 L Z) := by rw [← ew54]; exact hD
                have hMV53 : rgd bX V53 := hMV3.put hV53 (show 0 ≤ z52.toInt ∧ z52.toInt ≤ 4000 from by (first | exact om_44a0a3faffcf r5.1 f51 hz52 | omega))
                have agV53 : agr [(6, 5)] [10] V V53 := agV3.up hV53 rfl
                refine lv_iload hx hb dX9_append_75 (lv_at hl 1 rfl) ?_
                refine lv_i2b hx hb dX9_append_77 rfl ?_
                refine lv_topi (fun z55 ez55 => ?_)
                refine va_bast (D := D) (i := (V3 6 5)) (x := z55) hx hb hK hP hD hS 7 0 rfl rfl (i_in (a := ((V3 6 5)).toInt) rfl (by omega)) dX9_append_78 (fun H locs hP hD hS => ?_)
                obtain ⟨V56, hV56⟩ : ∃ z, z = up2 V53 10 (Int32.toNatClampNeg (V3 6 5)) (vp_nar .byte z55) := ⟨_, rfl⟩
                have ew57 : (xw ad kk V53 L Z).set 7 ((ad 7), .inl ((kk 7), 4000, .inl (upd (V53 10) (Int32.toNatClampNeg (V3 6 5)) (vp_nar .byte z55)))) = xw ad kk V56 L Z := by rw [hV56]; exact xw_ss (by decide) rfl (xb_si (by decide))
                have hP : va_P D vwCl (xw ad kk V56 L Z) H := by rw [← ew57]; exact hP
                have hD : va_D A (xw ad kk V56 L Z) := by rw [← ew57]; exact hD
                have hMV56 : rgd bX V56 := hMV53.put hV56 (i_full _)
                have agV56 : agr [(6, 5)] [10] V V56 := agV53.up hV56 rfl
                obtain ⟨z58, ez58⟩ : ∃ y : Int32, y = y2 + (-8) := ⟨_, rfl⟩
                have hz58 : z58.toInt = y2.toInt + (-8) := i_add ez58 rfl (by decide) (by (first | exact om_cd1367a02e57 klp4_0.2 f8 | omega))
                refine lv_iinc (v := z58) (lv' := [(3, .int z58), (5, .int 1), (4, .int z11), (0, .ref (ad 6)), (1, .long p0)]) hx hb dX9_append_79 hl (k := 2) rfl (by rw [ez58]; rfl) (by decide) rfl (fun ls hl => ?_)
                refine lv_goto (tgt := 3) hx hb dX9_append_82 (by decide) ?_
                have r59 : Int32.toInt 1 = 1 := by decide
                have pq60 : (V56 6 5).toInt = z52.toInt := congrArg Int32.toInt ((up2_o hV56 (by decide)).trans (up2_s hV53))
                have kz62 := i_clamp (x := (V3 6 5)) rfl (by (first | exact om_eafa9039069c r5.1 | omega))
                have en63 : (Int32.toNatClampNeg (V3 6 5)) = kg := by (first | exact om_c4e1e142d663 xlp4_2 kz62 | omega)
                have nz64 : (vp_nar .byte z55) = z11 := nar_z ez55 (by omega)
                have ef61 : V56 10 = upd (V3 10) kg z11 := by rw [up2_fn hV56, up2_fo hV53 (by decide), en63, nz64]
                exact ihlp4 (j) (kg + 1) z58 V56 H locs ls (by (first | exact om_0850c42f4b69 klp4_0.2 f8 hz58 | omega)) (show z58.toInt = 8 * ((j : Nat) : Int) - 8 from by omega) (show j ≤ 8 from by omega) (show (V56 6 5).toInt = ((kg + 1 : Nat) : Int) from by (first | exact om_064febd7b2a5 xlp4_2 hz52 pq60 | omega)) (show kg + 1 ≤ 4000 from by (first | exact om_39fe2737fdae xlp4_2 f51 | omega)) (by rw [← xlp4_4]; show _ = apk j p0 (stp (sgc p0 (shv (j + 1))) kg); rw [← ey, ← es, stp_i (by omega) (by omega)]) (by rw [ef61, ← xlp4_5]; show _ = apF sgc j p0 (stp (sgc p0 (shv (j + 1))) kg) (wrF (sgc p0 (shv (j + 1))) kg (V3 10)); rw [← ey, ← es, stp_i (by omega) (by omega), wrF_i (by omega) (by omega)]) (by (first | exact om_74a39192ceaa hn hz58 | omega)) (agr.up (agr.up (agr.tr agr.rf ajV3 (by decide) (by decide)) hV53 rfl) hV56 rfl) hMV56 hP hD hS (lv_sub hl [0, 3, 4] rfl)
  have r65 : Int32.toInt 56 = 56 := by decide
  exact lp4 (((Int32.toInt 56) + 8 + 1 : Int).toNat) (8) (k0) 56 V H locs ls (by decide) (show (Int32.toInt 56) = 8 * ((8 : Nat) : Int) - 8 from by (first | exact om_5096ece6e03a r65 | omega)) (show 8 ≤ 8 from by omega) (show (V 6 5).toInt = ((k0 : Nat) : Int) from by (first | exact om_08e0c9701055 y1 | omega)) (show k0 ≤ 4000 from by (first | exact om_4bc1f7c5a8a4 y1 r1.2 | omega)) rfl rfl (by omega) agr.rf hMV hP hD hS (lv_sub hl [0, 1, 2] rfl)
abbrev r_x_h_feed3 : Room := { frames := 1, cells := 0, slots := 0, locals := 25 }
abbrev q_x_h_feed3 (D : va_G) (ks : KS) (ad : Nat → Nat) (kk : Nat → ClassId) (V : Vf) (L : Lf) (Z : XZ) (p0 : Int64) (p1 : Int64) (p2 : Int64) (k0 : Nat) (A : Nat → Prop) : Array Value → State → Outcome → State → Prop := va_Qi (fun (r : Int32) (u : Vf × Lf) => rgd bX u.1 ∧ agr [(6, 5)] [10] V u.1 ∧ u.2 = L ∧ (r.toInt = ((apk 8 p2 (apk 8 p1 (apk 8 p0 k0)) : Nat) : Int)) ∧ ((u.1 6 5).toInt = ((apk 8 p2 (apk 8 p1 (apk 8 p0 k0)) : Nat) : Int)) ∧ ((u.1 10) = apF sgc 8 p2 (apk 8 p1 (apk 8 p0 k0)) (apF sgc 8 p1 (apk 8 p0 k0) (apF sgc 8 p0 k0 (V 10))))) (fun u t => gq D A (xw ad kk u.1 u.2 Z) (xty kk Z) t) A
set_option maxHeartbeats 4000000 in
set_option maxRecDepth 100000 in
theorem x_h_feed3 (l : Launch) (D : va_G) (ks : KS) (sz : Nat) (ad : Nat → Nat) (kk : Nat → ClassId) (V : Vf) (L : Lf) (Z : XZ) (p0 : Int64) (p1 : Int64) (p2 : Int64) (k0 : Nat) (hMV : rgd bX V) (y1 : (V 6 5).toInt = (k0 : Int))  : Met l yX11_feed (Cond.code yX11_feed cX11_feed 7 (some .int) :: GW) r_x_h_feed3 (va_Pc [.ref (ad 0), .long p0, .long p1, .long p2] (gp D ks (xw ad kk V L Z) (xty kk Z) sz)) (q_x_h_feed3 D ks ad kk V L Z p0 p1 p2 k0 (va_A (xw ad kk V L Z) sz)) 0 0 (va_A (xw ad kk V L Z) sz) := by
  refine g_met (q_x_h_feed3 D ks ad kk V L Z p0 p1 p2 k0) (by decide) (Nat.le_of_ble_eq_true rfl) ?_
  intro p e s m below meth c A ls H locs hx hb hr hml hown hg hlocks hin hnw hgk hP hK hD hS hA hl
  have hown : s.vm.findClass RX11 = some m.cls := hown
  have hl : lv_has ls 7 [(0, .ref (ad 0)), (1, .long p0), (3, .long p1), (5, .long p2)] := hl
  have hP : va_P D vwCl (xw ad kk V L Z) H := hP
  have hD : va_D A (xw ad kk V L Z) := hD
  have hK : va_K D vwCl (xty kk Z) s := hK
  have agV : agr [(6, 5)] [10] V V := agr.rf
  have r1 : 0 ≤ ((V 6 5)).toInt ∧ ((V 6 5)).toInt ≤ 4000 := hMV 6 5
  refine lv_aload_n hx hb dX11_feed_0 rfl (lv_at hl 0 rfl) ?_
  refine va_get (D := D) (ci := 11) (v := .ref (ad 6)) (fs := (xfHouse ad V L Z)) (C := RX11) (T := TX11) (N := 10) hx hb hg inX11 hown hK hP 0 xgHouse rfl 0 (by decide) (hg _ w715) (fun _ h9 => h9) rfl dX11_feed_1 ?_
  refine lv_lload_n hx hb dX11_feed_4 rfl (lv_at hl 1 rfl) ?_
  refine gA_void (gA_runV (As := [.long p0]) (rest := []) (ci := 9) (q0 := 6) hx hb hml hown hg hP hD hK hS hA hnw hgk (x_append2 l D ks H.size ad kk V L Z p0 (k0) hMV (show (V 6 5).toInt = (k0 : Int) from by (first | exact om_08e0c9701055 y1 | omega))) w750 w751 w752 w157 w753 rfl xgTape hdV_yX9_append ⟨Nat.le_of_ble_eq_true rfl, Nat.le_of_ble_eq_true rfl⟩ rfl hl.1 rfl (Nat.le_of_ble_eq_true rfl) dX11_feed_5 ⟨Nat.le_of_ble_eq_true rfl, Nat.le_of_ble_eq_true rfl⟩) hP hD hK hS hA (fun u3 H locs w4 hP hD hK hS => ?_)
  obtain ⟨V7, L8⟩ := u3
  obtain ⟨hMV7, ajV7, axL8, t5, t6⟩ := w4
  have axL8 : L = L8 := Eq.symm axL8
  subst axL8
  have hP : va_P D vwCl (xw ad kk V7 L Z) H := hP
  have hD : va_D A (xw ad kk V7 L Z) := hD
  have hMV7 : rgd bX V7 := hMV7
  have ajV7 : agr [(6, 5)] [10] V V7 := ajV7
  have agV7 : agr [(6, 5)] [10] V V7 := agV.tr ajV7 (by decide) (by decide)
  have t5 : (V7 6 5).toInt = ((apk 8 p0 k0 : Nat) : Int) := t5
  have t6 : (V7 10) = apF sgc 8 p0 k0 (V 10) := t6
  have r9 : 0 ≤ ((V7 6 5)).toInt ∧ ((V7 6 5)).toInt ≤ 4000 := hMV7 6 5
  refine lv_aload_n hx hb dX11_feed_8 rfl (lv_at hl 0 rfl) ?_
  refine va_get (D := D) (ci := 11) (v := .ref (ad 6)) (fs := (xfHouse ad V7 L Z)) (C := RX11) (T := TX11) (N := 10) hx hb hg inX11 hown hK hP 0 xgHouse rfl 0 (by decide) (hg _ w715) (fun _ h9 => h9) rfl dX11_feed_9 ?_
  refine lv_lload_n hx hb dX11_feed_12 rfl (lv_at hl 2 rfl) ?_
  refine gA_void (gA_runV (As := [.long p1]) (rest := []) (ci := 9) (q0 := 6) hx hb hml hown hg hP hD hK hS hA hnw hgk (x_append2 l D ks H.size ad kk V7 L Z p1 (apk 8 p0 k0) hMV7 (show (V7 6 5).toInt = ((apk 8 p0 k0) : Int) from by (first | exact om_08e0c9701055 t5 | omega))) w750 w751 w752 w157 w753 rfl xgTape hdV_yX9_append ⟨Nat.le_of_ble_eq_true rfl, Nat.le_of_ble_eq_true rfl⟩ rfl hl.1 rfl (Nat.le_of_ble_eq_true rfl) dX11_feed_13 ⟨Nat.le_of_ble_eq_true rfl, Nat.le_of_ble_eq_true rfl⟩) hP hD hK hS hA (fun u11 H locs w12 hP hD hK hS => ?_)
  obtain ⟨V15, L16⟩ := u11
  obtain ⟨hMV15, ajV15, axL16, t13, t14⟩ := w12
  have axL16 : L = L16 := Eq.symm axL16
  subst axL16
  have hP : va_P D vwCl (xw ad kk V15 L Z) H := hP
  have hD : va_D A (xw ad kk V15 L Z) := hD
  have hMV15 : rgd bX V15 := hMV15
  have ajV15 : agr [(6, 5)] [10] V7 V15 := ajV15
  have agV15 : agr [(6, 5)] [10] V V15 := agV7.tr ajV15 (by decide) (by decide)
  have t13 : (V15 6 5).toInt = ((apk 8 p1 (apk 8 p0 k0) : Nat) : Int) := t13
  have t14 : (V15 10) = apF sgc 8 p1 (apk 8 p0 k0) (V7 10) := t14
  have r17 : 0 ≤ ((V15 6 5)).toInt ∧ ((V15 6 5)).toInt ≤ 4000 := hMV15 6 5
  refine lv_aload_n hx hb dX11_feed_16 rfl (lv_at hl 0 rfl) ?_
  refine va_get (D := D) (ci := 11) (v := .ref (ad 6)) (fs := (xfHouse ad V15 L Z)) (C := RX11) (T := TX11) (N := 10) hx hb hg inX11 hown hK hP 0 xgHouse rfl 0 (by decide) (hg _ w715) (fun _ h9 => h9) rfl dX11_feed_17 ?_
  refine lv_lload hx hb dX11_feed_20 (lv_at hl 3 rfl) ?_
  refine gA_void (gA_runV (As := [.long p2]) (rest := []) (ci := 9) (q0 := 6) hx hb hml hown hg hP hD hK hS hA hnw hgk (x_append2 l D ks H.size ad kk V15 L Z p2 (apk 8 p1 (apk 8 p0 k0)) hMV15 (show (V15 6 5).toInt = ((apk 8 p1 (apk 8 p0 k0)) : Int) from by (first | exact om_08e0c9701055 t13 | omega))) w750 w751 w752 w157 w753 rfl xgTape hdV_yX9_append ⟨Nat.le_of_ble_eq_true rfl, Nat.le_of_ble_eq_true rfl⟩ rfl hl.1 rfl (Nat.le_of_ble_eq_true rfl) dX11_feed_22 ⟨Nat.le_of_ble_eq_true rfl, Nat.le_of_ble_eq_true rfl⟩) hP hD hK hS hA (fun u19 H locs w20 hP hD hK hS => ?_)
  obtain ⟨V23, L24⟩ := u19
  obtain ⟨hMV23, ajV23, axL24, t21, t22⟩ := w20
  have axL24 : L = L24 := Eq.symm axL24
  subst axL24
  have hP : va_P D vwCl (xw ad kk V23 L Z) H := hP
  have hD : va_D A (xw ad kk V23 L Z) := hD
  have hMV23 : rgd bX V23 := hMV23
  have ajV23 : agr [(6, 5)] [10] V15 V23 := ajV23
  have agV23 : agr [(6, 5)] [10] V V23 := agV15.tr ajV23 (by decide) (by decide)
  have t21 : (V23 6 5).toInt = ((apk 8 p2 (apk 8 p1 (apk 8 p0 k0)) : Nat) : Int) := t21
  have t22 : (V23 10) = apF sgc 8 p2 (apk 8 p1 (apk 8 p0 k0)) (V15 10) := t22
  have r25 : 0 ≤ ((V23 6 5)).toInt ∧ ((V23 6 5)).toInt ≤ 4000 := hMV23 6 5
  refine lv_aload_n hx hb dX11_feed_25 rfl (lv_at hl 0 rfl) ?_
  refine va_get (D := D) (ci := 11) (v := .ref (ad 6)) (fs := (xfHouse ad V23 L Z)) (C := RX11) (T := TX11) (N := 10) hx hb hg inX11 hown hK hP 0 xgHouse rfl 0 (by decide) (hg _ w715) (fun _ h9 => h9) rfl dX11_feed_26 ?_
  refine va_getN (D := D) (ci := 9) (v := .int (V23 6 5)) (fs := (xfTape ad V23 L Z)) (C := RX9) (T := TX9) (N := 12) hx hb hg inX9 hown hK hP 6 xgTape rfl 5 (by decide) (hnw.use 257 n257 rfl) (fun _ h9 => h9) rfl dX11_feed_29 ?_
  have rp26 : V23 10 = apF sgc 8 p2 (apk 8 p1 (apk 8 p0 k0)) (apF sgc 8 p1 (apk 8 p0 k0) (apF sgc 8 p0 k0 (V 10))) := by rw [t22, t14, t6]
  exact W.iret (v := (V23 6 5)) hx hb hr (fun t ht hW => ⟨⟨(V23 6 5), (V23, L), rfl, ⟨hMV23, agV23, rfl, (show ((V23 6 5)).toInt = ((apk 8 p2 (apk 8 p1 (apk 8 p0 k0)) : Nat) : Int) from by (first | exact om_08e0c9701055 t21 | omega)), (show (V23 6 5).toInt = ((apk 8 p2 (apk 8 p1 (apk 8 p0 k0)) : Nat) : Int) from by (first | exact om_08e0c9701055 t21 | omega)), rp26⟩, by rw [ht]; exact hP, va_K.moved hW.alike hK, hD⟩, hS.F ht⟩) hS.2.2 dX11_feed_32
abbrev r_s_lay2 : Room := { frames := 0, cells := 0, slots := 0, locals := 0 }
abbrev q_s_lay2 (D : va_G) (ks : KS) (ad : Nat → Nat) (kk : Nat → ClassId) (V : Vf) (L : Lf) (p0 : Int64) (k0 : Nat) (A : Nat → Prop) : Array Value → State → Outcome → State → Prop := va_Qv (fun (u : Vf × Lf) => rgd bM u.1 ∧ agr [(0, 2)] [1] V u.1 ∧ u.2 = L ∧ ((u.1 0 2).toInt = ((apm 8 p0 k0 : Nat) : Int)) ∧ ((u.1 1) = apF sgm 8 p0 k0 (V 1))) (fun u t => gq D A (mw ad kk ks.1 u.1 u.2) (mty kk) t) A
set_option maxHeartbeats 4000000 in
set_option maxRecDepth 100000 in
theorem s_lay2 (l : Launch) (D : va_G) (ks : KS) (sz : Nat) (ad : Nat → Nat) (kk : Nat → ClassId) (V : Vf) (L : Lf) (p0 : Int64) (k0 : Nat) (hMV : rgd bM V) (y1 : (V 0 2).toInt = (k0 : Int))  : Met l yX12_lay (Cond.code yX12_lay cX12_lay 5 none :: GW) r_s_lay2 (va_Pc [.ref (ad 0), .long p0] (gp D ks (mw ad kk ks.1 V L) (mty kk) sz)) (q_s_lay2 D ks ad kk V L p0 k0 (va_A (mw ad kk ks.1 V L) sz)) 0 0 (va_A (mw ad kk ks.1 V L) sz) := by
  refine g_met (q_s_lay2 D ks ad kk V L p0 k0) (by decide) (Nat.le_of_ble_eq_true rfl) ?_
  intro p e s m below meth c A ls H locs hx hb hr hml hown hg hlocks hin hnw hgk hP hK hD hS hA hl
  have hown : s.vm.findClass RX12 = some m.cls := hown
  have hl : lv_has ls 5 [(0, .ref (ad 0)), (1, .long p0)] := hl
  have hP : va_P D vwCl (mw ad kk ks.1 V L) H := hP
  have hD : va_D A (mw ad kk ks.1 V L) := hD
  have hK : va_K D vwCl (mty kk) s := hK
  have agV : agr [(0, 2)] [1] V V := agr.rf
  have r1 : 0 ≤ ((V 0 2)).toInt ∧ ((V 0 2)).toInt ≤ 4000 := hMV 0 2
  refine lv_bipush (v := 56) hx hb dX12_lay_0 (by decide) ?_
  refine lv_istore_n (lv' := [(3, .int 56), (0, .ref (ad 0)), (1, .long p0)]) hx hb dX12_lay_2 rfl hl (by decide) rfl (fun ls hl => ?_)
  have lp4 : ∀ (fulp4 : Nat) (jg : Nat) (kg : Nat) (y2 : Int32) (V3 : Vf) (H : Heap) (locs : List Loc) (ls : Array Slot), (-8) ≤ y2.toInt ∧ y2.toInt ≤ 56 → y2.toInt = 8 * ((jg : Nat) : Int) - 8 → jg ≤ 8 → (V3 0 2).toInt = ((kg : Nat) : Int) → kg ≤ 4000 → apm jg p0 kg = apm 8 p0 k0 → apF sgm jg p0 kg (V3 1) = apF sgm 8 p0 k0 (V 1) → y2.toInt + 8 < (fulp4 : Int) → agr [(0, 2)] [1] V V3 → rgd bM V3 → va_P D vwCl (mw ad kk ks.1 V3 L) H → va_D A (mw ad kk ks.1 V3 L) → va_S A s.heap H locs → lv_has ls 5 [(3, .int y2), (0, .ref (ad 0)), (1, .long p0)] → W p l e r_s_lay2 s m ([.ref (ad 0), .long p0] : List Value).toArray below meth c H locs 0 0 (MQ below (q_s_lay2 D ks ad kk V L p0 k0 A) ([.ref (ad 0), .long p0] : List Value).toArray s 0 0 A) (F0 m 3 ls []) := by
    intro fulp4
    induction fulp4 with
    | zero =>
      intro jg kg y2 V3 H locs ls klp4_0 xlp4_0 xlp4_1 xlp4_2 xlp4_3 xlp4_4 xlp4_5 hn ajV3 hMV3 hP hD hS hl
      exfalso; omega
    | succ fulp4 ihlp4 =>
      intro jg kg y2 V3 H locs ls klp4_0 xlp4_0 xlp4_1 xlp4_2 xlp4_3 xlp4_4 xlp4_5 hn ajV3 hMV3 hP hD hS hl
      have agV3 : agr [(0, 2)] [1] V V3 := agV.tr ajV3 (by decide) (by decide)
      have r5 : 0 ≤ ((V3 0 2)).toInt ∧ ((V3 0 2)).toInt ≤ 4000 := hMV3 0 2
      refine lv_iload_n hx hb dX12_lay_3 rfl (lv_at hl 0 rfl) ?_
      refine lv_if_lt (tgt := 75) hx hb dX12_lay_4 (by decide) (fun c6 => ?_) (fun c6 => ?_)
      · skip
        have f7 : y2.toInt < 0 := b_lt rfl (by decide) c6
        exact W.vret hx hb hr (fun t ht hW => ⟨⟨(V3, L), rfl, ⟨hMV3, agV3, rfl, (by have hz : jg = 0 := (by omega); subst hz; have hz2 : kg = apm 8 p0 k0 := xlp4_4; show (V3 0 2).toInt = _; rw [← hz2]; omega), (by have hz : jg = 0 := (by omega); subst hz; show V3 1 = _; exact xlp4_5)⟩, by rw [ht]; exact hP, va_K.moved hW.alike hK, hD⟩, hS.F ht⟩) hS.2.2 dX12_lay_75
      · skip
        have f8 : 0 ≤ y2.toInt := b_nlt rfl (by decide) c6
        obtain ⟨j, rfl⟩ : ∃ j, jg = j + 1 := ⟨jg - 1, by omega⟩
        refine lv_lload_n hx hb dX12_lay_7 rfl (lv_at hl 2 rfl) ?_
        refine lv_iload_n hx hb dX12_lay_8 rfl (lv_at hl 0 rfl) ?_
        refine lv_lshr hx hb dX12_lay_9 rfl ?_
        refine lv_topl (fun w9 ew9 => ?_)
        refine lv_l2i hx hb dX12_lay_10 rfl ?_
        refine lv_topi (fun z10 ez10 => ?_)
        refine lv_sipush (v := 255) hx hb dX12_lay_11 (by decide) ?_
        refine lv_iand hx hb dX12_lay_14 ?_
        refine lv_topi (fun z11 ez11 => ?_)
        have hz11 : 0 ≤ z11.toInt ∧ z11.toInt ≤ 255 := and_m ez11 (by decide)
        have es : z11 = sgm p0 y2 := by rw [ez11, ez10, ew9]; rfl
        have ey : y2 = shv (j + 1) := Int32.toInt_inj.mp (by rw [shv_toInt (j + 1) (by omega)]; omega)
        refine lv_istore (lv' := [(4, .int z11), (3, .int y2), (0, .ref (ad 0)), (1, .long p0)]) hx hb dX12_lay_15 hl (by decide) rfl (fun ls hl => ?_)
        refine lv_iload hx hb dX12_lay_17 (lv_at hl 0 rfl) ?_
        refine lv_bipush (v := 10) hx hb dX12_lay_19 (by decide) ?_
        refine lv_icmp_eq (tgt := 38) hx hb dX12_lay_21 (by decide) (fun c12 => ?_) (fun c12 => ?_)
        · skip
          have f13 : z11.toInt = 10 := b_eq rfl (by decide) c12
          refine lv_aload_n hx hb dX12_lay_38 rfl (lv_at hl 2 rfl) ?_
          refine va_get (D := D) (ci := 12) (v := .int (V3 0 2)) (C := RX12) (T := TX12) (N := 100) hx hb hg inX12 hown hK hP 0 rfl rfl 2 (by decide) (hg _ w1708) (fun _ h9 => h9) rfl dX12_lay_39 ?_
          refine lv_sipush (v := 4000) hx hb dX12_lay_42 (by decide) ?_
          refine lv_icmp_ge (tgt := 69) hx hb dX12_lay_45 (by decide) (fun c14 => ?_) (fun c14 => ?_)
          · skip
            have f15 : 4000 ≤ ((V3 0 2)).toInt := b_le (by decide) rfl c14
            obtain ⟨z16, ez16⟩ : ∃ y : Int32, y = y2 + (-8) := ⟨_, rfl⟩
            have hz16 : z16.toInt = y2.toInt + (-8) := i_add ez16 rfl (by decide) (by (first | exact om_cd1367a02e57 klp4_0.2 f8 | omega))
            refine lv_iinc (v := z16) (lv' := [(3, .int z16), (4, .int z11), (0, .ref (ad 0)), (1, .long p0)]) hx hb dX12_lay_69 hl (k := 1) rfl (by rw [ez16]; rfl) (by decide) rfl (fun ls hl => ?_)
            refine lv_goto (tgt := 3) hx hb dX12_lay_72 (by decide) ?_
            have ef17 : V3 1 = V3 1 := rfl
            exact ihlp4 (j) (kg) z16 V3 H locs ls (by (first | exact om_0850c42f4b69 klp4_0.2 f8 hz16 | omega)) (show z16.toInt = 8 * ((j : Nat) : Int) - 8 from by omega) (show j ≤ 8 from by omega) (show (V3 0 2).toInt = ((kg : Nat) : Int) from by (first | exact om_e4dc208c913d xlp4_2 xlp4_3 f15 | omega)) (show kg ≤ 4000 from by (first | exact om_af64e361c991 xlp4_3 | omega)) (by rw [← xlp4_4]; show _ = apm j p0 (stp (sgm p0 (shv (j + 1))) kg); rw [← ey, ← es, stp_j (by omega)]) (by rw [ef17, ← xlp4_5]; show _ = apF sgm j p0 (stp (sgm p0 (shv (j + 1))) kg) (wrF (sgm p0 (shv (j + 1))) kg (V3 1)); rw [← ey, ← es, stp_j (by omega), wrF_j (by omega)]) (by (first | exact om_74a39192ceaa hn hz16 | omega)) (agr.tr agr.rf ajV3 (by decide) (by decide)) hMV3 hP hD hS (lv_sub hl [0, 2, 3] rfl)
          · skip
            have f18 : ((V3 0 2)).toInt < 4000 := b_nle (by decide) rfl c14
            refine lv_aload_n hx hb dX12_lay_48 rfl (lv_at hl 2 rfl) ?_
            refine va_get (D := D) (ci := 12) (v := .ref (ad 1)) (C := RX12) (T := TX12) (N := 100) hx hb hg inX12 hown hK hP 0 rfl rfl 1 (by decide) (hg _ w1707) (fun _ h9 => h9) rfl dX12_lay_49 ?_
            refine lv_aload_n hx hb dX12_lay_52 rfl (lv_at hl 2 rfl) ?_
            refine va_get (D := D) (ci := 12) (v := .int (V3 0 2)) (C := RX12) (T := TX12) (N := 100) hx hb hg inX12 hown hK hP 0 rfl rfl 2 (by decide) (hg _ w1708) (fun _ h9 => h9) rfl dX12_lay_53 ?_
            refine lv_iload hx hb dX12_lay_56 (lv_at hl 0 rfl) ?_
            refine va_iast (D := D) (i := (V3 0 2)) (x := z11) hx hb hK hP hD hS 1 0 rfl rfl (i_in (a := ((V3 0 2)).toInt) rfl (by omega)) dX12_lay_58 (fun H locs hP hD hS => ?_)
            obtain ⟨V19, hV19⟩ : ∃ z, z = up2 V3 1 (Int32.toNatClampNeg (V3 0 2)) z11 := ⟨_, rfl⟩
            have hP : va_P D vwCl (mw ad kk ks.1 V19 L) H := by rw [hV19]; exact hP
            have hD : va_D A (mw ad kk ks.1 V19 L) := by rw [hV19]; exact hD
            have hMV19 : rgd bM V19 := hMV3.put hV19 (i_full _)
            have agV19 : agr [(0, 2)] [1] V V19 := agV3.up hV19 rfl
            refine lv_aload_n hx hb dX12_lay_59 rfl (lv_at hl 2 rfl) ?_
            refine lv_dup hx hb dX12_lay_60 rfl ?_
            refine va_get (D := D) (ci := 12) (v := .int (V19 0 2)) (C := RX12) (T := TX12) (N := 100) hx hb hg inX12 hown hK hP 0 rfl rfl 2 (by decide) (hg _ w1708) (fun _ h9 => h9) rfl dX12_lay_61 ?_
            refine g_top (v := (V3 0 2)) (up2_o hV19 (by decide)) ?_
            refine lv_iconst (v := 1) hx hb dX12_lay_64 (by decide) ?_
            refine lv_iadd hx hb dX12_lay_65 ?_
            refine lv_topi (fun z20 ez20 => ?_)
            have hz20 : z20.toInt = ((V3 0 2)).toInt + 1 := i_add ez20 rfl (by decide) (by (first | exact om_67c6ad613360 r5.1 f18 | omega))
            refine va_put (D := D) (ci := 12) (v := .int z20) (ty := tyX12 2) (C := RX12) (T := TX12) (N := 100) hx hb hg inX12 tyX12 tyX12_ok nmX12 hown hK hP hD hS 0 rfl rfl 2 (by decide) (hg _ w1708) (fun _ h9 => h9) rfl (tyX12_ok 2 (by decide)) rfl rfl (Nat.le_of_ble_eq_true rfl) dX12_lay_66 (fun H locs hP hD hS => ?_)
            obtain ⟨V21, hV21⟩ : ∃ z, z = up2 V19 0 2 z20 := ⟨_, rfl⟩
            have hP : va_P D vwCl (mw ad kk ks.1 V21 L) H := by rw [hV21]; exact hP
            have hD : va_D A (mw ad kk ks.1 V21 L) := by rw [hV21]; exact hD
            have hMV21 : rgd bM V21 := hMV19.put hV21 (show 0 ≤ z20.toInt ∧ z20.toInt ≤ 4000 from by (first | exact om_44a0a3faffcf r5.1 f18 hz20 | omega))
            have agV21 : agr [(0, 2)] [1] V V21 := agV19.up hV21 rfl
            obtain ⟨z22, ez22⟩ : ∃ y : Int32, y = y2 + (-8) := ⟨_, rfl⟩
            have hz22 : z22.toInt = y2.toInt + (-8) := i_add ez22 rfl (by decide) (by (first | exact om_cd1367a02e57 klp4_0.2 f8 | omega))
            refine lv_iinc (v := z22) (lv' := [(3, .int z22), (4, .int z11), (0, .ref (ad 0)), (1, .long p0)]) hx hb dX12_lay_69 hl (k := 1) rfl (by rw [ez22]; rfl) (by decide) rfl (fun ls hl => ?_)
            refine lv_goto (tgt := 3) hx hb dX12_lay_72 (by decide) ?_
            have pq23 : (V21 0 2).toInt = z20.toInt := congrArg Int32.toInt (up2_s hV21)
            have kz25 := i_clamp (x := (V3 0 2)) rfl (by (first | exact om_eafa9039069c r5.1 | omega))
            have en26 : (Int32.toNatClampNeg (V3 0 2)) = kg := by (first | exact om_c4e1e142d663 xlp4_2 kz25 | omega)
            have ef24 : V21 1 = upd (V3 1) kg z11 := by rw [up2_fo hV21 (by decide), up2_fn hV19, en26]
            exact ihlp4 (j) (kg + 1) z22 V21 H locs ls (by (first | exact om_0850c42f4b69 klp4_0.2 f8 hz22 | omega)) (show z22.toInt = 8 * ((j : Nat) : Int) - 8 from by omega) (show j ≤ 8 from by omega) (show (V21 0 2).toInt = ((kg + 1 : Nat) : Int) from by (first | exact om_064febd7b2a5 xlp4_2 hz20 pq23 | omega)) (show kg + 1 ≤ 4000 from by (first | exact om_39fe2737fdae xlp4_2 f18 | omega)) (by rw [← xlp4_4]; show _ = apm j p0 (stp (sgm p0 (shv (j + 1))) kg); rw [← ey, ← es, stp_i (by omega) (by omega)]) (by rw [ef24, ← xlp4_5]; show _ = apF sgm j p0 (stp (sgm p0 (shv (j + 1))) kg) (wrF (sgm p0 (shv (j + 1))) kg (V3 1)); rw [← ey, ← es, stp_i (by omega) (by omega), wrF_i (by omega) (by omega)]) (by (first | exact om_74a39192ceaa hn hz22 | omega)) (agr.up (agr.up (agr.tr agr.rf ajV3 (by decide) (by decide)) hV19 rfl) hV21 rfl) hMV21 hP hD hS (lv_sub hl [0, 2, 3] rfl)
        · skip
          have f27 : z11.toInt ≠ 10 := b_neq rfl (by decide) c12
          refine lv_iload hx hb dX12_lay_24 (lv_at hl 0 rfl) ?_
          refine lv_bipush (v := 32) hx hb dX12_lay_26 (by decide) ?_
          refine lv_icmp_lt (tgt := 69) hx hb dX12_lay_28 (by decide) (fun c28 => ?_) (fun c28 => ?_)
          · skip
            have f29 : z11.toInt < 32 := b_lt rfl (by decide) c28
            obtain ⟨z30, ez30⟩ : ∃ y : Int32, y = y2 + (-8) := ⟨_, rfl⟩
            have hz30 : z30.toInt = y2.toInt + (-8) := i_add ez30 rfl (by decide) (by (first | exact om_cd1367a02e57 klp4_0.2 f8 | omega))
            refine lv_iinc (v := z30) (lv' := [(3, .int z30), (4, .int z11), (0, .ref (ad 0)), (1, .long p0)]) hx hb dX12_lay_69 hl (k := 1) rfl (by rw [ez30]; rfl) (by decide) rfl (fun ls hl => ?_)
            refine lv_goto (tgt := 3) hx hb dX12_lay_72 (by decide) ?_
            have ef31 : V3 1 = V3 1 := rfl
            exact ihlp4 (j) (kg) z30 V3 H locs ls (by (first | exact om_0850c42f4b69 klp4_0.2 f8 hz30 | omega)) (show z30.toInt = 8 * ((j : Nat) : Int) - 8 from by omega) (show j ≤ 8 from by omega) (show (V3 0 2).toInt = ((kg : Nat) : Int) from by (first | exact om_08e0c9701055 xlp4_2 | omega)) (show kg ≤ 4000 from by (first | exact om_af64e361c991 xlp4_3 | omega)) (by rw [← xlp4_4]; show _ = apm j p0 (stp (sgm p0 (shv (j + 1))) kg); rw [← ey, ← es, stp_j (by omega)]) (by rw [ef31, ← xlp4_5]; show _ = apF sgm j p0 (stp (sgm p0 (shv (j + 1))) kg) (wrF (sgm p0 (shv (j + 1))) kg (V3 1)); rw [← ey, ← es, stp_j (by omega), wrF_j (by omega)]) (by (first | exact om_74a39192ceaa hn hz30 | omega)) (agr.tr agr.rf ajV3 (by decide) (by decide)) hMV3 hP hD hS (lv_sub hl [0, 2, 3] rfl)
          · skip
            have f32 : 32 ≤ z11.toInt := b_nlt rfl (by decide) c28
            refine lv_iload hx hb dX12_lay_31 (lv_at hl 0 rfl) ?_
            refine lv_bipush (v := 126) hx hb dX12_lay_33 (by decide) ?_
            refine lv_icmp_gt (tgt := 69) hx hb dX12_lay_35 (by decide) (fun c33 => ?_) (fun c33 => ?_)
            · skip
              have f34 : 126 < z11.toInt := b_lt (by decide) rfl c33
              obtain ⟨z35, ez35⟩ : ∃ y : Int32, y = y2 + (-8) := ⟨_, rfl⟩
              have hz35 : z35.toInt = y2.toInt + (-8) := i_add ez35 rfl (by decide) (by (first | exact om_cd1367a02e57 klp4_0.2 f8 | omega))
              refine lv_iinc (v := z35) (lv' := [(3, .int z35), (4, .int z11), (0, .ref (ad 0)), (1, .long p0)]) hx hb dX12_lay_69 hl (k := 1) rfl (by rw [ez35]; rfl) (by decide) rfl (fun ls hl => ?_)
              refine lv_goto (tgt := 3) hx hb dX12_lay_72 (by decide) ?_
              have ef36 : V3 1 = V3 1 := rfl
              exact ihlp4 (j) (kg) z35 V3 H locs ls (by (first | exact om_0850c42f4b69 klp4_0.2 f8 hz35 | omega)) (show z35.toInt = 8 * ((j : Nat) : Int) - 8 from by omega) (show j ≤ 8 from by omega) (show (V3 0 2).toInt = ((kg : Nat) : Int) from by (first | exact om_08e0c9701055 xlp4_2 | omega)) (show kg ≤ 4000 from by (first | exact om_af64e361c991 xlp4_3 | omega)) (by rw [← xlp4_4]; show _ = apm j p0 (stp (sgm p0 (shv (j + 1))) kg); rw [← ey, ← es, stp_j (by omega)]) (by rw [ef36, ← xlp4_5]; show _ = apF sgm j p0 (stp (sgm p0 (shv (j + 1))) kg) (wrF (sgm p0 (shv (j + 1))) kg (V3 1)); rw [← ey, ← es, stp_j (by omega), wrF_j (by omega)]) (by (first | exact om_74a39192ceaa hn hz35 | omega)) (agr.tr agr.rf ajV3 (by decide) (by decide)) hMV3 hP hD hS (lv_sub hl [0, 2, 3] rfl)
            · skip
              have f37 : z11.toInt ≤ 126 := b_nlt (by decide) rfl c33
              refine lv_aload_n hx hb dX12_lay_38 rfl (lv_at hl 2 rfl) ?_
              refine va_get (D := D) (ci := 12) (v := .int (V3 0 2)) (C := RX12) (T := TX12) (N := 100) hx hb hg inX12 hown hK hP 0 rfl rfl 2 (by decide) (hg _ w1708) (fun _ h9 => h9) rfl dX12_lay_39 ?_
              refine lv_sipush (v := 4000) hx hb dX12_lay_42 (by decide) ?_
              refine lv_icmp_ge (tgt := 69) hx hb dX12_lay_45 (by decide) (fun c38 => ?_) (fun c38 => ?_)
              · skip
                have f39 : 4000 ≤ ((V3 0 2)).toInt := b_le (by decide) rfl c38
                obtain ⟨z40, ez40⟩ : ∃ y : Int32, y = y2 + (-8) := ⟨_, rfl⟩
                have hz40 : z40.toInt = y2.toInt + (-8) := i_add ez40 rfl (by decide) (by (first | exact om_cd1367a02e57 klp4_0.2 f8 | omega))
                refine lv_iinc (v := z40) (lv' := [(3, .int z40), (4, .int z11), (0, .ref (ad 0)), (1, .long p0)]) hx hb dX12_lay_69 hl (k := 1) rfl (by rw [ez40]; rfl) (by decide) rfl (fun ls hl => ?_)
                refine lv_goto (tgt := 3) hx hb dX12_lay_72 (by decide) ?_
                have ef41 : V3 1 = V3 1 := rfl
                exact ihlp4 (j) (kg) z40 V3 H locs ls (by (first | exact om_0850c42f4b69 klp4_0.2 f8 hz40 | omega)) (show z40.toInt = 8 * ((j : Nat) : Int) - 8 from by omega) (show j ≤ 8 from by omega) (show (V3 0 2).toInt = ((kg : Nat) : Int) from by (first | exact om_e4dc208c913d xlp4_2 xlp4_3 f39 | omega)) (show kg ≤ 4000 from by (first | exact om_af64e361c991 xlp4_3 | omega)) (by rw [← xlp4_4]; show _ = apm j p0 (stp (sgm p0 (shv (j + 1))) kg); rw [← ey, ← es, stp_j (by omega)]) (by rw [ef41, ← xlp4_5]; show _ = apF sgm j p0 (stp (sgm p0 (shv (j + 1))) kg) (wrF (sgm p0 (shv (j + 1))) kg (V3 1)); rw [← ey, ← es, stp_j (by omega), wrF_j (by omega)]) (by (first | exact om_74a39192ceaa hn hz40 | omega)) (agr.tr agr.rf ajV3 (by decide) (by decide)) hMV3 hP hD hS (lv_sub hl [0, 2, 3] rfl)
              · skip
                have f42 : ((V3 0 2)).toInt < 4000 := b_nle (by decide) rfl c38
                refine lv_aload_n hx hb dX12_lay_48 rfl (lv_at hl 2 rfl) ?_
                refine va_get (D := D) (ci := 12) (v := .ref (ad 1)) (C := RX12) (T := TX12) (N := 100) hx hb hg inX12 hown hK hP 0 rfl rfl 1 (by decide) (hg _ w1707) (fun _ h9 => h9) rfl dX12_lay_49 ?_
                refine lv_aload_n hx hb dX12_lay_52 rfl (lv_at hl 2 rfl) ?_
                refine va_get (D := D) (ci := 12) (v := .int (V3 0 2)) (C := RX12) (T := TX12) (N := 100) hx hb hg inX12 hown hK hP 0 rfl rfl 2 (by decide) (hg _ w1708) (fun _ h9 => h9) rfl dX12_lay_53 ?_
                refine lv_iload hx hb dX12_lay_56 (lv_at hl 0 rfl) ?_
                refine va_iast (D := D) (i := (V3 0 2)) (x := z11) hx hb hK hP hD hS 1 0 rfl rfl (i_in (a := ((V3 0 2)).toInt) rfl (by omega)) dX12_lay_58 (fun H locs hP hD hS => ?_)
                obtain ⟨V43, hV43⟩ : ∃ z, z = up2 V3 1 (Int32.toNatClampNeg (V3 0 2)) z11 := ⟨_, rfl⟩
                have hP : va_P D vwCl (mw ad kk ks.1 V43 L) H := by rw [hV43]; exact hP
                have hD : va_D A (mw ad kk ks.1 V43 L) := by rw [hV43]; exact hD
                have hMV43 : rgd bM V43 := hMV3.put hV43 (i_full _)
                have agV43 : agr [(0, 2)] [1] V V43 := agV3.up hV43 rfl
                refine lv_aload_n hx hb dX12_lay_59 rfl (lv_at hl 2 rfl) ?_
                refine lv_dup hx hb dX12_lay_60 rfl ?_
                refine va_get (D := D) (ci := 12) (v := .int (V43 0 2)) (C := RX12) (T := TX12) (N := 100) hx hb hg inX12 hown hK hP 0 rfl rfl 2 (by decide) (hg _ w1708) (fun _ h9 => h9) rfl dX12_lay_61 ?_
                refine g_top (v := (V3 0 2)) (up2_o hV43 (by decide)) ?_
                refine lv_iconst (v := 1) hx hb dX12_lay_64 (by decide) ?_
                refine lv_iadd hx hb dX12_lay_65 ?_
                refine lv_topi (fun z44 ez44 => ?_)
                have hz44 : z44.toInt = ((V3 0 2)).toInt + 1 := i_add ez44 rfl (by decide) (by (first | exact om_67c6ad613360 r5.1 f42 | omega))
                refine va_put (D := D) (ci := 12) (v := .int z44) (ty := tyX12 2) (C := RX12) (T := TX12) (N := 100) hx hb hg inX12 tyX12 tyX12_ok nmX12 hown hK hP hD hS 0 rfl rfl 2 (by decide) (hg _ w1708) (fun _ h9 => h9) rfl (tyX12_ok 2 (by decide)) rfl rfl (Nat.le_of_ble_eq_true rfl) dX12_lay_66 (fun H locs hP hD hS => ?_)
                obtain ⟨V45, hV45⟩ : ∃ z, z = up2 V43 0 2 z44 := ⟨_, rfl⟩
                have hP : va_P D vwCl (mw ad kk ks.1 V45 L) H := by rw [hV45]; exact hP
                have hD : va_D A (mw ad kk ks.1 V45 L) := by rw [hV45]; exact hD
                have hMV45 : rgd bM V45 := hMV43.put hV45 (show 0 ≤ z44.toInt ∧ z44.toInt ≤ 4000 from by (first | exact om_44a0a3faffcf r5.1 f42 hz44 | omega))
                have agV45 : agr [(0, 2)] [1] V V45 := agV43.up hV45 rfl
                obtain ⟨z46, ez46⟩ : ∃ y : Int32, y = y2 + (-8) := ⟨_, rfl⟩
                have hz46 : z46.toInt = y2.toInt + (-8) := i_add ez46 rfl (by decide) (by (first | exact om_cd1367a02e57 klp4_0.2 f8 | omega))
                refine lv_iinc (v := z46) (lv' := [(3, .int z46), (4, .int z11), (0, .ref (ad 0)), (1, .long p0)]) hx hb dX12_lay_69 hl (k := 1) rfl (by rw [ez46]; rfl) (by decide) rfl (fun ls hl => ?_)
                refine lv_goto (tgt := 3) hx hb dX12_lay_72 (by decide) ?_
                have pq47 : (V45 0 2).toInt = z44.toInt := congrArg Int32.toInt (up2_s hV45)
                have kz49 := i_clamp (x := (V3 0 2)) rfl (by (first | exact om_eafa9039069c r5.1 | omega))
                have en50 : (Int32.toNatClampNeg (V3 0 2)) = kg := by (first | exact om_c4e1e142d663 xlp4_2 kz49 | omega)
                have ef48 : V45 1 = upd (V3 1) kg z11 := by rw [up2_fo hV45 (by decide), up2_fn hV43, en50]
                exact ihlp4 (j) (kg + 1) z46 V45 H locs ls (by (first | exact om_0850c42f4b69 klp4_0.2 f8 hz46 | omega)) (show z46.toInt = 8 * ((j : Nat) : Int) - 8 from by omega) (show j ≤ 8 from by omega) (show (V45 0 2).toInt = ((kg + 1 : Nat) : Int) from by (first | exact om_064febd7b2a5 xlp4_2 hz44 pq47 | omega)) (show kg + 1 ≤ 4000 from by (first | exact om_39fe2737fdae xlp4_2 f42 | omega)) (by rw [← xlp4_4]; show _ = apm j p0 (stp (sgm p0 (shv (j + 1))) kg); rw [← ey, ← es, stp_i (by omega) (by omega)]) (by rw [ef48, ← xlp4_5]; show _ = apF sgm j p0 (stp (sgm p0 (shv (j + 1))) kg) (wrF (sgm p0 (shv (j + 1))) kg (V3 1)); rw [← ey, ← es, stp_i (by omega) (by omega), wrF_i (by omega) (by omega)]) (by (first | exact om_74a39192ceaa hn hz46 | omega)) (agr.up (agr.up (agr.tr agr.rf ajV3 (by decide) (by decide)) hV43 rfl) hV45 rfl) hMV45 hP hD hS (lv_sub hl [0, 2, 3] rfl)
  have r51 : Int32.toInt 56 = 56 := by decide
  exact lp4 (((Int32.toInt 56) + 8 + 1 : Int).toNat) (8) (k0) 56 V H locs ls (by decide) (show (Int32.toInt 56) = 8 * ((8 : Nat) : Int) - 8 from by (first | exact om_5096ece6e03a r51 | omega)) (show 8 ≤ 8 from by omega) (show (V 0 2).toInt = ((k0 : Nat) : Int) from by (first | exact om_08e0c9701055 y1 | omega)) (show k0 ≤ 4000 from by (first | exact om_4bc1f7c5a8a4 y1 r1.2 | omega)) rfl rfl (by omega) agr.rf hMV hP hD hS (lv_sub hl [0, 1, 2] rfl)
abbrev r_s_feed3 : Room := { frames := 1, cells := 0, slots := 0, locals := 24 }
abbrev q_s_feed3 (D : va_G) (ks : KS) (ad : Nat → Nat) (kk : Nat → ClassId) (V : Vf) (L : Lf) (p0 : Int64) (p1 : Int64) (p2 : Int64) (k0 : Nat) (A : Nat → Prop) : Array Value → State → Outcome → State → Prop := va_Qi (fun (r : Int32) (u : Vf × Lf) => rgd bM u.1 ∧ agr [(0, 0), (0, 2)] [1] V u.1 ∧ u.2 = L ∧ (r.toInt = ((apm 8 p2 (apm 8 p1 (apm 8 p0 k0)) : Nat) : Int)) ∧ ((u.1 0 2).toInt = ((apm 8 p2 (apm 8 p1 (apm 8 p0 k0)) : Nat) : Int)) ∧ ((u.1 1) = apF sgm 8 p2 (apm 8 p1 (apm 8 p0 k0)) (apF sgm 8 p1 (apm 8 p0 k0) (apF sgm 8 p0 k0 (V 1))))) (fun u t => gq D A (mw ad kk ks.1 u.1 u.2) (mty kk) t) A
set_option maxHeartbeats 4000000 in
set_option maxRecDepth 100000 in
theorem s_feed3 (l : Launch) (D : va_G) (ks : KS) (sz : Nat) (ad : Nat → Nat) (kk : Nat → ClassId) (V : Vf) (L : Lf) (p0 : Int64) (p1 : Int64) (p2 : Int64) (k0 : Nat) (hMV : rgd bM V) (y1 : (V 0 2).toInt = (k0 : Int))  : Met l yX12_feed (Cond.code yX12_feed cX12_feed 7 (some .int) :: GW) r_s_feed3 (va_Pc [.ref (ad 0), .long p0, .long p1, .long p2] (gp D ks (mw ad kk ks.1 V L) (mty kk) sz)) (q_s_feed3 D ks ad kk V L p0 p1 p2 k0 (va_A (mw ad kk ks.1 V L) sz)) 0 0 (va_A (mw ad kk ks.1 V L) sz) := by
  refine g_met (q_s_feed3 D ks ad kk V L p0 p1 p2 k0) (by decide) (Nat.le_of_ble_eq_true rfl) ?_
  intro p e s m below meth c A ls H locs hx hb hr hml hown hg hlocks hin hnw hgk hP hK hD hS hA hl
  have hown : s.vm.findClass RX12 = some m.cls := hown
  have hl : lv_has ls 7 [(0, .ref (ad 0)), (1, .long p0), (3, .long p1), (5, .long p2)] := hl
  have hP : va_P D vwCl (mw ad kk ks.1 V L) H := hP
  have hD : va_D A (mw ad kk ks.1 V L) := hD
  have hK : va_K D vwCl (mty kk) s := hK
  have agV : agr [(0, 0), (0, 2)] [1] V V := agr.rf
  have r1 : 0 ≤ ((V 0 2)).toInt ∧ ((V 0 2)).toInt ≤ 4000 := hMV 0 2
  refine lv_aload_n hx hb dX12_feed_0 rfl (lv_at hl 0 rfl) ?_
  refine lv_iconst (v := 0) hx hb dX12_feed_1 (by decide) ?_
  refine va_put (D := D) (ci := 12) (v := .int 0) (ty := tyX12 0) (C := RX12) (T := TX12) (N := 100) hx hb hg inX12 tyX12 tyX12_ok nmX12 hown hK hP hD hS 0 rfl rfl 0 (by decide) (hg _ w1706) (fun _ h9 => h9) rfl (tyX12_ok 0 (by decide)) rfl rfl (Nat.le_of_ble_eq_true rfl) dX12_feed_2 (fun H locs hP hD hS => ?_)
  obtain ⟨V2, hV2⟩ : ∃ z, z = up2 V 0 0 0 := ⟨_, rfl⟩
  have hP : va_P D vwCl (mw ad kk ks.1 V2 L) H := by rw [hV2]; exact hP
  have hD : va_D A (mw ad kk ks.1 V2 L) := by rw [hV2]; exact hD
  have hMV2 : rgd bM V2 := hMV.put hV2 (i_full _)
  have agV2 : agr [(0, 0), (0, 2)] [1] V V2 := agV.up hV2 rfl
  refine lv_aload_n hx hb dX12_feed_5 rfl (lv_at hl 0 rfl) ?_
  refine lv_lload_n hx hb dX12_feed_6 rfl (lv_at hl 1 rfl) ?_
  have pq3 : (V2 0 2).toInt = ((V 0 2)).toInt := congrArg Int32.toInt (up2_k hV2 (by decide))
  refine gA_void (gA_runV (As := [.long p0]) (rest := []) (ci := 12) (q0 := 0) hx hb hml hown hg hP hD hK hS hA hnw hgk (s_lay2 l D ks H.size ad kk V2 L p0 (k0) hMV2 (show (V2 0 2).toInt = ((k0) : Int) from by (first | exact om_adf531c77a0d y1 pq3 | omega))) w1685 w1687 w81 w172 w1689 rfl rfl hdV_yX12_lay ⟨Nat.le_of_ble_eq_true rfl, Nat.le_of_ble_eq_true rfl⟩ rfl hl.1 rfl (Nat.le_of_ble_eq_true rfl) dX12_feed_7 ⟨Nat.le_of_ble_eq_true rfl, Nat.le_of_ble_eq_true rfl⟩) hP hD hK hS hA (fun u5 H locs w6 hP hD hK hS => ?_)
  obtain ⟨V9, L10⟩ := u5
  obtain ⟨hMV9, ajV9, axL10, t7, t8⟩ := w6
  have axL10 : L = L10 := Eq.symm axL10
  subst axL10
  have hP : va_P D vwCl (mw ad kk ks.1 V9 L) H := hP
  have hD : va_D A (mw ad kk ks.1 V9 L) := hD
  have hMV9 : rgd bM V9 := hMV9
  have ajV9 : agr [(0, 2)] [1] V2 V9 := ajV9
  have agV9 : agr [(0, 0), (0, 2)] [1] V V9 := agV2.tr ajV9 (by decide) (by decide)
  have t7 : (V9 0 2).toInt = ((apm 8 (p0) (k0) : Nat) : Int) := t7
  have t8 : (V9 1) = apF sgm 8 (p0) (k0) (V2 1) := t8
  have r11 : 0 ≤ ((V9 0 2)).toInt ∧ ((V9 0 2)).toInt ≤ 4000 := hMV9 0 2
  refine lv_aload_n hx hb dX12_feed_10 rfl (lv_at hl 0 rfl) ?_
  refine lv_lload_n hx hb dX12_feed_11 rfl (lv_at hl 2 rfl) ?_
  refine gA_void (gA_runV (As := [.long p1]) (rest := []) (ci := 12) (q0 := 0) hx hb hml hown hg hP hD hK hS hA hnw hgk (s_lay2 l D ks H.size ad kk V9 L p1 (apm 8 p0 k0) hMV9 (show (V9 0 2).toInt = ((apm 8 p0 k0) : Int) from by (first | exact om_08e0c9701055 t7 | omega))) w1685 w1687 w81 w172 w1689 rfl rfl hdV_yX12_lay ⟨Nat.le_of_ble_eq_true rfl, Nat.le_of_ble_eq_true rfl⟩ rfl hl.1 rfl (Nat.le_of_ble_eq_true rfl) dX12_feed_12 ⟨Nat.le_of_ble_eq_true rfl, Nat.le_of_ble_eq_true rfl⟩) hP hD hK hS hA (fun u13 H locs w14 hP hD hK hS => ?_)
  obtain ⟨V17, L18⟩ := u13
  obtain ⟨hMV17, ajV17, axL18, t15, t16⟩ := w14
  have axL18 : L = L18 := Eq.symm axL18
  subst axL18
  have hP : va_P D vwCl (mw ad kk ks.1 V17 L) H := hP
  have hD : va_D A (mw ad kk ks.1 V17 L) := hD
  have hMV17 : rgd bM V17 := hMV17
  have ajV17 : agr [(0, 2)] [1] V9 V17 := ajV17
  have agV17 : agr [(0, 0), (0, 2)] [1] V V17 := agV9.tr ajV17 (by decide) (by decide)
  have t15 : (V17 0 2).toInt = ((apm 8 (p1) (apm 8 p0 k0) : Nat) : Int) := t15
  have t16 : (V17 1) = apF sgm 8 (p1) (apm 8 p0 k0) (V9 1) := t16
  have r19 : 0 ≤ ((V17 0 2)).toInt ∧ ((V17 0 2)).toInt ≤ 4000 := hMV17 0 2
  refine lv_aload_n hx hb dX12_feed_15 rfl (lv_at hl 0 rfl) ?_
  refine lv_lload hx hb dX12_feed_16 (lv_at hl 3 rfl) ?_
  refine gA_void (gA_runV (As := [.long p2]) (rest := []) (ci := 12) (q0 := 0) hx hb hml hown hg hP hD hK hS hA hnw hgk (s_lay2 l D ks H.size ad kk V17 L p2 (apm 8 p1 (apm 8 p0 k0)) hMV17 (show (V17 0 2).toInt = ((apm 8 p1 (apm 8 p0 k0)) : Int) from by (first | exact om_08e0c9701055 t15 | omega))) w1685 w1687 w81 w172 w1689 rfl rfl hdV_yX12_lay ⟨Nat.le_of_ble_eq_true rfl, Nat.le_of_ble_eq_true rfl⟩ rfl hl.1 rfl (Nat.le_of_ble_eq_true rfl) dX12_feed_18 ⟨Nat.le_of_ble_eq_true rfl, Nat.le_of_ble_eq_true rfl⟩) hP hD hK hS hA (fun u21 H locs w22 hP hD hK hS => ?_)
  obtain ⟨V25, L26⟩ := u21
  obtain ⟨hMV25, ajV25, axL26, t23, t24⟩ := w22
  have axL26 : L = L26 := Eq.symm axL26
  subst axL26
  have hP : va_P D vwCl (mw ad kk ks.1 V25 L) H := hP
  have hD : va_D A (mw ad kk ks.1 V25 L) := hD
  have hMV25 : rgd bM V25 := hMV25
  have ajV25 : agr [(0, 2)] [1] V17 V25 := ajV25
  have agV25 : agr [(0, 0), (0, 2)] [1] V V25 := agV17.tr ajV25 (by decide) (by decide)
  have t23 : (V25 0 2).toInt = ((apm 8 (p2) (apm 8 p1 (apm 8 p0 k0)) : Nat) : Int) := t23
  have t24 : (V25 1) = apF sgm 8 (p2) (apm 8 p1 (apm 8 p0 k0)) (V17 1) := t24
  have r27 : 0 ≤ ((V25 0 2)).toInt ∧ ((V25 0 2)).toInt ≤ 4000 := hMV25 0 2
  refine lv_aload_n hx hb dX12_feed_21 rfl (lv_at hl 0 rfl) ?_
  refine va_get (D := D) (ci := 12) (v := .int (V25 0 2)) (C := RX12) (T := TX12) (N := 100) hx hb hg inX12 hown hK hP 0 rfl rfl 2 (by decide) (hg _ w1708) (fun _ h9 => h9) rfl dX12_feed_22 ?_
  have rp28 : V25 1 = apF sgm 8 p2 (apm 8 p1 (apm 8 p0 k0)) (apF sgm 8 p1 (apm 8 p0 k0) (apF sgm 8 p0 k0 (V 1))) := by rw [t24, t16, t8, up2_fo hV2 (by decide)]
  exact W.iret (v := (V25 0 2)) hx hb hr (fun t ht hW => ⟨⟨(V25 0 2), (V25, L), rfl, ⟨hMV25, agV25, rfl, (show ((V25 0 2)).toInt = ((apm 8 p2 (apm 8 p1 (apm 8 p0 k0)) : Nat) : Int) from by (first | exact om_08e0c9701055 t23 | omega)), (show (V25 0 2).toInt = ((apm 8 p2 (apm 8 p1 (apm 8 p0 k0)) : Nat) : Int) from by (first | exact om_08e0c9701055 t23 | omega)), rp28⟩, by rw [ht]; exact hP, va_K.moved hW.alike hK, hD⟩, hS.F ht⟩) hS.2.2 dX12_feed_25
