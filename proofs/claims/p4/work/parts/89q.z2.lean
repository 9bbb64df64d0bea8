theorem Km_mthN {T : Tk} {s : St} {F : Int} (h : ∀ kk, mthW T s 3 kk = Cbad F) (kk : Nat × St → Cf) : mthN T s kk = Cbad F := by
  have hn : ¬ (T.1 (s.1 0) = 3 ∧ mTold s (T.2.1 (s.1 0)) = true) := by
    rintro ⟨a, b⟩
    have z := h (fun _ => Cdone s)
    rw [mth_y a] at z
    unfold mTold at b
    unfold nbrW at z
    cases e : fndI (s.2.1 3) (T.2.1 (s.1 0)) with
    | none => rw [e] at b; exact absurd (show false = true from b) (by decide)
    | some f => rw [e] at z; exact absurd z (fun q => by cases q)
  exact (mthN_y hn kk).trans (h kk)
/-! a list of types, E's (reference) -/
def LTI (V : Vf) (L : Lf) (q n : Nat) (T : Tk) (s : St) (l2 : List Int64) (m more : Int) : Prop :=
  ((V 0 8).toInt = 0 ∧ more = 1 ∧ ∃ (s1 : St) (sn : List Nat), (∀ k, Rc T (Crun s (Itypes 0 [] :: k)) (Crun s1 (Itypes m.toNat sn :: k))) ∧ RelM V L q n T s1 l2 ∧ keepS s 0 s1 ∧ LST V m sn) ∨ ((V 0 8).toInt = 0 ∧ more = 0 ∧ ∃ s1 : St, (∀ k, Rc T (Crun s (Itypes 0 [] :: k)) (Crun s1 k)) ∧ RelM V L q n T s1 l2 ∧ keepS s 1 s1) ∨ (1 ≤ (V 0 8).toInt ∧ ∀ k, Rc T (Crun s (Itypes 0 [] :: k)) (Cbad (V 0 8).toInt))
theorem EM.of {V : Vf} {s : St} (h : EM V s) (k : s.1 4 = 0) : 0 ≤ (V 0 51).toInt ∧ (V 27 (Int32.toNatClampNeg (V 0 51))).toInt = ((s.1 1 : Nat) : Int) := ⟨h.1.mpr k, h.2.2 (h.1.mpr k)⟩


abbrev r_s_takeTypesA15 : Room := { frames := 3, cells := 0, slots := 0, locals := 71 }
abbrev q_s_takeTypesA15 (D : va_G) (ks : KS) (ad : Nat → Nat) (kk : Nat → ClassId) (V : Vf) (L : Lf) (p1 : Int32) (bq : Nat) (gn : Nat) (gT : Tk) (gs : St) (gl : List Int64) (A : Nat → Prop) : Array Value → State → Outcome → State → Prop := va_Qv (fun (u : Vf × Lf) => rgd bM u.1 ∧ agr [(0, 7), (0, 8)] [15, 21, 53] V u.1 ∧ u.2 = L ∧ (RdM gT gs (fun k => Itypes 0 [] :: k) (fun k => k) (u.1 0 8).toInt (fun s9 => RelM u.1 u.2 bq gn gT s9 gl ∧ keepS gs 1 s9))) (fun u t => gq D A (mw ad kk ks.1 u.1 u.2) (mty kk) t) A
set_option maxHeartbeats 4000000 in
set_option maxRecDepth 100000 in
theorem s_takeTypesA15 (l : Launch) (D : va_G) (ks : KS) (sz : Nat) (ad : Nat → Nat) (kk : Nat → ClassId) (V : Vf) (L : Lf) (p1 : Int32) (bq : Nat) (gn : Nat) (gT : Tk) (gs : St) (gl : List Int64) (hMV : rgd bM V) (rg_p1 : 0 ≤ p1.toInt ∧ p1.toInt ≤ 47) (rel : RelM V L bq gn gT gs gl)  : Met l yX12_takeTypes (Cond.code yX12_takeTypes cX12_takeTypes 7 none :: GW) r_s_takeTypesA15 (va_Pc [.ref (ad 0), .ref (ad 15), .int p1] (gp D ks (mw ad kk ks.1 V L) (mty kk) sz)) (q_s_takeTypesA15 D ks ad kk V L p1 bq gn gT gs gl (va_A (mw ad kk ks.1 V L) sz)) 0 0 (va_A (mw ad kk ks.1 V L) sz) := by
  refine g_met (q_s_takeTypesA15 D ks ad kk V L p1 bq gn gT gs gl) (by decide) (Nat.le_of_ble_eq_true rfl) ?_
  intro p e s m below meth c A ls H locs hx hb hr hml hown hg hlocks hin hnw hgk hP hK hD hS hA hl
  have hown : s.vm.findClass RX12 = some m.cls := hown
  have hl : lv_has ls 7 [(0, .ref (ad 0)), (1, .ref (ad 15)), (2, .int p1)] := hl
  have hP : va_P D vwCl (mw ad kk ks.1 V L) H := hP
  have hD : va_D A (mw ad kk ks.1 V L) := hD
  have hK : va_K D vwCl (mty kk) s := hK
  have agV : agr [(0, 7), (0, 8)] [15, 21, 53] V V := agr.rf
  have rf_p1 := i_full p1
  have rg0 := RelM.rg rel
  have cl0 := RelM.cl rel
  have cq0 := RelM.cq rel
  refine lv_iconst (v := 0) hx hb dX12_takeTypes_0 (by decide) ?_
  refine lv_istore_n (lv' := [(3, .int 0), (0, .ref (ad 0)), (1, .ref (ad 15)), (2, .int p1)]) hx hb dX12_takeTypes_1 rfl hl (by decide) rfl (fun ls hl => ?_)
  refine lv_iconst (v := 1) hx hb dX12_takeTypes_2 (by decide) ?_
  refine lv_istore (lv' := [(4, .int 1), (3, .int 0), (0, .ref (ad 0)), (1, .ref (ad 15)), (2, .int p1)]) hx hb dX12_takeTypes_3 hl (by decide) rfl (fun ls hl => ?_)
  have lp5 : ∀ (fulp5 : Nat) (g4 : Int) (y1 : Int32) (y2 : Int32) (V3 : Vf) (H : Heap) (locs : List Loc) (ls : Array Slot), 0 ≤ y1.toInt ∧ y1.toInt ≤ 1 → 0 ≤ y2.toInt ∧ y2.toInt ≤ 6 → LTI V3 L bq gn gT gs gl y2.toInt y1.toInt → 0 ≤ g4 → y2.toInt ≤ 6 → Imp ((V3 0 8).toInt = 0) (7 - y2.toInt < g4) → (V3 0 12).toInt = (V 0 12).toInt → g4 < (fulp5 : Int) → agr [(0, 7), (0, 8)] [15, 21, 53] V V3 → rgd bM V3 → va_P D vwCl (mw ad kk ks.1 V3 L) H → va_D A (mw ad kk ks.1 V3 L) → va_S A s.heap H locs → lv_has ls 7 [(4, .int y1), (3, .int y2), (0, .ref (ad 0)), (1, .ref (ad 15)), (2, .int p1)] → W p l e r_s_takeTypesA15 s m ([.ref (ad 0), .ref (ad 15), .int p1] : List Value).toArray below meth c H locs 0 0 (MQ below (q_s_takeTypesA15 D ks ad kk V L p1 bq gn gT gs gl A) ([.ref (ad 0), .ref (ad 15), .int p1] : List Value).toArray s 0 0 A) (F0 m 5 ls []) := by
    intro fulp5
    induction fulp5 with
    | zero =>
      intro g4 y1 y2 V3 H locs ls klp5_0 klp5_1 xlp5_0 xlp5_1 xlp5_2 xlp5_3 xlp5_4 hn ajV3 hMV3 hP hD hS hl
      exfalso; omega
    | succ fulp5 ihlp5 =>
      intro g4 y1 y2 V3 H locs ls klp5_0 klp5_1 xlp5_0 xlp5_1 xlp5_2 xlp5_3 xlp5_4 hn ajV3 hMV3 hP hD hS hl
      have agV3 : agr [(0, 7), (0, 8)] [15, 21, 53] V V3 := agV.tr ajV3 (by decide) (by decide)
      have r6 : 0 ≤ ((V3 0 8)).toInt ∧ ((V3 0 8)).toInt ≤ 70000 := hMV3 0 8
      have pq7 : (V3 0 12).toInt = ((V 0 12)).toInt := congrArg Int32.toInt (ajV3 0 12 rfl)
      have r8 : 0 ≤ ((V 0 12)).toInt ∧ ((V 0 12)).toInt ≤ 1 := hMV 0 12
      refine lv_iload hx hb dX12_takeTypes_5 (lv_at hl 0 rfl) ?_
      rcases xlp5_0 with ⟨f8, m8, s1, sn, hq, rq, kq, lq⟩ | ⟨f8, m8, s1, hq, rq, kq⟩ | ⟨f8, hq⟩
      · skip
        have fz9 := RelM.rg rq
        refine lv_if_eq (tgt := 195) hx hb dX12_takeTypes_7 (by decide) (fun c10 => ?_) (fun c10 => ?_)
        · skip
          have f11 : y1.toInt = 0 := b_eq rfl (by decide) c10
          exfalso; first | omega | ((try (have i_xlp5_3 := Imp.go xlp5_3 (by omega))); omega)
        · skip
          have f12 : y1.toInt ≠ 0 := b_neq rfl (by decide) c10
          refine lv_aload_n hx hb dX12_takeTypes_10 rfl (lv_at hl 2 rfl) ?_
          refine va_get (D := D) (ci := 12) (v := .int (V3 0 8)) (C := RX12) (T := TX12) (N := 100) hx hb hg inX12 hown hK hP 0 rfl rfl 8 (by decide) (hg _ w1714) (fun _ h9 => h9) rfl dX12_takeTypes_11 ?_
          refine lv_if_ne (tgt := 195) hx hb dX12_takeTypes_14 (by decide) (fun c13 => ?_) (fun c13 => ?_)
          · skip
            have f14 : ((V3 0 8)).toInt ≠ 0 := b_neq rfl (by decide) c13
            exfalso; first | omega | ((try (have i_xlp5_3 := Imp.go xlp5_3 (by omega))); omega)
          · skip
            have f15 : ((V3 0 8)).toInt = 0 := b_eq rfl (by decide) c13
            refine lv_aload_n hx hb dX12_takeTypes_17 rfl (lv_at hl 2 rfl) ?_
            refine gA_int (gA_runV (As := []) (rest := []) (ci := 12) (q0 := 0) hx hb hml hown hg hP hD hK hS hA hnw hgk (s_takeTypeA l D ks H.size ad kk V3 L (bq) (gn) (gT) (s1) (gl) hMV3 rq) w2059 w2061 w92 w172 w2062 rfl rfl hdV_yX12_takeType ⟨Nat.le_of_ble_eq_true rfl, Nat.le_of_ble_eq_true rfl⟩ rfl hl.1 rfl (Nat.le_of_ble_eq_true rfl) dX12_takeTypes_18 ⟨Nat.le_of_ble_eq_true rfl, Nat.le_of_ble_eq_true rfl⟩) hP hD hK hS hA (fun z16 u17 H locs w18 hP hD hK hS => ?_)
            obtain ⟨V20, L21⟩ := u17
            obtain ⟨hMV20, ajV20, axL21, rgz16, t19⟩ := w18
            have axL21 : L = L21 := Eq.symm axL21
            subst axL21
            have hP : va_P D vwCl (mw ad kk ks.1 V20 L) H := hP
            have hD : va_D A (mw ad kk ks.1 V20 L) := hD
            have hMV20 : rgd bM V20 := hMV20
            have ajV20 : agr [(0, 7), (0, 8)] [] V3 V20 := ajV20
            have agV20 : agr [(0, 7), (0, 8)] [15, 21, 53] V V20 := agV3.tr ajV20 (by decide) (by decide)
            have rgz16 : (-1) ≤ z16.toInt ∧ z16.toInt ≤ 23 := rgz16
            have t19 : KmN (look (gT) (s1) ((s1).2.1 0)) (V20 0 8).toInt (fun f9 => RelM V20 L (bq) (gn) (gT) (nx (s1) 1) (gl) ∧ z16.toInt = ((f9 : Nat) : Int) ∧ f9 < 24) := t19
            rcases t19 with ⟨q22, fx23, h24, rl25, hf26, hb27⟩ | ⟨q22, h24⟩
            · skip
              have ps28 : (nx s1 1).1 0 = s1.1 0 + 1 := rfl
              have fz29 := RelM.rg rl25
              have r30 : 0 ≤ ((V20 0 8)).toInt ∧ ((V20 0 8)).toInt ≤ 70000 := hMV20 0 8
              refine lv_istore (lv' := [(5, .int z16), (4, .int y1), (3, .int y2), (0, .ref (ad 0)), (1, .ref (ad 15)), (2, .int p1)]) hx hb dX12_takeTypes_21 hl (by decide) rfl (fun ls hl => ?_)
              refine lv_aload_n hx hb dX12_takeTypes_23 rfl (lv_at hl 3 rfl) ?_
              refine lv_dup hx hb dX12_takeTypes_24 rfl ?_
              refine va_get (D := D) (ci := 12) (v := .int (V20 0 7)) (C := RX12) (T := TX12) (N := 100) hx hb hg inX12 hown hK hP 0 rfl rfl 7 (by decide) (hg _ w1713) (fun _ h9 => h9) rfl dX12_takeTypes_25 ?_
              refine lv_iconst (v := 1) hx hb dX12_takeTypes_28 (by decide) ?_
              refine lv_isub hx hb dX12_takeTypes_29 ?_
              refine lv_topi (fun z31 ez31 => ?_)
              have hz31 : z31.toInt = ((V20 0 7)).toInt - 1 := i_sub ez31 rfl (by decide) (by omega)
              refine va_put (D := D) (ci := 12) (v := .int z31) (ty := tyX12 7) (C := RX12) (T := TX12) (N := 100) hx hb hg inX12 tyX12 tyX12_ok nmX12 hown hK hP hD hS 0 rfl rfl 7 (by decide) (hg _ w1713) (fun _ h9 => h9) rfl (tyX12_ok 7 (by decide)) rfl rfl (Nat.le_of_ble_eq_true rfl) dX12_takeTypes_30 (fun H locs hP hD hS => ?_)
              obtain ⟨V32, hV32⟩ : ∃ z, z = up2 V20 0 7 z31 := ⟨_, rfl⟩
              have hP : va_P D vwCl (mw ad kk ks.1 V32 L) H := by rw [hV32]; exact hP
              have hD : va_D A (mw ad kk ks.1 V32 L) := by rw [hV32]; exact hD
              have hMV32 : rgd bM V32 := hMV20.put hV32 (i_full _)
              have agV32 : agr [(0, 7), (0, 8)] [15, 21, 53] V V32 := agV20.up hV32 rfl
              have pq33 : (V32 0 8).toInt = ((V20 0 8)).toInt := congrArg Int32.toInt (up2_k hV32 (by decide))
              have rl34 : RelM V32 L bq gn gT s1 gl := RelM.v8 rl25 hV32 (by omega)
              have fz35 := RelM.rg rl34
              have pq36 : (V32 0 7).toInt = z31.toInt := congrArg Int32.toInt (up2_s hV32)
              refine lv_iconst (v := 0) hx hb dX12_takeTypes_33 (by decide) ?_
              refine lv_istore (lv' := [(6, .int 0), (5, .int z16), (4, .int y1), (3, .int y2), (0, .ref (ad 0)), (1, .ref (ad 15)), (2, .int p1)]) hx hb dX12_takeTypes_34 hl (by decide) rfl (fun ls hl => ?_)
              have lp39 : ∀ (fulp39 : Nat) (y37 : Int32) (V38 : Vf) (H : Heap) (locs : List Loc) (ls : Array Slot), 0 ≤ y37.toInt ∧ y37.toInt ≤ 6 → (((V38 0 8).toInt = 0 ∧ RelM V38 L bq gn gT s1 gl ∧ (∀ k : Nat, (k : Int) < y37.toInt → (V38 53 k).toInt ≠ z16.toInt)) ∨ (1 ≤ (V38 0 8).toInt ∧ ∀ k, Rc gT (Crun gs (Itypes 0 [] :: k)) (Cbad (V38 0 8).toInt))) → y37.toInt ≤ y2.toInt → Imp (1 ≤ (V32 0 8).toInt) ((V38 0 8).toInt = (V32 0 8).toInt) → y2.toInt - y37.toInt < (fulp39 : Int) → agr [(0, 8)] [] V32 V38 → rgd bM V38 → va_P D vwCl (mw ad kk ks.1 V38 L) H → va_D A (mw ad kk ks.1 V38 L) → va_S A s.heap H locs → lv_has ls 7 [(6, .int y37), (5, .int z16), (4, .int y1), (3, .int y2), (0, .ref (ad 0)), (1, .ref (ad 15)), (2, .int p1)] → W p l e r_s_takeTypesA15 s m ([.ref (ad 0), .ref (ad 15), .int p1] : List Value).toArray below meth c H locs 0 0 (MQ below (q_s_takeTypesA15 D ks ad kk V L p1 bq gn gT gs gl A) ([.ref (ad 0), .ref (ad 15), .int p1] : List Value).toArray s 0 0 A) (F0 m 36 ls []) := by
                intro fulp39
                induction fulp39 with
                | zero =>
                  intro y37 V38 H locs ls klp39_0 xlp39_0 xlp39_1 xlp39_2 hn ajV38 hMV38 hP hD hS hl
                  exfalso; omega
                | succ fulp39 ihlp39 =>
                  intro y37 V38 H locs ls klp39_0 xlp39_0 xlp39_1 xlp39_2 hn ajV38 hMV38 hP hD hS hl
                  have agV38 : agr [(0, 7), (0, 8)] [15, 21, 53] V V38 := agV32.tr ajV38 (by decide) (by decide)
                  refine lv_iload hx hb dX12_takeTypes_36 (lv_at hl 0 rfl) ?_
                  rcases xlp39_0 with ⟨f7, ri, ni⟩ | ⟨f7, hi⟩
                  · skip
                    have fz40 := RelM.rg ri
                    have r41 : 0 ≤ ((V38 0 8)).toInt ∧ ((V38 0 8)).toInt ≤ 70000 := hMV38 0 8
                    have pq42 : (V38 0 7).toInt = z31.toInt := congrArg Int32.toInt ((ajV38 0 7 rfl).trans (up2_s hV32))
                    refine lv_iload_n hx hb dX12_takeTypes_38 rfl (lv_at hl 3 rfl) ?_
                    refine lv_icmp_ge (tgt := 72) hx hb dX12_takeTypes_39 (by decide) (fun c43 => ?_) (fun c43 => ?_)
                    · skip
                      have f44 : y2.toInt ≤ y37.toInt := b_le rfl rfl c43
                      refine lv_aload_n hx hb dX12_takeTypes_72 rfl (lv_at hl 4 rfl) ?_
                      refine va_get (D := D) (ci := 12) (v := .int (V38 0 8)) (C := RX12) (T := TX12) (N := 100) hx hb hg inX12 hown hK hP 0 rfl rfl 8 (by decide) (hg _ w1714) (fun _ h9 => h9) rfl dX12_takeTypes_73 ?_
                      refine lv_if_ne (tgt := 90) hx hb dX12_takeTypes_76 (by decide) (fun c45 => ?_) (fun c45 => ?_)
                      · skip
                        have f46 : ((V38 0 8)).toInt ≠ 0 := b_neq rfl (by decide) c45
                        exfalso; first | omega | ((try (have i_xlp39_2 := Imp.go xlp39_2 (by omega))); (try (have i_xlp5_3 := Imp.go xlp5_3 (by omega))); (try (have i_xlp5_3 := Imp.go xlp5_3 (by omega))); (try (have i_xlp39_2 := Imp.go xlp39_2 (by omega))); omega)
                      · skip
                        have f47 : ((V38 0 8)).toInt = 0 := b_eq rfl (by decide) c45
                        refine lv_iload_n hx hb dX12_takeTypes_79 rfl (lv_at hl 3 rfl) ?_
                        refine lv_bipush (v := 6) hx hb dX12_takeTypes_80 (by decide) ?_
                        refine lv_icmp_ne (tgt := 90) hx hb dX12_takeTypes_82 (by decide) (fun c48 => ?_) (fun c48 => ?_)
                        · skip
                          have f49 : y2.toInt ≠ 6 := b_neq rfl (by decide) c48
                          refine lv_aload_n hx hb dX12_takeTypes_90 rfl (lv_at hl 4 rfl) ?_
                          refine lv_dup hx hb dX12_takeTypes_91 rfl ?_
                          refine va_get (D := D) (ci := 12) (v := .int (V38 0 7)) (C := RX12) (T := TX12) (N := 100) hx hb hg inX12 hown hK hP 0 rfl rfl 7 (by decide) (hg _ w1713) (fun _ h9 => h9) rfl dX12_takeTypes_92 ?_
                          refine g_top (v := z31) ((ajV38 0 7 rfl).trans (up2_s hV32)) ?_
                          refine lv_iconst (v := 1) hx hb dX12_takeTypes_95 (by decide) ?_
                          refine lv_iadd hx hb dX12_takeTypes_96 ?_
                          refine lv_topi (fun z50 ez50 => ?_)
                          have hz50 : z50.toInt = z31.toInt + 1 := i_add ez50 rfl (by decide) (by omega)
                          refine va_put (D := D) (ci := 12) (v := .int z50) (ty := tyX12 7) (C := RX12) (T := TX12) (N := 100) hx hb hg inX12 tyX12 tyX12_ok nmX12 hown hK hP hD hS 0 rfl rfl 7 (by decide) (hg _ w1713) (fun _ h9 => h9) rfl (tyX12_ok 7 (by decide)) rfl rfl (Nat.le_of_ble_eq_true rfl) dX12_takeTypes_97 (fun H locs hP hD hS => ?_)
                          obtain ⟨V51, hV51⟩ : ∃ z, z = up2 V38 0 7 z50 := ⟨_, rfl⟩
                          have hP : va_P D vwCl (mw ad kk ks.1 V51 L) H := by rw [hV51]; exact hP
                          have hD : va_D A (mw ad kk ks.1 V51 L) := by rw [hV51]; exact hD
                          have hMV51 : rgd bM V51 := hMV38.put hV51 (i_full _)
                          have agV51 : agr [(0, 7), (0, 8)] [15, 21, 53] V V51 := agV38.up hV51 rfl
                          have nn52 : fx23 ∉ sn := (LST.no (LST.ag lq (by rw [(funext (fun q => ajV38 53 q rfl) : V38 53 = V32 53), (up2_fo hV32 (by decide) : V32 53 = V20 53), (funext (fun q => ajV20 53 q rfl) : V20 53 = V3 53)] : V38 53 = V3 53)) (fun k h9 => by rw [← hf26]; exact ni k (by omega)))
                          have kd53 : gT.1 (s1.1 0) ≠ 0 := look_ne h24
                          have rl54 : RelM V51 L bq gn gT (nx s1 1) gl := RelM.n1 ri hV51 (by omega) kd53
                          have hr55 : ∀ k, Rc gT (Crun gs (Itypes 0 [] :: k)) (Crun (nx s1 1) (Imore (y2.toInt.toNat + 1) (fx23 :: sn) :: k)) := fun k => Rc.go1 (hq k) (ty_y h24 nn52 (by omega))
                          have fz56 := RelM.rg rl54
                          have pq57 : (V51 0 8).toInt = ((V38 0 8)).toInt := congrArg Int32.toInt (up2_k hV51 (by decide))
                          have pq58 : (V51 0 7).toInt = z50.toInt := congrArg Int32.toInt (up2_s hV51)
                          refine lv_aload_n hx hb dX12_takeTypes_100 rfl (lv_at hl 4 rfl) ?_
                          refine va_get (D := D) (ci := 12) (v := .int (V51 0 8)) (C := RX12) (T := TX12) (N := 100) hx hb hg inX12 hown hK hP 0 rfl rfl 8 (by decide) (hg _ w1714) (fun _ h9 => h9) rfl dX12_takeTypes_101 ?_
                          refine g_top (v := (V38 0 8)) (up2_k hV51 (by decide)) ?_
                          refine lv_if_ne (tgt := 184) hx hb dX12_takeTypes_104 (by decide) (fun c59 => ?_) (fun c59 => ?_)
                          · skip
                            have f60 : ((V38 0 8)).toInt ≠ 0 := b_neq rfl (by decide) c59
                            exfalso; first | omega | ((try (have i_xlp39_2 := Imp.go xlp39_2 (by omega))); (try (have i_xlp5_3 := Imp.go xlp5_3 (by omega))); (try (have i_xlp5_3 := Imp.go xlp5_3 (by omega))); (try (have i_xlp39_2 := Imp.go xlp39_2 (by omega))); omega)
                          · skip
                            have f61 : ((V38 0 8)).toInt = 0 := b_eq rfl (by decide) c59
                            refine lv_aload_n hx hb dX12_takeTypes_107 rfl (lv_at hl 4 rfl) ?_
                            refine va_get (D := D) (ci := 12) (v := .ref (ad 53)) (C := RX12) (T := TX12) (N := 100) hx hb hg inX12 hown hK hP 0 rfl rfl 53 (by decide) (hg _ w1759) (fun _ h9 => h9) rfl dX12_takeTypes_108 ?_
                            refine lv_iload_n hx hb dX12_takeTypes_111 rfl (lv_at hl 3 rfl) ?_
                            refine lv_iload hx hb dX12_takeTypes_112 (lv_at hl 1 rfl) ?_
                            refine va_iast (D := D) (i := y2) (x := z16) hx hb hK hP hD hS 41 40 rfl rfl (i_in (a := y2.toInt) rfl (by first | omega | ((try (have i_xlp39_2 := Imp.go xlp39_2 (by omega))); (try (have i_xlp5_3 := Imp.go xlp5_3 (by omega))); (try (have i_xlp5_3 := Imp.go xlp5_3 (by omega))); (try (have i_xlp39_2 := Imp.go xlp39_2 (by omega))); omega))) dX12_takeTypes_114 (fun H locs hP hD hS => ?_)
                            obtain ⟨V62, hV62⟩ : ∃ z, z = up2 V51 53 (Int32.toNatClampNeg y2) z16 := ⟨_, rfl⟩
                            have hP : va_P D vwCl (mw ad kk ks.1 V62 L) H := by rw [hV62]; exact hP
                            have hD : va_D A (mw ad kk ks.1 V62 L) := by rw [hV62]; exact hD
                            have hMV62 : rgd bM V62 := hMV51.put hV62 (show (-1) ≤ z16.toInt ∧ z16.toInt ≤ 23 from by first | omega | ((try (have i_xlp39_2 := Imp.go xlp39_2 (by omega))); (try (have i_xlp5_3 := Imp.go xlp5_3 (by omega))); (try (have i_xlp5_3 := Imp.go xlp5_3 (by omega))); (try (have i_xlp39_2 := Imp.go xlp39_2 (by omega))); omega))
                            have agV62 : agr [(0, 7), (0, 8)] [15, 21, 53] V V62 := agV51.up hV62 rfl
                            obtain ⟨z64, ez64⟩ : ∃ y : Int32, y = y2 + 1 := ⟨_, rfl⟩
                            have hz64 : z64.toInt = y2.toInt + 1 := i_add ez64 rfl (by decide) (by omega)
                            refine lv_iinc (v := z64) (lv' := [(3, .int z64), (6, .int y37), (5, .int z16), (4, .int y1), (0, .ref (ad 0)), (1, .ref (ad 15)), (2, .int p1)]) hx hb dX12_takeTypes_115 hl (k := 3) rfl (by rw [ez64]; rfl) (by decide) rfl (fun ls hl => ?_)
                            have ls65 : LST V62 z64.toInt (fx23 :: sn) := LST.add (LST.ag lq (by rw [(up2_fo hV51 (by decide) : V51 53 = V38 53), (funext (fun q => ajV38 53 q rfl) : V38 53 = V32 53), (up2_fo hV32 (by decide) : V32 53 = V20 53), (funext (fun q => ajV20 53 q rfl) : V20 53 = V3 53)] : V51 53 = V3 53)) hV62 rfl (by omega) (by omega) (by omega)
                            refine lv_iconst (v := 0) hx hb dX12_takeTypes_118 (by decide) ?_
                            refine lv_istore (lv' := [(6, .int 0), (3, .int z64), (5, .int z16), (4, .int y1), (0, .ref (ad 0)), (1, .ref (ad 15)), (2, .int p1)]) hx hb dX12_takeTypes_119 hl (by decide) rfl (fun ls hl => ?_)
                            have lp68 : ∀ (fulp68 : Nat) (y66 : Int32) (V67 : Vf) (H : Heap) (locs : List Loc) (ls : Array Slot), 0 ≤ y66.toInt ∧ y66.toInt ≤ 24 → 24 - y66.toInt < (fulp68 : Int) → agr [] [15, 21] V62 V67 → rgd bM V67 → va_P D vwCl (mw ad kk ks.1 V67 L) H → va_D A (mw ad kk ks.1 V67 L) → va_S A s.heap H locs → lv_has ls 7 [(6, .int y66), (3, .int z64), (5, .int z16), (4, .int y1), (0, .ref (ad 0)), (1, .ref (ad 15)), (2, .int p1)] → W p l e r_s_takeTypesA15 s m ([.ref (ad 0), .ref (ad 15), .int p1] : List Value).toArray below meth c H locs 0 0 (MQ below (q_s_takeTypesA15 D ks ad kk V L p1 bq gn gT gs gl A) ([.ref (ad 0), .ref (ad 15), .int p1] : List Value).toArray s 0 0 A) (F0 m 121 ls []) := by
                              intro fulp68
                              induction fulp68 with
                              | zero =>
                                intro y66 V67 H locs ls klp68_0 hn ajV67 hMV67 hP hD hS hl
                                exfalso; omega
                              | succ fulp68 ihlp68 =>
                                intro y66 V67 H locs ls klp68_0 hn ajV67 hMV67 hP hD hS hl
                                have agV67 : agr [(0, 7), (0, 8)] [15, 21, 53] V V67 := agV62.tr ajV67 (by decide) (by decide)
                                refine lv_iload hx hb dX12_takeTypes_121 (lv_at hl 0 rfl) ?_
                                refine lv_bipush (v := 24) hx hb dX12_takeTypes_123 (by decide) ?_
                                refine lv_icmp_ge (tgt := 184) hx hb dX12_takeTypes_125 (by decide) (fun c69 => ?_) (fun c69 => ?_)
                                · skip
                                  have f70 : 24 ≤ y66.toInt := b_le (by decide) rfl c69
                                  refine lv_aload_n hx hb dX12_takeTypes_184 rfl (lv_at hl 4 rfl) ?_
                                  refine lv_bipush (v := 44) hx hb dX12_takeTypes_185 (by decide) ?_
                                  have rl71 : RelM V67 L bq gn gT (nx s1 1) gl := RelM.ag rl54 (show agr [] [15, 21, 53] V51 V67 from (agr.tr (agr.up agr.rf hV62 rfl) ajV67 (by decide) (by decide))) (by decide) (show agL [] L L from agL.rf) (by decide)
                                  have r72 : Int32.toInt 44 = 44 := by decide
                                  refine gA_int (gA_runV (As := [.int 44]) (rest := []) (ci := 12) (q0 := 0) hx hb hml hown hg hP hD hK hS hA hnw hgk (s_hasSignA l D ks H.size ad kk V67 L 44 (bq) (gn) (gT) ((nx s1 1)) (gl) hMV67 rl71 (sg_yes (j := 44) (by decide) (by decide) (by decide))) w2067 w2069 w94 w172 w2070 rfl rfl hdV_yX12_hasSign ⟨Nat.le_of_ble_eq_true rfl, Nat.le_of_ble_eq_true rfl⟩ rfl hl.1 rfl (Nat.le_of_ble_eq_true rfl) dX12_takeTypes_187 ⟨Nat.le_of_ble_eq_true rfl, Nat.le_of_ble_eq_true rfl⟩) hP hD hK hS hA (fun z73 u74 H locs w75 hP hD hK hS => ?_)
                                  obtain ⟨V77, L78⟩ := u74
                                  obtain ⟨hMV77, ajV77, axL78, rgz73, t76⟩ := w75
                                  have axL78 : L = L78 := Eq.symm axL78
                                  subst axL78
                                  have hP : va_P D vwCl (mw ad kk ks.1 V77 L) H := hP
                                  have hD : va_D A (mw ad kk ks.1 V77 L) := hD
                                  have hMV77 : rgd bM V77 := hMV77
                                  have ajV77 : agr [(0, 7)] [] V67 V77 := ajV77
                                  have agV77 : agr [(0, 7), (0, 8)] [15, 21, 53] V V77 := agV67.tr ajV77 (by decide) (by decide)
                                  have rgz73 : 0 ≤ z73.toInt ∧ z73.toInt ≤ 1 := rgz73
                                  have t76 : (z73.toInt = 1 ∧ (gT).1 (((nx s1 1)).1 0) = (Int32.toInt 44) ∧ RelM V77 L (bq) (gn) (gT) (nx ((nx s1 1)) 1) (gl)) ∨ (z73.toInt = 0 ∧ (gT).1 (((nx s1 1)).1 0) ≠ (Int32.toInt 44) ∧ RelM V77 L (bq) (gn) (gT) ((nx s1 1)) (gl)) := t76
                                  rcases t76 with ⟨q79, h80, rl81⟩ | ⟨q79, h80, rl81⟩
                                  · skip
                                    have kd82 : gT.1 ((nx s1 1).1 0) = 44 := h80.trans (by decide)
                                    have hr83 : ∀ k, Rc gT (Crun gs (Itypes 0 [] :: k)) (Crun (nx (nx s1 1) 1) (Itypes (y2.toInt.toNat + 1) (fx23 :: sn) :: k)) := fun k => Rc.go1 (hr55 k) (more_y (y2.toInt.toNat + 1) (fx23 :: sn) kd82)
                                    have ps84 : (nx (nx s1 1) 1).1 0 = (nx s1 1).1 0 + 1 := rfl
                                    have fz85 := RelM.rg rl81
                                    have pq86 : (V77 0 8).toInt = ((V38 0 8)).toInt := congrArg Int32.toInt ((ajV77 0 8 rfl).trans ((ajV67 0 8 rfl).trans ((up2_o hV62 (by decide)).trans (up2_k hV51 (by decide)))))
                                    refine lv_istore (lv' := [(4, .int z73), (6, .int y66), (3, .int z64), (5, .int z16), (0, .ref (ad 0)), (1, .ref (ad 15)), (2, .int p1)]) hx hb dX12_takeTypes_190 hl (by decide) rfl (fun ls hl => ?_)
                                    refine lv_goto (tgt := 5) hx hb dX12_takeTypes_192 (by decide) ?_
                                    have pq87 : (V77 0 12).toInt = ((V 0 12)).toInt := congrArg Int32.toInt ((ajV77 0 12 rfl).trans ((ajV67 0 12 rfl).trans ((up2_o hV62 (by decide)).trans ((up2_k hV51 (by decide)).trans ((ajV38 0 12 rfl).trans ((up2_k hV32 (by decide)).trans ((ajV20 0 12 rfl).trans (ajV3 0 12 rfl))))))))
                                    exact ihlp5 (g4 - 1) z73 z64 V77 H locs ls (by first | omega | ((try (have i_xlp39_2 := Imp.go xlp39_2 (by omega))); (try (have i_xlp5_3 := Imp.go xlp5_3 (by omega))); (try (have i_xlp5_3 := Imp.go xlp5_3 (by omega))); (try (have i_xlp39_2 := Imp.go xlp39_2 (by omega))); omega)) (by first | omega | ((try (have i_xlp39_2 := Imp.go xlp39_2 (by omega))); (try (have i_xlp5_3 := Imp.go xlp5_3 (by omega))); (try (have i_xlp5_3 := Imp.go xlp5_3 (by omega))); (try (have i_xlp39_2 := Imp.go xlp39_2 (by omega))); omega)) (Or.inl ⟨W0 rl81, (by omega), (nx (nx s1 1) 1), (fx23 :: sn), (by rw [show z64.toInt.toNat = (y2.toInt.toNat + 1) from by omega]; exact hr83), rl81, keepS.le (keepS.tr (keepS.tr (keepS.tr (keepS.rf : keepS gs 0 gs) kq) (keepS.n1 1)) (keepS.n1 1)) (by decide), LST.ag ls65 (by rw [(funext (fun q => ajV77 53 q rfl) : V77 53 = V67 53), (funext (fun q => ajV67 53 q rfl) : V67 53 = V62 53)] : V77 53 = V62 53)⟩) (show 0 ≤ (g4 - 1) from by first | omega | ((try (have i_xlp39_2 := Imp.go xlp39_2 (by omega))); (try (have i_xlp5_3 := Imp.go xlp5_3 (by omega))); (try (have i_xlp5_3 := Imp.go xlp5_3 (by omega))); (try (have i_xlp39_2 := Imp.go xlp39_2 (by omega))); omega)) (show z64.toInt ≤ 6 from by first | omega | ((try (have i_xlp39_2 := Imp.go xlp39_2 (by omega))); (try (have i_xlp5_3 := Imp.go xlp5_3 (by omega))); (try (have i_xlp5_3 := Imp.go xlp5_3 (by omega))); (try (have i_xlp39_2 := Imp.go xlp39_2 (by omega))); omega)) (Imp.mk (fun hp => have hp : (V77 0 8).toInt = 0 := hp; (show 7 - z64.toInt < (g4 - 1) from by first | omega | ((try (have i_xlp39_2 := Imp.go xlp39_2 (by omega))); (try (have i_xlp5_3 := Imp.go xlp5_3 (by omega))); (try (have i_xlp5_3 := Imp.go xlp5_3 (by omega))); (try (have i_xlp39_2 := Imp.go xlp39_2 (by omega))); omega)))) (show (V77 0 12).toInt = (V 0 12).toInt from by first | omega | ((try (have i_xlp39_2 := Imp.go xlp39_2 (by omega))); (try (have i_xlp5_3 := Imp.go xlp5_3 (by omega))); (try (have i_xlp5_3 := Imp.go xlp5_3 (by omega))); (try (have i_xlp39_2 := Imp.go xlp39_2 (by omega))); omega)) (by first | omega | ((try (have i_xlp39_2 := Imp.go xlp39_2 (by omega))); (try (have i_xlp5_3 := Imp.go xlp5_3 (by omega))); (try (have i_xlp5_3 := Imp.go xlp5_3 (by omega))); (try (have i_xlp39_2 := Imp.go xlp39_2 (by omega))); omega)) (agr.tr (agr.tr (agr.up (agr.up (agr.tr (agr.up (agr.tr (agr.tr agr.rf ajV3 (by decide) (by decide)) ajV20 (by decide) (by decide)) hV32 rfl) ajV38 (by decide) (by decide)) hV51 rfl) hV62 rfl) ajV67 (by decide) (by decide)) ajV77 (by decide) (by decide)) hMV77 hP hD hS (lv_sub hl [0, 2, 4, 5, 6] rfl)
                                  · skip
                                    have kd88 : gT.1 ((nx s1 1).1 0) ≠ 44 := fun h9 => h80 (h9.trans (by decide))
                                    have fz89 := RelM.rg rl81
                                    have pq90 : (V77 0 8).toInt = ((V38 0 8)).toInt := congrArg Int32.toInt ((ajV77 0 8 rfl).trans ((ajV67 0 8 rfl).trans ((up2_o hV62 (by decide)).trans (up2_k hV51 (by decide)))))
                                    refine lv_istore (lv' := [(4, .int z73), (6, .int y66), (3, .int z64), (5, .int z16), (0, .ref (ad 0)), (1, .ref (ad 15)), (2, .int p1)]) hx hb dX12_takeTypes_190 hl (by decide) rfl (fun ls hl => ?_)
                                    refine lv_goto (tgt := 5) hx hb dX12_takeTypes_192 (by decide) ?_
                                    have pq91 : (V77 0 12).toInt = ((V 0 12)).toInt := congrArg Int32.toInt ((ajV77 0 12 rfl).trans ((ajV67 0 12 rfl).trans ((up2_o hV62 (by decide)).trans ((up2_k hV51 (by decide)).trans ((ajV38 0 12 rfl).trans ((up2_k hV32 (by decide)).trans ((ajV20 0 12 rfl).trans (ajV3 0 12 rfl))))))))
                                    have hr92 : ∀ k, Rc gT (Crun gs (Itypes 0 [] :: k)) (Crun (nx s1 1) (k)) := fun k => Rc.go1 (hr55 k) (more_n (y2.toInt.toNat + 1) (fx23 :: sn) kd88)
                                    exact ihlp5 (g4 - 1) z73 z64 V77 H locs ls (by first | omega | ((try (have i_xlp39_2 := Imp.go xlp39_2 (by omega))); (try (have i_xlp5_3 := Imp.go xlp5_3 (by omega))); (try (have i_xlp5_3 := Imp.go xlp5_3 (by omega))); (try (have i_xlp39_2 := Imp.go xlp39_2 (by omega))); omega)) (by first | omega | ((try (have i_xlp39_2 := Imp.go xlp39_2 (by omega))); (try (have i_xlp5_3 := Imp.go xlp5_3 (by omega))); (try (have i_xlp5_3 := Imp.go xlp5_3 (by omega))); (try (have i_xlp39_2 := Imp.go xlp39_2 (by omega))); omega)) (Or.inr (Or.inl ⟨W0 rl81, (by omega), (nx s1 1), hr92, rl81, keepS.le (keepS.tr (keepS.tr (keepS.rf : keepS gs 0 gs) kq) (keepS.n1 1)) (by decide)⟩)) (show 0 ≤ (g4 - 1) from by first | omega | ((try (have i_xlp39_2 := Imp.go xlp39_2 (by omega))); (try (have i_xlp5_3 := Imp.go xlp5_3 (by omega))); (try (have i_xlp5_3 := Imp.go xlp5_3 (by omega))); (try (have i_xlp39_2 := Imp.go xlp39_2 (by omega))); omega)) (show z64.toInt ≤ 6 from by first | omega | ((try (have i_xlp39_2 := Imp.go xlp39_2 (by omega))); (try (have i_xlp5_3 := Imp.go xlp5_3 (by omega))); (try (have i_xlp5_3 := Imp.go xlp5_3 (by omega))); (try (have i_xlp39_2 := Imp.go xlp39_2 (by omega))); omega)) (Imp.mk (fun hp => have hp : (V77 0 8).toInt = 0 := hp; (show 7 - z64.toInt < (g4 - 1) from by first | omega | ((try (have i_xlp39_2 := Imp.go xlp39_2 (by omega))); (try (have i_xlp5_3 := Imp.go xlp5_3 (by omega))); (try (have i_xlp5_3 := Imp.go xlp5_3 (by omega))); (try (have i_xlp39_2 := Imp.go xlp39_2 (by omega))); omega)))) (show (V77 0 12).toInt = (V 0 12).toInt from by first | omega | ((try (have i_xlp39_2 := Imp.go xlp39_2 (by omega))); (try (have i_xlp5_3 := Imp.go xlp5_3 (by omega))); (try (have i_xlp5_3 := Imp.go xlp5_3 (by omega))); (try (have i_xlp39_2 := Imp.go xlp39_2 (by omega))); omega)) (by first | omega | ((try (have i_xlp39_2 := Imp.go xlp39_2 (by omega))); (try (have i_xlp5_3 := Imp.go xlp5_3 (by omega))); (try (have i_xlp5_3 := Imp.go xlp5_3 (by omega))); (try (have i_xlp39_2 := Imp.go xlp39_2 (by omega))); omega)) (agr.tr (agr.tr (agr.up (agr.up (agr.tr (agr.up (agr.tr (agr.tr agr.rf ajV3 (by decide) (by decide)) ajV20 (by decide) (by decide)) hV32 rfl) ajV38 (by decide) (by decide)) hV51 rfl) hV62 rfl) ajV67 (by decide) (by decide)) ajV77 (by decide) (by decide)) hMV77 hP hD hS (lv_sub hl [0, 2, 4, 5, 6] rfl)
                                · skip
                                  have f93 : y66.toInt < 24 := b_nle (by decide) rfl c69
                                  refine lv_aload_n hx hb dX12_takeTypes_128 rfl (lv_at hl 5 rfl) ?_
                                  refine lv_bipush (v := 24) hx hb dX12_takeTypes_129 (by decide) ?_
                                  refine lv_iload_n hx hb dX12_takeTypes_131 rfl (lv_at hl 6 rfl) ?_
                                  refine lv_imul hx hb dX12_takeTypes_132 ?_
                                  refine lv_topi (fun z94 ez94 => ?_)
                                  have hz94 : z94.toInt = 24 * p1.toInt := i_mul ez94 (by decide) rfl (by omega)
                                  refine lv_iload hx hb dX12_takeTypes_133 (lv_at hl 0 rfl) ?_
                                  refine lv_iadd hx hb dX12_takeTypes_135 ?_
                                  refine lv_topi (fun z95 ez95 => ?_)
                                  have hz95 : z95.toInt = z94.toInt + y66.toInt := i_add ez95 rfl rfl (by omega)
                                  refine lv_aload_n hx hb dX12_takeTypes_136 rfl (lv_at hl 5 rfl) ?_
                                  refine lv_bipush (v := 24) hx hb dX12_takeTypes_137 (by decide) ?_
                                  refine lv_iload_n hx hb dX12_takeTypes_139 rfl (lv_at hl 6 rfl) ?_
                                  refine lv_imul hx hb dX12_takeTypes_140 ?_
                                  refine lv_topi (fun z96 ez96 => ?_)
                                  have hz96 : z96.toInt = 24 * p1.toInt := i_mul ez96 (by decide) rfl (by omega)
                                  refine lv_iload hx hb dX12_takeTypes_141 (lv_at hl 0 rfl) ?_
                                  refine lv_iadd hx hb dX12_takeTypes_143 ?_
                                  refine lv_topi (fun z97 ez97 => ?_)
                                  have hz97 : z97.toInt = z96.toInt + y66.toInt := i_add ez97 rfl rfl (by omega)
                                  refine va_zald (D := D) (i := z97) hx hb hK hP 8 7 rfl rfl (i_in (a := z97.toInt) rfl (by first | omega | ((try (have i_xlp39_2 := Imp.go xlp39_2 (by omega))); (try (have i_xlp5_3 := Imp.go xlp5_3 (by omega))); (try (have i_xlp5_3 := Imp.go xlp5_3 (by omega))); (try (have i_xlp39_2 := Imp.go xlp39_2 (by omega))); omega))) dX12_takeTypes_144 ?_
                                  have r98 : 0 ≤ ((V67 15 (Int32.toNatClampNeg z97))).toInt ∧ ((V67 15 (Int32.toNatClampNeg z97))).toInt ≤ 1 := hMV67 15 (Int32.toNatClampNeg z97)
                                  refine lv_if_ne (tgt := 172) hx hb dX12_takeTypes_145 (by decide) (fun c99 => ?_) (fun c99 => ?_)
                                  · skip
                                    have f100 : ((V67 15 (Int32.toNatClampNeg z97))).toInt ≠ 0 := b_neq rfl (by decide) c99
                                    refine lv_iconst (v := 1) hx hb dX12_takeTypes_172 (by decide) ?_
                                    refine lv_goto (tgt := 177) hx hb dX12_takeTypes_173 (by decide) ?_
                                    refine va_zast (D := D) (i := z95) (x := 1) hx hb hK hP hD hS 8 7 rfl rfl (i_in (a := z95.toInt) rfl (by first | omega | ((try (have i_xlp39_2 := Imp.go xlp39_2 (by omega))); (try (have i_xlp5_3 := Imp.go xlp5_3 (by omega))); (try (have i_xlp5_3 := Imp.go xlp5_3 (by omega))); (try (have i_xlp39_2 := Imp.go xlp39_2 (by omega))); omega))) dX12_takeTypes_177 (fun H locs hP hD hS => ?_)
                                    obtain ⟨V101, hV101⟩ : ∃ z, z = up2 V67 15 (Int32.toNatClampNeg z95) (vp_nar .boolean 1) := ⟨_, rfl⟩
                                    have hP : va_P D vwCl (mw ad kk ks.1 V101 L) H := by rw [hV101]; exact hP
                                    have hD : va_D A (mw ad kk ks.1 V101 L) := by rw [hV101]; exact hD
                                    have hMV101 : rgd bM V101 := hMV67.put hV101 (nar_b _)
                                    have agV101 : agr [(0, 7), (0, 8)] [15, 21, 53] V V101 := agV67.up hV101 rfl
                                    obtain ⟨z102, ez102⟩ : ∃ y : Int32, y = y66 + 1 := ⟨_, rfl⟩
                                    have hz102 : z102.toInt = y66.toInt + 1 := i_add ez102 rfl (by decide) (by omega)
                                    refine lv_iinc (v := z102) (lv' := [(6, .int z102), (3, .int z64), (5, .int z16), (4, .int y1), (0, .ref (ad 0)), (1, .ref (ad 15)), (2, .int p1)]) hx hb dX12_takeTypes_178 hl (k := 0) rfl (by rw [ez102]; rfl) (by decide) rfl (fun ls hl => ?_)
                                    refine lv_goto (tgt := 121) hx hb dX12_takeTypes_181 (by decide) ?_
                                    exact ihlp68 z102 V101 H locs ls (by first | omega | ((try (have i_xlp39_2 := Imp.go xlp39_2 (by omega))); (try (have i_xlp5_3 := Imp.go xlp5_3 (by omega))); (try (have i_xlp5_3 := Imp.go xlp5_3 (by omega))); (try (have i_xlp39_2 := Imp.go xlp39_2 (by omega))); omega)) (by first | omega | ((try (have i_xlp39_2 := Imp.go xlp39_2 (by omega))); (try (have i_xlp5_3 := Imp.go xlp5_3 (by omega))); (try (have i_xlp5_3 := Imp.go xlp5_3 (by omega))); (try (have i_xlp39_2 := Imp.go xlp39_2 (by omega))); omega)) (agr.up (agr.tr agr.rf ajV67 (by decide) (by decide)) hV101 rfl) hMV101 hP hD hS (lv_sub hl [0, 1, 2, 3, 4, 5, 6] rfl)
                                  · skip
                                    have f103 : ((V67 15 (Int32.toNatClampNeg z97))).toInt = 0 := b_eq rfl (by decide) c99
                                    refine lv_aload_n hx hb dX12_takeTypes_148 rfl (lv_at hl 4 rfl) ?_
                                    refine va_get (D := D) (ci := 12) (v := .ref (ad 15)) (C := RX12) (T := TX12) (N := 100) hx hb hg inX12 hown hK hP 0 rfl rfl 15 (by decide) (hg _ w1721) (fun _ h9 => h9) rfl dX12_takeTypes_149 ?_
                                    refine lv_bipush (v := 24) hx hb dX12_takeTypes_152 (by decide) ?_
                                    refine lv_bipush (v := 24) hx hb dX12_takeTypes_154 (by decide) ?_
                                    refine lv_aload_n hx hb dX12_takeTypes_156 rfl (lv_at hl 4 rfl) ?_
                                    refine va_get (D := D) (ci := 12) (v := .int (V67 0 12)) (C := RX12) (T := TX12) (N := 100) hx hb hg inX12 hown hK hP 0 rfl rfl 12 (by decide) (hg _ w1718) (fun _ h9 => h9) rfl dX12_takeTypes_157 ?_
                                    refine g_top (v := (V 0 12)) ((ajV67 0 12 rfl).trans ((up2_o hV62 (by decide)).trans ((up2_k hV51 (by decide)).trans ((ajV38 0 12 rfl).trans ((up2_k hV32 (by decide)).trans ((ajV20 0 12 rfl).trans (ajV3 0 12 rfl))))))) ?_
                                    refine lv_imul hx hb dX12_takeTypes_160 ?_
                                    refine lv_topi (fun z104 ez104 => ?_)
                                    have hz104 : z104.toInt = 24 * ((V 0 12)).toInt := i_mul ez104 (by decide) rfl (by omega)
                                    refine lv_iload hx hb dX12_takeTypes_161 (lv_at hl 2 rfl) ?_
                                    refine lv_iadd hx hb dX12_takeTypes_163 ?_
                                    refine lv_topi (fun z105 ez105 => ?_)
                                    have hz105 : z105.toInt = z104.toInt + z16.toInt := i_add ez105 rfl rfl (by omega)
                                    refine lv_imul hx hb dX12_takeTypes_164 ?_
                                    refine lv_topi (fun z106 ez106 => ?_)
                                    have hz106 : z106.toInt = 24 * z105.toInt := i_mul ez106 (by decide) rfl (by omega)
                                    refine lv_iload hx hb dX12_takeTypes_165 (lv_at hl 0 rfl) ?_
                                    refine lv_iadd hx hb dX12_takeTypes_167 ?_
                                    refine lv_topi (fun z107 ez107 => ?_)
                                    have hz107 : z107.toInt = z106.toInt + y66.toInt := i_add ez107 rfl rfl (by omega)
                                    refine va_zald (D := D) (i := z107) hx hb hK hP 8 7 rfl rfl (i_in (a := z107.toInt) rfl (by first | omega | ((try (have i_xlp39_2 := Imp.go xlp39_2 (by omega))); (try (have i_xlp5_3 := Imp.go xlp5_3 (by omega))); (try (have i_xlp5_3 := Imp.go xlp5_3 (by omega))); (try (have i_xlp39_2 := Imp.go xlp39_2 (by omega))); omega))) dX12_takeTypes_168 ?_
                                    have r108 : 0 ≤ ((V67 15 (Int32.toNatClampNeg z107))).toInt ∧ ((V67 15 (Int32.toNatClampNeg z107))).toInt ≤ 1 := hMV67 15 (Int32.toNatClampNeg z107)
                                    refine lv_if_eq (tgt := 176) hx hb dX12_takeTypes_169 (by decide) (fun c109 => ?_) (fun c109 => ?_)
                                    · skip
                                      have f110 : ((V67 15 (Int32.toNatClampNeg z107))).toInt = 0 := b_eq rfl (by decide) c109
                                      refine lv_iconst (v := 0) hx hb dX12_takeTypes_176 (by decide) ?_
                                      refine va_zast (D := D) (i := z95) (x := 0) hx hb hK hP hD hS 8 7 rfl rfl (i_in (a := z95.toInt) rfl (by first | omega | ((try (have i_xlp39_2 := Imp.go xlp39_2 (by omega))); (try (have i_xlp5_3 := Imp.go xlp5_3 (by omega))); (try (have i_xlp5_3 := Imp.go xlp5_3 (by omega))); (try (have i_xlp39_2 := Imp.go xlp39_2 (by omega))); omega))) dX12_takeTypes_177 (fun H locs hP hD hS => ?_)
                                      obtain ⟨V111, hV111⟩ : ∃ z, z = up2 V67 15 (Int32.toNatClampNeg z95) (vp_nar .boolean 0) := ⟨_, rfl⟩
                                      have hP : va_P D vwCl (mw ad kk ks.1 V111 L) H := by rw [hV111]; exact hP
                                      have hD : va_D A (mw ad kk ks.1 V111 L) := by rw [hV111]; exact hD
                                      have hMV111 : rgd bM V111 := hMV67.put hV111 (nar_b _)
                                      have agV111 : agr [(0, 7), (0, 8)] [15, 21, 53] V V111 := agV67.up hV111 rfl
                                      obtain ⟨z112, ez112⟩ : ∃ y : Int32, y = y66 + 1 := ⟨_, rfl⟩
                                      have hz112 : z112.toInt = y66.toInt + 1 := i_add ez112 rfl (by decide) (by omega)
                                      refine lv_iinc (v := z112) (lv' := [(6, .int z112), (3, .int z64), (5, .int z16), (4, .int y1), (0, .ref (ad 0)), (1, .ref (ad 15)), (2, .int p1)]) hx hb dX12_takeTypes_178 hl (k := 0) rfl (by rw [ez112]; rfl) (by decide) rfl (fun ls hl => ?_)
                                      refine lv_goto (tgt := 121) hx hb dX12_takeTypes_181 (by decide) ?_
                                      exact ihlp68 z112 V111 H locs ls (by first | omega | ((try (have i_xlp39_2 := Imp.go xlp39_2 (by omega))); (try (have i_xlp5_3 := Imp.go xlp5_3 (by omega))); (try (have i_xlp5_3 := Imp.go xlp5_3 (by omega))); (try (have i_xlp39_2 := Imp.go xlp39_2 (by omega))); omega)) (by first | omega | ((try (have i_xlp39_2 := Imp.go xlp39_2 (by omega))); (try (have i_xlp5_3 := Imp.go xlp5_3 (by omega))); (try (have i_xlp5_3 := Imp.go xlp5_3 (by omega))); (try (have i_xlp39_2 := Imp.go xlp39_2 (by omega))); omega)) (agr.up (agr.tr agr.rf ajV67 (by decide) (by decide)) hV111 rfl) hMV111 hP hD hS (lv_sub hl [0, 1, 2, 3, 4, 5, 6] rfl)
                                    · skip
                                      have f113 : ((V67 15 (Int32.toNatClampNeg z107))).toInt ≠ 0 := b_neq rfl (by decide) c109
                                      refine lv_iconst (v := 1) hx hb dX12_takeTypes_172 (by decide) ?_
                                      refine lv_goto (tgt := 177) hx hb dX12_takeTypes_173 (by decide) ?_
                                      refine va_zast (D := D) (i := z95) (x := 1) hx hb hK hP hD hS 8 7 rfl rfl (i_in (a := z95.toInt) rfl (by first | omega | ((try (have i_xlp39_2 := Imp.go xlp39_2 (by omega))); (try (have i_xlp5_3 := Imp.go xlp5_3 (by omega))); (try (have i_xlp5_3 := Imp.go xlp5_3 (by omega))); (try (have i_xlp39_2 := Imp.go xlp39_2 (by omega))); omega))) dX12_takeTypes_177 (fun H locs hP hD hS => ?_)
                                      obtain ⟨V114, hV114⟩ : ∃ z, z = up2 V67 15 (Int32.toNatClampNeg z95) (vp_nar .boolean 1) := ⟨_, rfl⟩
                                      have hP : va_P D vwCl (mw ad kk ks.1 V114 L) H := by rw [hV114]; exact hP
                                      have hD : va_D A (mw ad kk ks.1 V114 L) := by rw [hV114]; exact hD
                                      have hMV114 : rgd bM V114 := hMV67.put hV114 (nar_b _)
                                      have agV114 : agr [(0, 7), (0, 8)] [15, 21, 53] V V114 := agV67.up hV114 rfl
                                      obtain ⟨z115, ez115⟩ : ∃ y : Int32, y = y66 + 1 := ⟨_, rfl⟩
                                      have hz115 : z115.toInt = y66.toInt + 1 := i_add ez115 rfl (by decide) (by omega)
                                      refine lv_iinc (v := z115) (lv' := [(6, .int z115), (3, .int z64), (5, .int z16), (4, .int y1), (0, .ref (ad 0)), (1, .ref (ad 15)), (2, .int p1)]) hx hb dX12_takeTypes_178 hl (k := 0) rfl (by rw [ez115]; rfl) (by decide) rfl (fun ls hl => ?_)
                                      refine lv_goto (tgt := 121) hx hb dX12_takeTypes_181 (by decide) ?_
                                      exact ihlp68 z115 V114 H locs ls (by first | omega | ((try (have i_xlp39_2 := Imp.go xlp39_2 (by omega))); (try (have i_xlp5_3 := Imp.go xlp5_3 (by omega))); (try (have i_xlp5_3 := Imp.go xlp5_3 (by omega))); (try (have i_xlp39_2 := Imp.go xlp39_2 (by omega))); omega)) (by first | omega | ((try (have i_xlp39_2 := Imp.go xlp39_2 (by omega))); (try (have i_xlp5_3 := Imp.go xlp5_3 (by omega))); (try (have i_xlp5_3 := Imp.go xlp5_3 (by omega))); (try (have i_xlp39_2 := Imp.go xlp39_2 (by omega))); omega)) (agr.up (agr.tr agr.rf ajV67 (by decide) (by decide)) hV114 rfl) hMV114 hP hD hS (lv_sub hl [0, 1, 2, 3, 4, 5, 6] rfl)
                            have r116 : Int32.toInt 0 = 0 := by decide
                            exact lp68 ((24 - (Int32.toInt 0) + 1 : Int).toNat) 0 V62 H locs ls (by decide) (by first | omega | ((try (have i_xlp39_2 := Imp.go xlp39_2 (by omega))); (try (have i_xlp5_3 := Imp.go xlp5_3 (by omega))); (try (have i_xlp5_3 := Imp.go xlp5_3 (by omega))); (try (have i_xlp39_2 := Imp.go xlp39_2 (by omega))); omega)) agr.rf hMV62 hP hD hS (lv_sub hl [0, 1, 2, 3, 4, 5, 6] rfl)
                        · skip
                          have f117 : y2.toInt = 6 := b_eq rfl (by decide) c48
                          refine lv_aload_n hx hb dX12_takeTypes_85 rfl (lv_at hl 4 rfl) ?_
                          refine lv_iconst (v := 5) hx hb dX12_takeTypes_86 (by decide) ?_
                          have r118 : Int32.toInt 5 = 5 := by decide
                          refine gA_void (gA_runV (As := [.int 5]) (rest := []) (ci := 12) (q0 := 0) hx hb hml hown hg hP hD hK hS hA hnw hgk (s_wrongA l D ks H.size ad kk V38 L 5 (bq) (gn) (gT) (s1) (gl) hMV38 (by decide) ri) w2035 w2037 w86 w172 w2038 rfl rfl hdV_yX12_wrong ⟨Nat.le_of_ble_eq_true rfl, Nat.le_of_ble_eq_true rfl⟩ rfl hl.1 rfl (Nat.le_of_ble_eq_true rfl) dX12_takeTypes_87 ⟨Nat.le_of_ble_eq_true rfl, Nat.le_of_ble_eq_true rfl⟩) hP hD hK hS hA (fun u120 H locs w121 hP hD hK hS => ?_)
                          obtain ⟨V124, L125⟩ := u120
                          obtain ⟨hMV124, ajV124, axL125, t122, t123⟩ := w121
                          have axL125 : L = L125 := Eq.symm axL125
                          subst axL125
                          have hP : va_P D vwCl (mw ad kk ks.1 V124 L) H := hP
                          have hD : va_D A (mw ad kk ks.1 V124 L) := hD
                          have hMV124 : rgd bM V124 := hMV124
                          have ajV124 : agr [(0, 8)] [] V38 V124 := ajV124
                          have agV124 : agr [(0, 7), (0, 8)] [15, 21, 53] V V124 := agV38.tr ajV124 (by decide) (by decide)
                          have t122 : 1 ≤ (V124 0 8).toInt := t122
                          have t123 : (V124 0 8).toInt = (Int32.toInt 5) + 16 * (gT).2.2 ((s1).1 0) := t123
                          have r126 : 0 ≤ ((V124 0 8)).toInt ∧ ((V124 0 8)).toInt ≤ 70000 := hMV124 0 8
                          have hb127 : ∀ k, Rc gT (Crun gs (Itypes 0 [] :: k)) (Cbad (V124 0 8).toInt) := fun k => Rc.go1 (hq k) ((ty_5 h24 (LST.no (LST.ag lq (by rw [(funext (fun q => ajV38 53 q rfl) : V38 53 = V32 53), (up2_fo hV32 (by decide) : V32 53 = V20 53), (funext (fun q => ajV20 53 q rfl) : V20 53 = V3 53)] : V38 53 = V3 53)) (fun k h9 => by rw [← hf26]; exact ni k (by omega))) (by omega)).trans (fl_eq rfl (show (V124 0 8).toInt = 5 + 16 * gT.2.2 (s1.1 0) from by omega)))
                          refine lv_aload_n hx hb dX12_takeTypes_90 rfl (lv_at hl 4 rfl) ?_
                          refine lv_dup hx hb dX12_takeTypes_91 rfl ?_
                          refine va_get (D := D) (ci := 12) (v := .int (V124 0 7)) (C := RX12) (T := TX12) (N := 100) hx hb hg inX12 hown hK hP 0 rfl rfl 7 (by decide) (hg _ w1713) (fun _ h9 => h9) rfl dX12_takeTypes_92 ?_
                          refine g_top (v := z31) ((ajV124 0 7 rfl).trans ((ajV38 0 7 rfl).trans (up2_s hV32))) ?_
                          refine lv_iconst (v := 1) hx hb dX12_takeTypes_95 (by decide) ?_
                          refine lv_iadd hx hb dX12_takeTypes_96 ?_
                          refine lv_topi (fun z128 ez128 => ?_)
                          have hz128 : z128.toInt = z31.toInt + 1 := i_add ez128 rfl (by decide) (by omega)
                          refine va_put (D := D) (ci := 12) (v := .int z128) (ty := tyX12 7) (C := RX12) (T := TX12) (N := 100) hx hb hg inX12 tyX12 tyX12_ok nmX12 hown hK hP hD hS 0 rfl rfl 7 (by decide) (hg _ w1713) (fun _ h9 => h9) rfl (tyX12_ok 7 (by decide)) rfl rfl (Nat.le_of_ble_eq_true rfl) dX12_takeTypes_97 (fun H locs hP hD hS => ?_)
                          obtain ⟨V129, hV129⟩ : ∃ z, z = up2 V124 0 7 z128 := ⟨_, rfl⟩
                          have hP : va_P D vwCl (mw ad kk ks.1 V129 L) H := by rw [hV129]; exact hP
                          have hD : va_D A (mw ad kk ks.1 V129 L) := by rw [hV129]; exact hD
                          have hMV129 : rgd bM V129 := hMV124.put hV129 (i_full _)
                          have agV129 : agr [(0, 7), (0, 8)] [15, 21, 53] V V129 := agV124.up hV129 rfl
                          refine lv_aload_n hx hb dX12_takeTypes_100 rfl (lv_at hl 4 rfl) ?_
                          refine va_get (D := D) (ci := 12) (v := .int (V129 0 8)) (C := RX12) (T := TX12) (N := 100) hx hb hg inX12 hown hK hP 0 rfl rfl 8 (by decide) (hg _ w1714) (fun _ h9 => h9) rfl dX12_takeTypes_101 ?_
                          refine g_top (v := (V124 0 8)) (up2_k hV129 (by decide)) ?_
                          refine lv_if_ne (tgt := 184) hx hb dX12_takeTypes_104 (by decide) (fun c130 => ?_) (fun c130 => ?_)
                          · skip
                            have f131 : ((V124 0 8)).toInt ≠ 0 := b_neq rfl (by decide) c130
                            refine lv_aload_n hx hb dX12_takeTypes_184 rfl (lv_at hl 4 rfl) ?_
                            refine lv_bipush (v := 44) hx hb dX12_takeTypes_185 (by decide) ?_
                            have r132 : Int32.toInt 44 = 44 := by decide
                            have pq133 : (V129 0 8).toInt = ((V124 0 8)).toInt := congrArg Int32.toInt (up2_k hV129 (by decide))
                            refine gA_int (gA_runV (As := [.int 44]) (rest := []) (ci := 12) (q0 := 0) hx hb hml hown hg hP hD hK hS hA hnw hgk (s_hasSignB l D ks H.size ad kk V129 L 44 hMV129 (show 1 ≤ (V129 0 8).toInt from by first | omega | ((try (have i_xlp39_2 := Imp.go xlp39_2 (by omega))); (try (have i_xlp5_3 := Imp.go xlp5_3 (by omega))); (try (have i_xlp5_3 := Imp.go xlp5_3 (by omega))); (try (have i_xlp39_2 := Imp.go xlp39_2 (by omega))); omega))) w2067 w2069 w94 w172 w2070 rfl rfl hdV_yX12_hasSign ⟨Nat.le_of_ble_eq_true rfl, Nat.le_of_ble_eq_true rfl⟩ rfl hl.1 rfl (Nat.le_of_ble_eq_true rfl) dX12_takeTypes_187 ⟨Nat.le_of_ble_eq_true rfl, Nat.le_of_ble_eq_true rfl⟩) hP hD hK hS hA (fun z134 u135 H locs w136 hP hD hK hS => ?_)
                            obtain ⟨V138, L139⟩ := u135
                            obtain ⟨hMV138, ajV138, axL139, rgz134, t137⟩ := w136
                            have axL139 : L = L139 := Eq.symm axL139
                            subst axL139
                            have hP : va_P D vwCl (mw ad kk ks.1 V138 L) H := hP
                            have hD : va_D A (mw ad kk ks.1 V138 L) := hD
                            have hMV138 : rgd bM V138 := hMV138
                            have ajV138 : agr [(0, 7)] [] V129 V138 := ajV138
                            have agV138 : agr [(0, 7), (0, 8)] [15, 21, 53] V V138 := agV129.tr ajV138 (by decide) (by decide)
                            have rgz134 : 0 ≤ z134.toInt ∧ z134.toInt ≤ 0 := rgz134
                            have t137 : (V138 0 8).toInt = (V129 0 8).toInt := t137
                            have pq140 : (V138 0 8).toInt = ((V124 0 8)).toInt := congrArg Int32.toInt ((ajV138 0 8 rfl).trans (up2_k hV129 (by decide)))
                            refine lv_istore (lv' := [(4, .int z134), (6, .int y37), (5, .int z16), (3, .int y2), (0, .ref (ad 0)), (1, .ref (ad 15)), (2, .int p1)]) hx hb dX12_takeTypes_190 hl (by decide) rfl (fun ls hl => ?_)
                            refine lv_goto (tgt := 5) hx hb dX12_takeTypes_192 (by decide) ?_
                            have pq141 : (V138 0 12).toInt = ((V 0 12)).toInt := congrArg Int32.toInt ((ajV138 0 12 rfl).trans ((up2_k hV129 (by decide)).trans ((ajV124 0 12 rfl).trans ((ajV38 0 12 rfl).trans ((up2_k hV32 (by decide)).trans ((ajV20 0 12 rfl).trans (ajV3 0 12 rfl)))))))
                            exact ihlp5 (g4 - 1) z134 y2 V138 H locs ls (by first | omega | ((try (have i_xlp39_2 := Imp.go xlp39_2 (by omega))); (try (have i_xlp5_3 := Imp.go xlp5_3 (by omega))); (try (have i_xlp5_3 := Imp.go xlp5_3 (by omega))); (try (have i_xlp39_2 := Imp.go xlp39_2 (by omega))); omega)) (by first | omega | ((try (have i_xlp39_2 := Imp.go xlp39_2 (by omega))); (try (have i_xlp5_3 := Imp.go xlp5_3 (by omega))); (try (have i_xlp5_3 := Imp.go xlp5_3 (by omega))); (try (have i_xlp39_2 := Imp.go xlp39_2 (by omega))); omega)) (Or.inr (Or.inr ⟨(show 1 ≤ (V138 0 8).toInt from by omega), (fun k => by rw [show (V138 0 8).toInt = (V124 0 8).toInt from by omega]; exact hb127 k)⟩)) (show 0 ≤ (g4 - 1) from by first | omega | ((try (have i_xlp39_2 := Imp.go xlp39_2 (by omega))); (try (have i_xlp5_3 := Imp.go xlp5_3 (by omega))); (try (have i_xlp5_3 := Imp.go xlp5_3 (by omega))); (try (have i_xlp39_2 := Imp.go xlp39_2 (by omega))); omega)) (show y2.toInt ≤ 6 from by first | omega | ((try (have i_xlp39_2 := Imp.go xlp39_2 (by omega))); (try (have i_xlp5_3 := Imp.go xlp5_3 (by omega))); (try (have i_xlp5_3 := Imp.go xlp5_3 (by omega))); (try (have i_xlp39_2 := Imp.go xlp39_2 (by omega))); omega)) (Imp.mk (fun hp => have hp : (V138 0 8).toInt = 0 := hp; (show 7 - y2.toInt < (g4 - 1) from by first | omega | ((try (have i_xlp39_2 := Imp.go xlp39_2 (by omega))); (try (have i_xlp5_3 := Imp.go xlp5_3 (by omega))); (try (have i_xlp5_3 := Imp.go xlp5_3 (by omega))); (try (have i_xlp39_2 := Imp.go xlp39_2 (by omega))); omega)))) (show (V138 0 12).toInt = (V 0 12).toInt from by first | omega | ((try (have i_xlp39_2 := Imp.go xlp39_2 (by omega))); (try (have i_xlp5_3 := Imp.go xlp5_3 (by omega))); (try (have i_xlp5_3 := Imp.go xlp5_3 (by omega))); (try (have i_xlp39_2 := Imp.go xlp39_2 (by omega))); omega)) (by first | omega | ((try (have i_xlp39_2 := Imp.go xlp39_2 (by omega))); (try (have i_xlp5_3 := Imp.go xlp5_3 (by omega))); (try (have i_xlp5_3 := Imp.go xlp5_3 (by omega))); (try (have i_xlp39_2 := Imp.go xlp39_2 (by omega))); omega)) (agr.tr (agr.up (agr.tr (agr.tr (agr.up (agr.tr (agr.tr agr.rf ajV3 (by decide) (by decide)) ajV20 (by decide) (by decide)) hV32 rfl) ajV38 (by decide) (by decide)) ajV124 (by decide) (by decide)) hV129 rfl) ajV138 (by decide) (by decide)) hMV138 hP hD hS (lv_sub hl [0, 3, 4, 5, 6] rfl)
                          · skip
                            have f142 : ((V124 0 8)).toInt = 0 := b_eq rfl (by decide) c130
                            exfalso; first | omega | ((try (have i_xlp39_2 := Imp.go xlp39_2 (by omega))); (try (have i_xlp5_3 := Imp.go xlp5_3 (by omega))); (try (have i_xlp5_3 := Imp.go xlp5_3 (by omega))); (try (have i_xlp39_2 := Imp.go xlp39_2 (by omega))); omega)
                    · skip
                      have f143 : y37.toInt < y2.toInt := b_nle rfl rfl c43
                      refine lv_aload_n hx hb dX12_takeTypes_42 rfl (lv_at hl 4 rfl) ?_
                      refine va_get (D := D) (ci := 12) (v := .int (V38 0 8)) (C := RX12) (T := TX12) (N := 100) hx hb hg inX12 hown hK hP 0 rfl rfl 8 (by decide) (hg _ w1714) (fun _ h9 => h9) rfl dX12_takeTypes_43 ?_
                      refine lv_if_ne (tgt := 72) hx hb dX12_takeTypes_46 (by decide) (fun c144 => ?_) (fun c144 => ?_)
                      · skip
                        have f145 : ((V38 0 8)).toInt ≠ 0 := b_neq rfl (by decide) c144
                        exfalso; first | omega | ((try (have i_xlp39_2 := Imp.go xlp39_2 (by omega))); (try (have i_xlp5_3 := Imp.go xlp5_3 (by omega))); (try (have i_xlp5_3 := Imp.go xlp5_3 (by omega))); (try (have i_xlp39_2 := Imp.go xlp39_2 (by omega))); omega)
                      · skip
                        have f146 : ((V38 0 8)).toInt = 0 := b_eq rfl (by decide) c144
                        refine lv_aload_n hx hb dX12_takeTypes_49 rfl (lv_at hl 4 rfl) ?_
                        refine va_get (D := D) (ci := 12) (v := .ref (ad 53)) (C := RX12) (T := TX12) (N := 100) hx hb hg inX12 hown hK hP 0 rfl rfl 53 (by decide) (hg _ w1759) (fun _ h9 => h9) rfl dX12_takeTypes_50 ?_
                        refine lv_iload hx hb dX12_takeTypes_53 (lv_at hl 0 rfl) ?_
                        refine va_iald (D := D) (i := y37) hx hb hK hP 41 40 rfl rfl (i_in (a := y37.toInt) rfl (by first | omega | ((try (have i_xlp39_2 := Imp.go xlp39_2 (by omega))); (try (have i_xlp5_3 := Imp.go xlp5_3 (by omega))); (try (have i_xlp5_3 := Imp.go xlp5_3 (by omega))); (try (have i_xlp39_2 := Imp.go xlp39_2 (by omega))); omega))) dX12_takeTypes_55 ?_
                        refine g_top (v := (V3 53 (Int32.toNatClampNeg y37))) ((ajV38 53 (Int32.toNatClampNeg y37) rfl).trans ((up2_o hV32 (by decide)).trans (ajV20 53 (Int32.toNatClampNeg y37) rfl))) ?_
                        have r147 : (-1) ≤ ((V3 53 (Int32.toNatClampNeg y37))).toInt ∧ ((V3 53 (Int32.toNatClampNeg y37))).toInt ≤ 23 := hMV3 53 (Int32.toNatClampNeg y37)
                        refine lv_iload hx hb dX12_takeTypes_56 (lv_at hl 1 rfl) ?_
                        refine lv_icmp_ne (tgt := 66) hx hb dX12_takeTypes_58 (by decide) (fun c148 => ?_) (fun c148 => ?_)
                        · skip
                          have f149 : ((V3 53 (Int32.toNatClampNeg y37))).toInt ≠ z16.toInt := b_neq rfl rfl c148
                          obtain ⟨z150, ez150⟩ : ∃ y : Int32, y = y37 + 1 := ⟨_, rfl⟩
                          have hz150 : z150.toInt = y37.toInt + 1 := i_add ez150 rfl (by decide) (by omega)
                          refine lv_iinc (v := z150) (lv' := [(6, .int z150), (5, .int z16), (4, .int y1), (3, .int y2), (0, .ref (ad 0)), (1, .ref (ad 15)), (2, .int p1)]) hx hb dX12_takeTypes_66 hl (k := 0) rfl (by rw [ez150]; rfl) (by decide) rfl (fun ls hl => ?_)
                          refine lv_goto (tgt := 36) hx hb dX12_takeTypes_69 (by decide) ?_
                          have kc151 := i_clamp (x := y37) rfl (by omega)
                          have pq152 : (V38 53 (Int32.toNatClampNeg y37)).toInt = ((V3 53 (Int32.toNatClampNeg y37))).toInt := congrArg Int32.toInt ((ajV38 53 (Int32.toNatClampNeg y37) rfl).trans ((up2_o hV32 (by decide)).trans (ajV20 53 (Int32.toNatClampNeg y37) rfl)))
                          exact ihlp39 z150 V38 H locs ls (by first | omega | ((try (have i_xlp39_2 := Imp.go xlp39_2 (by omega))); (try (have i_xlp5_3 := Imp.go xlp5_3 (by omega))); (try (have i_xlp5_3 := Imp.go xlp5_3 (by omega))); (try (have i_xlp39_2 := Imp.go xlp39_2 (by omega))); omega)) (Or.inl ⟨W0 ri, ri, fun k h9 => by by_cases c9 : (k : Int) < y37.toInt; exact ni k c9; have ek : k = Int32.toNatClampNeg y37 := (by omega); rw [ek]; omega⟩) (show z150.toInt ≤ y2.toInt from by first | omega | ((try (have i_xlp39_2 := Imp.go xlp39_2 (by omega))); (try (have i_xlp5_3 := Imp.go xlp5_3 (by omega))); (try (have i_xlp5_3 := Imp.go xlp5_3 (by omega))); (try (have i_xlp39_2 := Imp.go xlp39_2 (by omega))); omega)) (Imp.mk (fun hp => have hp : 1 ≤ (V32 0 8).toInt := hp; (show (V38 0 8).toInt = (V32 0 8).toInt from by first | omega | ((try (have i_xlp39_2 := Imp.go xlp39_2 (by omega))); (try (have i_xlp5_3 := Imp.go xlp5_3 (by omega))); (try (have i_xlp5_3 := Imp.go xlp5_3 (by omega))); (try (have i_xlp39_2 := Imp.go xlp39_2 (by omega))); omega)))) (by first | omega | ((try (have i_xlp39_2 := Imp.go xlp39_2 (by omega))); (try (have i_xlp5_3 := Imp.go xlp5_3 (by omega))); (try (have i_xlp5_3 := Imp.go xlp5_3 (by omega))); (try (have i_xlp39_2 := Imp.go xlp39_2 (by omega))); omega)) (agr.tr agr.rf ajV38 (by decide) (by decide)) hMV38 hP hD hS (lv_sub hl [0, 1, 2, 3, 4, 5, 6] rfl)
                        · skip
                          have f153 : ((V3 53 (Int32.toNatClampNeg y37))).toInt = z16.toInt := b_eq rfl rfl c148
                          refine lv_aload_n hx hb dX12_takeTypes_61 rfl (lv_at hl 4 rfl) ?_
                          refine lv_iconst (v := 3) hx hb dX12_takeTypes_62 (by decide) ?_
                          have r154 : Int32.toInt 3 = 3 := by decide
                          refine gA_void (gA_runV (As := [.int 3]) (rest := []) (ci := 12) (q0 := 0) hx hb hml hown hg hP hD hK hS hA hnw hgk (s_wrongA l D ks H.size ad kk V38 L 3 (bq) (gn) (gT) (s1) (gl) hMV38 (by decide) ri) w2035 w2037 w86 w172 w2038 rfl rfl hdV_yX12_wrong ⟨Nat.le_of_ble_eq_true rfl, Nat.le_of_ble_eq_true rfl⟩ rfl hl.1 rfl (Nat.le_of_ble_eq_true rfl) dX12_takeTypes_63 ⟨Nat.le_of_ble_eq_true rfl, Nat.le_of_ble_eq_true rfl⟩) hP hD hK hS hA (fun u156 H locs w157 hP hD hK hS => ?_)
                          obtain ⟨V160, L161⟩ := u156
                          obtain ⟨hMV160, ajV160, axL161, t158, t159⟩ := w157
                          have axL161 : L = L161 := Eq.symm axL161
                          subst axL161
                          have hP : va_P D vwCl (mw ad kk ks.1 V160 L) H := hP
                          have hD : va_D A (mw ad kk ks.1 V160 L) := hD
                          have hMV160 : rgd bM V160 := hMV160
                          have ajV160 : agr [(0, 8)] [] V38 V160 := ajV160
                          have agV160 : agr [(0, 7), (0, 8)] [15, 21, 53] V V160 := agV38.tr ajV160 (by decide) (by decide)
                          have t158 : 1 ≤ (V160 0 8).toInt := t158
                          have t159 : (V160 0 8).toInt = (Int32.toInt 3) + 16 * (gT).2.2 ((s1).1 0) := t159
                          have r162 : 0 ≤ ((V160 0 8)).toInt ∧ ((V160 0 8)).toInt ≤ 70000 := hMV160 0 8
                          have kc163 := i_clamp (x := y37) rfl (by omega)
                          have hb164 : ∀ k, Rc gT (Crun gs (Itypes 0 [] :: k)) (Cbad (V160 0 8).toInt) := fun k => Rc.go1 (hq k) ((ty_3 h24 ((lq fx23).mpr ⟨Int32.toNatClampNeg y37, by omega, by omega⟩)).trans (fl_eq rfl (show (V160 0 8).toInt = 3 + 16 * gT.2.2 (s1.1 0) from by omega)))
                          obtain ⟨z165, ez165⟩ : ∃ y : Int32, y = y37 + 1 := ⟨_, rfl⟩
                          have hz165 : z165.toInt = y37.toInt + 1 := i_add ez165 rfl (by decide) (by omega)
                          refine lv_iinc (v := z165) (lv' := [(6, .int z165), (5, .int z16), (4, .int y1), (3, .int y2), (0, .ref (ad 0)), (1, .ref (ad 15)), (2, .int p1)]) hx hb dX12_takeTypes_66 hl (k := 0) rfl (by rw [ez165]; rfl) (by decide) rfl (fun ls hl => ?_)
                          refine lv_goto (tgt := 36) hx hb dX12_takeTypes_69 (by decide) ?_
                          exact ihlp39 z165 V160 H locs ls (by first | omega | ((try (have i_xlp39_2 := Imp.go xlp39_2 (by omega))); (try (have i_xlp5_3 := Imp.go xlp5_3 (by omega))); (try (have i_xlp5_3 := Imp.go xlp5_3 (by omega))); (try (have i_xlp39_2 := Imp.go xlp39_2 (by omega))); omega)) (Or.inr ⟨(show 1 ≤ (V160 0 8).toInt from by omega), hb164⟩) (show z165.toInt ≤ y2.toInt from by first | omega | ((try (have i_xlp39_2 := Imp.go xlp39_2 (by omega))); (try (have i_xlp5_3 := Imp.go xlp5_3 (by omega))); (try (have i_xlp5_3 := Imp.go xlp5_3 (by omega))); (try (have i_xlp39_2 := Imp.go xlp39_2 (by omega))); omega)) (Imp.mk (fun hp => have hp : 1 ≤ (V32 0 8).toInt := hp; (show (V160 0 8).toInt = (V32 0 8).toInt from by first | omega | ((try (have i_xlp39_2 := Imp.go xlp39_2 (by omega))); (try (have i_xlp5_3 := Imp.go xlp5_3 (by omega))); (try (have i_xlp5_3 := Imp.go xlp5_3 (by omega))); (try (have i_xlp39_2 := Imp.go xlp39_2 (by omega))); omega)))) (by first | omega | ((try (have i_xlp39_2 := Imp.go xlp39_2 (by omega))); (try (have i_xlp5_3 := Imp.go xlp5_3 (by omega))); (try (have i_xlp5_3 := Imp.go xlp5_3 (by omega))); (try (have i_xlp39_2 := Imp.go xlp39_2 (by omega))); omega)) (agr.tr (agr.tr agr.rf ajV38 (by decide) (by decide)) ajV160 (by decide) (by decide)) hMV160 hP hD hS (lv_sub hl [0, 1, 2, 3, 4, 5, 6] rfl)
                  · skip
                    have r166 : 0 ≤ ((V38 0 8)).toInt ∧ ((V38 0 8)).toInt ≤ 70000 := hMV38 0 8
                    refine lv_iload_n hx hb dX12_takeTypes_38 rfl (lv_at hl 3 rfl) ?_
                    refine lv_icmp_ge (tgt := 72) hx hb dX12_takeTypes_39 (by decide) (fun c167 => ?_) (fun c167 => ?_)
                    · skip
                      have f168 : y2.toInt ≤ y37.toInt := b_le rfl rfl c167
                      refine lv_aload_n hx hb dX12_takeTypes_72 rfl (lv_at hl 4 rfl) ?_
                      refine va_get (D := D) (ci := 12) (v := .int (V38 0 8)) (C := RX12) (T := TX12) (N := 100) hx hb hg inX12 hown hK hP 0 rfl rfl 8 (by decide) (hg _ w1714) (fun _ h9 => h9) rfl dX12_takeTypes_73 ?_
                      refine lv_if_ne (tgt := 90) hx hb dX12_takeTypes_76 (by decide) (fun c169 => ?_) (fun c169 => ?_)
                      · skip
                        have f170 : ((V38 0 8)).toInt ≠ 0 := b_neq rfl (by decide) c169
                        refine lv_aload_n hx hb dX12_takeTypes_90 rfl (lv_at hl 4 rfl) ?_
                        refine lv_dup hx hb dX12_takeTypes_91 rfl ?_
                        refine va_get (D := D) (ci := 12) (v := .int (V38 0 7)) (C := RX12) (T := TX12) (N := 100) hx hb hg inX12 hown hK hP 0 rfl rfl 7 (by decide) (hg _ w1713) (fun _ h9 => h9) rfl dX12_takeTypes_92 ?_
                        refine g_top (v := z31) ((ajV38 0 7 rfl).trans (up2_s hV32)) ?_
                        refine lv_iconst (v := 1) hx hb dX12_takeTypes_95 (by decide) ?_
                        refine lv_iadd hx hb dX12_takeTypes_96 ?_
                        refine lv_topi (fun z171 ez171 => ?_)
                        have hz171 : z171.toInt = z31.toInt + 1 := i_add ez171 rfl (by decide) (by omega)
                        refine va_put (D := D) (ci := 12) (v := .int z171) (ty := tyX12 7) (C := RX12) (T := TX12) (N := 100) hx hb hg inX12 tyX12 tyX12_ok nmX12 hown hK hP hD hS 0 rfl rfl 7 (by decide) (hg _ w1713) (fun _ h9 => h9) rfl (tyX12_ok 7 (by decide)) rfl rfl (Nat.le_of_ble_eq_true rfl) dX12_takeTypes_97 (fun H locs hP hD hS => ?_)
                        obtain ⟨V172, hV172⟩ : ∃ z, z = up2 V38 0 7 z171 := ⟨_, rfl⟩
                        have hP : va_P D vwCl (mw ad kk ks.1 V172 L) H := by rw [hV172]; exact hP
                        have hD : va_D A (mw ad kk ks.1 V172 L) := by rw [hV172]; exact hD
                        have hMV172 : rgd bM V172 := hMV38.put hV172 (i_full _)
                        have agV172 : agr [(0, 7), (0, 8)] [15, 21, 53] V V172 := agV38.up hV172 rfl
                        refine lv_aload_n hx hb dX12_takeTypes_100 rfl (lv_at hl 4 rfl) ?_
                        refine va_get (D := D) (ci := 12) (v := .int (V172 0 8)) (C := RX12) (T := TX12) (N := 100) hx hb hg inX12 hown hK hP 0 rfl rfl 8 (by decide) (hg _ w1714) (fun _ h9 => h9) rfl dX12_takeTypes_101 ?_
                        refine g_top (v := (V38 0 8)) (up2_k hV172 (by decide)) ?_
                        refine lv_if_ne (tgt := 184) hx hb dX12_takeTypes_104 (by decide) (fun c173 => ?_) (fun c173 => ?_)
                        · skip
                          have f174 : ((V38 0 8)).toInt ≠ 0 := b_neq rfl (by decide) c173
                          refine lv_aload_n hx hb dX12_takeTypes_184 rfl (lv_at hl 4 rfl) ?_
                          refine lv_bipush (v := 44) hx hb dX12_takeTypes_185 (by decide) ?_
                          have r175 : Int32.toInt 44 = 44 := by decide
                          have pq176 : (V172 0 8).toInt = ((V38 0 8)).toInt := congrArg Int32.toInt (up2_k hV172 (by decide))
                          refine gA_int (gA_runV (As := [.int 44]) (rest := []) (ci := 12) (q0 := 0) hx hb hml hown hg hP hD hK hS hA hnw hgk (s_hasSignB l D ks H.size ad kk V172 L 44 hMV172 (show 1 ≤ (V172 0 8).toInt from by first | omega | ((try (have i_xlp39_2 := Imp.go xlp39_2 (by omega))); (try (have i_xlp5_3 := Imp.go xlp5_3 (by omega))); (try (have i_xlp5_3 := Imp.go xlp5_3 (by omega))); (try (have i_xlp39_2 := Imp.go xlp39_2 (by omega))); omega))) w2067 w2069 w94 w172 w2070 rfl rfl hdV_yX12_hasSign ⟨Nat.le_of_ble_eq_true rfl, Nat.le_of_ble_eq_true rfl⟩ rfl hl.1 rfl (Nat.le_of_ble_eq_true rfl) dX12_takeTypes_187 ⟨Nat.le_of_ble_eq_true rfl, Nat.le_of_ble_eq_true rfl⟩) hP hD hK hS hA (fun z177 u178 H locs w179 hP hD hK hS => ?_)
                          obtain ⟨V181, L182⟩ := u178
                          obtain ⟨hMV181, ajV181, axL182, rgz177, t180⟩ := w179
                          have axL182 : L = L182 := Eq.symm axL182
                          subst axL182
                          have hP : va_P D vwCl (mw ad kk ks.1 V181 L) H := hP
                          have hD : va_D A (mw ad kk ks.1 V181 L) := hD
                          have hMV181 : rgd bM V181 := hMV181
                          have ajV181 : agr [(0, 7)] [] V172 V181 := ajV181
                          have agV181 : agr [(0, 7), (0, 8)] [15, 21, 53] V V181 := agV172.tr ajV181 (by decide) (by decide)
                          have rgz177 : 0 ≤ z177.toInt ∧ z177.toInt ≤ 0 := rgz177
                          have t180 : (V181 0 8).toInt = (V172 0 8).toInt := t180
                          have pq183 : (V181 0 8).toInt = ((V38 0 8)).toInt := congrArg Int32.toInt ((ajV181 0 8 rfl).trans (up2_k hV172 (by decide)))
                          refine lv_istore (lv' := [(4, .int z177), (6, .int y37), (5, .int z16), (3, .int y2), (0, .ref (ad 0)), (1, .ref (ad 15)), (2, .int p1)]) hx hb dX12_takeTypes_190 hl (by decide) rfl (fun ls hl => ?_)
                          refine lv_goto (tgt := 5) hx hb dX12_takeTypes_192 (by decide) ?_
                          have pq184 : (V181 0 12).toInt = ((V 0 12)).toInt := congrArg Int32.toInt ((ajV181 0 12 rfl).trans ((up2_k hV172 (by decide)).trans ((ajV38 0 12 rfl).trans ((up2_k hV32 (by decide)).trans ((ajV20 0 12 rfl).trans (ajV3 0 12 rfl))))))
                          exact ihlp5 (g4 - 1) z177 y2 V181 H locs ls (by first | omega | ((try (have i_xlp39_2 := Imp.go xlp39_2 (by omega))); (try (have i_xlp5_3 := Imp.go xlp5_3 (by omega))); (try (have i_xlp5_3 := Imp.go xlp5_3 (by omega))); (try (have i_xlp39_2 := Imp.go xlp39_2 (by omega))); omega)) (by first | omega | ((try (have i_xlp39_2 := Imp.go xlp39_2 (by omega))); (try (have i_xlp5_3 := Imp.go xlp5_3 (by omega))); (try (have i_xlp5_3 := Imp.go xlp5_3 (by omega))); (try (have i_xlp39_2 := Imp.go xlp39_2 (by omega))); omega)) (Or.inr (Or.inr ⟨(show 1 ≤ (V181 0 8).toInt from by omega), (fun k => by rw [show (V181 0 8).toInt = (V38 0 8).toInt from by omega]; exact hi k)⟩)) (show 0 ≤ (g4 - 1) from by first | omega | ((try (have i_xlp39_2 := Imp.go xlp39_2 (by omega))); (try (have i_xlp5_3 := Imp.go xlp5_3 (by omega))); (try (have i_xlp5_3 := Imp.go xlp5_3 (by omega))); (try (have i_xlp39_2 := Imp.go xlp39_2 (by omega))); omega)) (show y2.toInt ≤ 6 from by first | omega | ((try (have i_xlp39_2 := Imp.go xlp39_2 (by omega))); (try (have i_xlp5_3 := Imp.go xlp5_3 (by omega))); (try (have i_xlp5_3 := Imp.go xlp5_3 (by omega))); (try (have i_xlp39_2 := Imp.go xlp39_2 (by omega))); omega)) (Imp.mk (fun hp => have hp : (V181 0 8).toInt = 0 := hp; (show 7 - y2.toInt < (g4 - 1) from by first | omega | ((try (have i_xlp39_2 := Imp.go xlp39_2 (by omega))); (try (have i_xlp5_3 := Imp.go xlp5_3 (by omega))); (try (have i_xlp5_3 := Imp.go xlp5_3 (by omega))); (try (have i_xlp39_2 := Imp.go xlp39_2 (by omega))); omega)))) (show (V181 0 12).toInt = (V 0 12).toInt from by first | omega | ((try (have i_xlp39_2 := Imp.go xlp39_2 (by omega))); (try (have i_xlp5_3 := Imp.go xlp5_3 (by omega))); (try (have i_xlp5_3 := Imp.go xlp5_3 (by omega))); (try (have i_xlp39_2 := Imp.go xlp39_2 (by omega))); omega)) (by first | omega | ((try (have i_xlp39_2 := Imp.go xlp39_2 (by omega))); (try (have i_xlp5_3 := Imp.go xlp5_3 (by omega))); (try (have i_xlp5_3 := Imp.go xlp5_3 (by omega))); (try (have i_xlp39_2 := Imp.go xlp39_2 (by omega))); omega)) (agr.tr (agr.up (agr.tr (agr.up (agr.tr (agr.tr agr.rf ajV3 (by decide) (by decide)) ajV20 (by decide) (by decide)) hV32 rfl) ajV38 (by decide) (by decide)) hV172 rfl) ajV181 (by decide) (by decide)) hMV181 hP hD hS (lv_sub hl [0, 3, 4, 5, 6] rfl)
                        · skip
                          have f185 : ((V38 0 8)).toInt = 0 := b_eq rfl (by decide) c173
                          exfalso; first | omega | ((try (have i_xlp39_2 := Imp.go xlp39_2 (by omega))); (try (have i_xlp5_3 := Imp.go xlp5_3 (by omega))); (try (have i_xlp5_3 := Imp.go xlp5_3 (by omega))); (try (have i_xlp39_2 := Imp.go xlp39_2 (by omega))); omega)
                      · skip
                        have f186 : ((V38 0 8)).toInt = 0 := b_eq rfl (by decide) c169
                        exfalso; first | omega | ((try (have i_xlp39_2 := Imp.go xlp39_2 (by omega))); (try (have i_xlp5_3 := Imp.go xlp5_3 (by omega))); (try (have i_xlp5_3 := Imp.go xlp5_3 (by omega))); (try (have i_xlp39_2 := Imp.go xlp39_2 (by omega))); omega)
                    · skip
                      have f187 : y37.toInt < y2.toInt := b_nle rfl rfl c167
                      refine lv_aload_n hx hb dX12_takeTypes_42 rfl (lv_at hl 4 rfl) ?_
                      refine va_get (D := D) (ci := 12) (v := .int (V38 0 8)) (C := RX12) (T := TX12) (N := 100) hx hb hg inX12 hown hK hP 0 rfl rfl 8 (by decide) (hg _ w1714) (fun _ h9 => h9) rfl dX12_takeTypes_43 ?_
                      refine lv_if_ne (tgt := 72) hx hb dX12_takeTypes_46 (by decide) (fun c188 => ?_) (fun c188 => ?_)
                      · skip
                        have f189 : ((V38 0 8)).toInt ≠ 0 := b_neq rfl (by decide) c188
                        refine lv_aload_n hx hb dX12_takeTypes_72 rfl (lv_at hl 4 rfl) ?_
                        refine va_get (D := D) (ci := 12) (v := .int (V38 0 8)) (C := RX12) (T := TX12) (N := 100) hx hb hg inX12 hown hK hP 0 rfl rfl 8 (by decide) (hg _ w1714) (fun _ h9 => h9) rfl dX12_takeTypes_73 ?_
                        refine lv_if_ne (tgt := 90) hx hb dX12_takeTypes_76 (by decide) (fun c190 => ?_) (fun c190 => ?_)
                        · skip
                          have f191 : ((V38 0 8)).toInt ≠ 0 := b_neq rfl (by decide) c190
                          refine lv_aload_n hx hb dX12_takeTypes_90 rfl (lv_at hl 4 rfl) ?_
                          refine lv_dup hx hb dX12_takeTypes_91 rfl ?_
                          refine va_get (D := D) (ci := 12) (v := .int (V38 0 7)) (C := RX12) (T := TX12) (N := 100) hx hb hg inX12 hown hK hP 0 rfl rfl 7 (by decide) (hg _ w1713) (fun _ h9 => h9) rfl dX12_takeTypes_92 ?_
                          refine g_top (v := z31) ((ajV38 0 7 rfl).trans (up2_s hV32)) ?_
                          refine lv_iconst (v := 1) hx hb dX12_takeTypes_95 (by decide) ?_
                          refine lv_iadd hx hb dX12_takeTypes_96 ?_
                          refine lv_topi (fun z192 ez192 => ?_)
                          have hz192 : z192.toInt = z31.toInt + 1 := i_add ez192 rfl (by decide) (by omega)
                          refine va_put (D := D) (ci := 12) (v := .int z192) (ty := tyX12 7) (C := RX12) (T := TX12) (N := 100) hx hb hg inX12 tyX12 tyX12_ok nmX12 hown hK hP hD hS 0 rfl rfl 7 (by decide) (hg _ w1713) (fun _ h9 => h9) rfl (tyX12_ok 7 (by decide)) rfl rfl (Nat.le_of_ble_eq_true rfl) dX12_takeTypes_97 (fun H locs hP hD hS => ?_)
                          obtain ⟨V193, hV193⟩ : ∃ z, z = up2 V38 0 7 z192 := ⟨_, rfl⟩
                          have hP : va_P D vwCl (mw ad kk ks.1 V193 L) H := by rw [hV193]; exact hP
                          have hD : va_D A (mw ad kk ks.1 V193 L) := by rw [hV193]; exact hD
                          have hMV193 : rgd bM V193 := hMV38.put hV193 (i_full _)
                          have agV193 : agr [(0, 7), (0, 8)] [15, 21, 53] V V193 := agV38.up hV193 rfl
                          refine lv_aload_n hx hb dX12_takeTypes_100 rfl (lv_at hl 4 rfl) ?_
                          refine va_get (D := D) (ci := 12) (v := .int (V193 0 8)) (C := RX12) (T := TX12) (N := 100) hx hb hg inX12 hown hK hP 0 rfl rfl 8 (by decide) (hg _ w1714) (fun _ h9 => h9) rfl dX12_takeTypes_101 ?_
                          refine g_top (v := (V38 0 8)) (up2_k hV193 (by decide)) ?_
                          refine lv_if_ne (tgt := 184) hx hb dX12_takeTypes_104 (by decide) (fun c194 => ?_) (fun c194 => ?_)
                          · skip
                            have f195 : ((V38 0 8)).toInt ≠ 0 := b_neq rfl (by decide) c194
                            refine lv_aload_n hx hb dX12_takeTypes_184 rfl (lv_at hl 4 rfl) ?_
                            refine lv_bipush (v := 44) hx hb dX12_takeTypes_185 (by decide) ?_
                            have r196 : Int32.toInt 44 = 44 := by decide
                            have pq197 : (V193 0 8).toInt = ((V38 0 8)).toInt := congrArg Int32.toInt (up2_k hV193 (by decide))
                            refine gA_int (gA_runV (As := [.int 44]) (rest := []) (ci := 12) (q0 := 0) hx hb hml hown hg hP hD hK hS hA hnw hgk (s_hasSignB l D ks H.size ad kk V193 L 44 hMV193 (show 1 ≤ (V193 0 8).toInt from by first | omega | ((try (have i_xlp39_2 := Imp.go xlp39_2 (by omega))); (try (have i_xlp5_3 := Imp.go xlp5_3 (by omega))); (try (have i_xlp5_3 := Imp.go xlp5_3 (by omega))); (try (have i_xlp39_2 := Imp.go xlp39_2 (by omega))); omega))) w2067 w2069 w94 w172 w2070 rfl rfl hdV_yX12_hasSign ⟨Nat.le_of_ble_eq_true rfl, Nat.le_of_ble_eq_true rfl⟩ rfl hl.1 rfl (Nat.le_of_ble_eq_true rfl) dX12_takeTypes_187 ⟨Nat.le_of_ble_eq_true rfl, Nat.le_of_ble_eq_true rfl⟩) hP hD hK hS hA (fun z198 u199 H locs w200 hP hD hK hS => ?_)
                            obtain ⟨V202, L203⟩ := u199
                            obtain ⟨hMV202, ajV202, axL203, rgz198, t201⟩ := w200
                            have axL203 : L = L203 := Eq.symm axL203
                            subst axL203
                            have hP : va_P D vwCl (mw ad kk ks.1 V202 L) H := hP
                            have hD : va_D A (mw ad kk ks.1 V202 L) := hD
                            have hMV202 : rgd bM V202 := hMV202
                            have ajV202 : agr [(0, 7)] [] V193 V202 := ajV202
                            have agV202 : agr [(0, 7), (0, 8)] [15, 21, 53] V V202 := agV193.tr ajV202 (by decide) (by decide)
                            have rgz198 : 0 ≤ z198.toInt ∧ z198.toInt ≤ 0 := rgz198
                            have t201 : (V202 0 8).toInt = (V193 0 8).toInt := t201
                            have pq204 : (V202 0 8).toInt = ((V38 0 8)).toInt := congrArg Int32.toInt ((ajV202 0 8 rfl).trans (up2_k hV193 (by decide)))
                            refine lv_istore (lv' := [(4, .int z198), (6, .int y37), (5, .int z16), (3, .int y2), (0, .ref (ad 0)), (1, .ref (ad 15)), (2, .int p1)]) hx hb dX12_takeTypes_190 hl (by decide) rfl (fun ls hl => ?_)
                            refine lv_goto (tgt := 5) hx hb dX12_takeTypes_192 (by decide) ?_
                            have pq205 : (V202 0 12).toInt = ((V 0 12)).toInt := congrArg Int32.toInt ((ajV202 0 12 rfl).trans ((up2_k hV193 (by decide)).trans ((ajV38 0 12 rfl).trans ((up2_k hV32 (by decide)).trans ((ajV20 0 12 rfl).trans (ajV3 0 12 rfl))))))
                            exact ihlp5 (g4 - 1) z198 y2 V202 H locs ls (by first | omega | ((try (have i_xlp39_2 := Imp.go xlp39_2 (by omega))); (try (have i_xlp5_3 := Imp.go xlp5_3 (by omega))); (try (have i_xlp5_3 := Imp.go xlp5_3 (by omega))); (try (have i_xlp39_2 := Imp.go xlp39_2 (by omega))); omega)) (by first | omega | ((try (have i_xlp39_2 := Imp.go xlp39_2 (by omega))); (try (have i_xlp5_3 := Imp.go xlp5_3 (by omega))); (try (have i_xlp5_3 := Imp.go xlp5_3 (by omega))); (try (have i_xlp39_2 := Imp.go xlp39_2 (by omega))); omega)) (Or.inr (Or.inr ⟨(show 1 ≤ (V202 0 8).toInt from by omega), (fun k => by rw [show (V202 0 8).toInt = (V38 0 8).toInt from by omega]; exact hi k)⟩)) (show 0 ≤ (g4 - 1) from by first | omega | ((try (have i_xlp39_2 := Imp.go xlp39_2 (by omega))); (try (have i_xlp5_3 := Imp.go xlp5_3 (by omega))); (try (have i_xlp5_3 := Imp.go xlp5_3 (by omega))); (try (have i_xlp39_2 := Imp.go xlp39_2 (by omega))); omega)) (show y2.toInt ≤ 6 from by first | omega | ((try (have i_xlp39_2 := Imp.go xlp39_2 (by omega))); (try (have i_xlp5_3 := Imp.go xlp5_3 (by omega))); (try (have i_xlp5_3 := Imp.go xlp5_3 (by omega))); (try (have i_xlp39_2 := Imp.go xlp39_2 (by omega))); omega)) (Imp.mk (fun hp => have hp : (V202 0 8).toInt = 0 := hp; (show 7 - y2.toInt < (g4 - 1) from by first | omega | ((try (have i_xlp39_2 := Imp.go xlp39_2 (by omega))); (try (have i_xlp5_3 := Imp.go xlp5_3 (by omega))); (try (have i_xlp5_3 := Imp.go xlp5_3 (by omega))); (try (have i_xlp39_2 := Imp.go xlp39_2 (by omega))); omega)))) (show (V202 0 12).toInt = (V 0 12).toInt from by first | omega | ((try (have i_xlp39_2 := Imp.go xlp39_2 (by omega))); (try (have i_xlp5_3 := Imp.go xlp5_3 (by omega))); (try (have i_xlp5_3 := Imp.go xlp5_3 (by omega))); (try (have i_xlp39_2 := Imp.go xlp39_2 (by omega))); omega)) (by first | omega | ((try (have i_xlp39_2 := Imp.go xlp39_2 (by omega))); (try (have i_xlp5_3 := Imp.go xlp5_3 (by omega))); (try (have i_xlp5_3 := Imp.go xlp5_3 (by omega))); (try (have i_xlp39_2 := Imp.go xlp39_2 (by omega))); omega)) (agr.tr (agr.up (agr.tr (agr.up (agr.tr (agr.tr agr.rf ajV3 (by decide) (by decide)) ajV20 (by decide) (by decide)) hV32 rfl) ajV38 (by decide) (by decide)) hV193 rfl) ajV202 (by decide) (by decide)) hMV202 hP hD hS (lv_sub hl [0, 3, 4, 5, 6] rfl)
                          · skip
                            have f206 : ((V38 0 8)).toInt = 0 := b_eq rfl (by decide) c194
                            exfalso; first | omega | ((try (have i_xlp39_2 := Imp.go xlp39_2 (by omega))); (try (have i_xlp5_3 := Imp.go xlp5_3 (by omega))); (try (have i_xlp5_3 := Imp.go xlp5_3 (by omega))); (try (have i_xlp39_2 := Imp.go xlp39_2 (by omega))); omega)
                        · skip
                          have f207 : ((V38 0 8)).toInt = 0 := b_eq rfl (by decide) c190
                          exfalso; first | omega | ((try (have i_xlp39_2 := Imp.go xlp39_2 (by omega))); (try (have i_xlp5_3 := Imp.go xlp5_3 (by omega))); (try (have i_xlp5_3 := Imp.go xlp5_3 (by omega))); (try (have i_xlp39_2 := Imp.go xlp39_2 (by omega))); omega)
                      · skip
                        have f208 : ((V38 0 8)).toInt = 0 := b_eq rfl (by decide) c188
                        exfalso; first | omega | ((try (have i_xlp39_2 := Imp.go xlp39_2 (by omega))); (try (have i_xlp5_3 := Imp.go xlp5_3 (by omega))); (try (have i_xlp5_3 := Imp.go xlp5_3 (by omega))); (try (have i_xlp39_2 := Imp.go xlp39_2 (by omega))); omega)
              have r209 : Int32.toInt 0 = 0 := by decide
              exact lp39 ((y2.toInt - (Int32.toInt 0) + 1 : Int).toNat) 0 V32 H locs ls (by decide) (Or.inl ⟨W0 rl34, rl34, fun k h9 => by exfalso; omega⟩) (show (Int32.toInt 0) ≤ y2.toInt from by first | omega | ((try (have i_xlp5_3 := Imp.go xlp5_3 (by omega))); omega)) (Imp.mk (fun hp => have hp : 1 ≤ (V32 0 8).toInt := hp; (show (V32 0 8).toInt = (V32 0 8).toInt from by first | omega | ((try (have i_xlp5_3 := Imp.go xlp5_3 (by omega))); omega)))) (by first | omega | ((try (have i_xlp5_3 := Imp.go xlp5_3 (by omega))); omega)) agr.rf hMV32 hP hD hS (lv_sub hl [0, 1, 2, 3, 4, 5, 6] rfl)
            · skip
              have hb210 : ∀ k, Rc gT (Crun gs (Itypes 0 [] :: k)) (Cbad (V20 0 8).toInt) := fun k => Rc.go1 (hq k) (ty_b h24)
              have r211 : 0 ≤ ((V20 0 8)).toInt ∧ ((V20 0 8)).toInt ≤ 70000 := hMV20 0 8
              refine lv_istore (lv' := [(5, .int z16), (4, .int y1), (3, .int y2), (0, .ref (ad 0)), (1, .ref (ad 15)), (2, .int p1)]) hx hb dX12_takeTypes_21 hl (by decide) rfl (fun ls hl => ?_)
              refine lv_aload_n hx hb dX12_takeTypes_23 rfl (lv_at hl 3 rfl) ?_
              refine lv_dup hx hb dX12_takeTypes_24 rfl ?_
              refine va_get (D := D) (ci := 12) (v := .int (V20 0 7)) (C := RX12) (T := TX12) (N := 100) hx hb hg inX12 hown hK hP 0 rfl rfl 7 (by decide) (hg _ w1713) (fun _ h9 => h9) rfl dX12_takeTypes_25 ?_
              refine lv_iconst (v := 1) hx hb dX12_takeTypes_28 (by decide) ?_
              refine lv_isub hx hb dX12_takeTypes_29 ?_
              have r212 := i_full (V20 0 7)
              refine lv_topi (fun z213 ez213 => ?_)
              have hz213 : Imp (-2147483648 ≤ ((V20 0 7)).toInt - 1 ∧ ((V20 0 7)).toInt - 1 ≤ 2147483647) (z213.toInt = ((V20 0 7)).toInt - 1) := Imp.mk (fun hp => i_sub ez213 rfl (by decide) hp)
              refine va_put (D := D) (ci := 12) (v := .int z213) (ty := tyX12 7) (C := RX12) (T := TX12) (N := 100) hx hb hg inX12 tyX12 tyX12_ok nmX12 hown hK hP hD hS 0 rfl rfl 7 (by decide) (hg _ w1713) (fun _ h9 => h9) rfl (tyX12_ok 7 (by decide)) rfl rfl (Nat.le_of_ble_eq_true rfl) dX12_takeTypes_30 (fun H locs hP hD hS => ?_)
              obtain ⟨V214, hV214⟩ : ∃ z, z = up2 V20 0 7 z213 := ⟨_, rfl⟩
              have hP : va_P D vwCl (mw ad kk ks.1 V214 L) H := by rw [hV214]; exact hP
              have hD : va_D A (mw ad kk ks.1 V214 L) := by rw [hV214]; exact hD
              have hMV214 : rgd bM V214 := hMV20.put hV214 (i_full _)
              have agV214 : agr [(0, 7), (0, 8)] [15, 21, 53] V V214 := agV20.up hV214 rfl
              have pq215 : (V214 0 8).toInt = ((V20 0 8)).toInt := congrArg Int32.toInt (up2_k hV214 (by decide))
              refine lv_iconst (v := 0) hx hb dX12_takeTypes_33 (by decide) ?_
              refine lv_istore (lv' := [(6, .int 0), (5, .int z16), (4, .int y1), (3, .int y2), (0, .ref (ad 0)), (1, .ref (ad 15)), (2, .int p1)]) hx hb dX12_takeTypes_34 hl (by decide) rfl (fun ls hl => ?_)
              have lp218 : ∀ (fulp218 : Nat) (y216 : Int32) (V217 : Vf) (H : Heap) (locs : List Loc) (ls : Array Slot), 0 ≤ y216.toInt ∧ y216.toInt ≤ 6 → (((V217 0 8).toInt = 0 ∧ RelM V217 L bq gn gT s1 gl ∧ (∀ k : Nat, (k : Int) < y216.toInt → (V217 53 k).toInt ≠ z16.toInt)) ∨ (1 ≤ (V217 0 8).toInt ∧ ∀ k, Rc gT (Crun gs (Itypes 0 [] :: k)) (Cbad (V217 0 8).toInt))) → y216.toInt ≤ y2.toInt → Imp (1 ≤ (V214 0 8).toInt) ((V217 0 8).toInt = (V214 0 8).toInt) → y2.toInt - y216.toInt < (fulp218 : Int) → agr [(0, 8)] [] V214 V217 → rgd bM V217 → va_P D vwCl (mw ad kk ks.1 V217 L) H → va_D A (mw ad kk ks.1 V217 L) → va_S A s.heap H locs → lv_has ls 7 [(6, .int y216), (5, .int z16), (4, .int y1), (3, .int y2), (0, .ref (ad 0)), (1, .ref (ad 15)), (2, .int p1)] → W p l e r_s_takeTypesA15 s m ([.ref (ad 0), .ref (ad 15), .int p1] : List Value).toArray below meth c H locs 0 0 (MQ below (q_s_takeTypesA15 D ks ad kk V L p1 bq gn gT gs gl A) ([.ref (ad 0), .ref (ad 15), .int p1] : List Value).toArray s 0 0 A) (F0 m 36 ls []) := by
                intro fulp218
                induction fulp218 with
                | zero =>
                  intro y216 V217 H locs ls klp218_0 xlp218_0 xlp218_1 xlp218_2 hn ajV217 hMV217 hP hD hS hl
                  exfalso; omega
                | succ fulp218 ihlp218 =>
                  intro y216 V217 H locs ls klp218_0 xlp218_0 xlp218_1 xlp218_2 hn ajV217 hMV217 hP hD hS hl
                  have agV217 : agr [(0, 7), (0, 8)] [15, 21, 53] V V217 := agV214.tr ajV217 (by decide) (by decide)
                  refine lv_iload hx hb dX12_takeTypes_36 (lv_at hl 0 rfl) ?_
                  rcases xlp218_0 with ⟨f7, ri, ni⟩ | ⟨f7, hi⟩
                  · skip
                    exfalso; first | omega | ((try (have i_xlp218_2 := Imp.go xlp218_2 (by omega))); (try (have i_hz213 := Imp.go hz213 (by omega))); (try (have i_xlp5_3 := Imp.go xlp5_3 (by omega))); (try (have i_xlp5_3 := Imp.go xlp5_3 (by omega))); (try (have i_hz213 := Imp.go hz213 (by omega))); (try (have i_xlp218_2 := Imp.go xlp218_2 (by omega))); omega)
                  · skip
                    have r219 : 0 ≤ ((V217 0 8)).toInt ∧ ((V217 0 8)).toInt ≤ 70000 := hMV217 0 8
                    refine lv_iload_n hx hb dX12_takeTypes_38 rfl (lv_at hl 3 rfl) ?_
                    refine lv_icmp_ge (tgt := 72) hx hb dX12_takeTypes_39 (by decide) (fun c220 => ?_) (fun c220 => ?_)
                    · skip
                      have f221 : y2.toInt ≤ y216.toInt := b_le rfl rfl c220
                      refine lv_aload_n hx hb dX12_takeTypes_72 rfl (lv_at hl 4 rfl) ?_
                      refine va_get (D := D) (ci := 12) (v := .int (V217 0 8)) (C := RX12) (T := TX12) (N := 100) hx hb hg inX12 hown hK hP 0 rfl rfl 8 (by decide) (hg _ w1714) (fun _ h9 => h9) rfl dX12_takeTypes_73 ?_
                      refine lv_if_ne (tgt := 90) hx hb dX12_takeTypes_76 (by decide) (fun c222 => ?_) (fun c222 => ?_)
                      · skip
                        have f223 : ((V217 0 8)).toInt ≠ 0 := b_neq rfl (by decide) c222
                        refine lv_aload_n hx hb dX12_takeTypes_90 rfl (lv_at hl 4 rfl) ?_
                        refine lv_dup hx hb dX12_takeTypes_91 rfl ?_
                        refine va_get (D := D) (ci := 12) (v := .int (V217 0 7)) (C := RX12) (T := TX12) (N := 100) hx hb hg inX12 hown hK hP 0 rfl rfl 7 (by decide) (hg _ w1713) (fun _ h9 => h9) rfl dX12_takeTypes_92 ?_
                        refine g_top (v := z213) ((ajV217 0 7 rfl).trans (up2_s hV214)) ?_
                        refine lv_iconst (v := 1) hx hb dX12_takeTypes_95 (by decide) ?_
                        refine lv_iadd hx hb dX12_takeTypes_96 ?_
                        have r224 := i_full z213
                        refine lv_topi (fun z225 ez225 => ?_)
                        have hz225 : Imp (-2147483648 ≤ z213.toInt + 1 ∧ z213.toInt + 1 ≤ 2147483647) (z225.toInt = z213.toInt + 1) := Imp.mk (fun hp => i_add ez225 rfl (by decide) hp)
                        refine va_put (D := D) (ci := 12) (v := .int z225) (ty := tyX12 7) (C := RX12) (T := TX12) (N := 100) hx hb hg inX12 tyX12 tyX12_ok nmX12 hown hK hP hD hS 0 rfl rfl 7 (by decide) (hg _ w1713) (fun _ h9 => h9) rfl (tyX12_ok 7 (by decide)) rfl rfl (Nat.le_of_ble_eq_true rfl) dX12_takeTypes_97 (fun H locs hP hD hS => ?_)
                        obtain ⟨V226, hV226⟩ : ∃ z, z = up2 V217 0 7 z225 := ⟨_, rfl⟩
                        have hP : va_P D vwCl (mw ad kk ks.1 V226 L) H := by rw [hV226]; exact hP
                        have hD : va_D A (mw ad kk ks.1 V226 L) := by rw [hV226]; exact hD
                        have hMV226 : rgd bM V226 := hMV217.put hV226 (i_full _)
                        have agV226 : agr [(0, 7), (0, 8)] [15, 21, 53] V V226 := agV217.up hV226 rfl
                        refine lv_aload_n hx hb dX12_takeTypes_100 rfl (lv_at hl 4 rfl) ?_
                        refine va_get (D := D) (ci := 12) (v := .int (V226 0 8)) (C := RX12) (T := TX12) (N := 100) hx hb hg inX12 hown hK hP 0 rfl rfl 8 (by decide) (hg _ w1714) (fun _ h9 => h9) rfl dX12_takeTypes_101 ?_
                        refine g_top (v := (V217 0 8)) (up2_k hV226 (by decide)) ?_
                        refine lv_if_ne (tgt := 184) hx hb dX12_takeTypes_104 (by decide) (fun c227 => ?_) (fun c227 => ?_)
                        · skip
                          have f228 : ((V217 0 8)).toInt ≠ 0 := b_neq rfl (by decide) c227
                          refine lv_aload_n hx hb dX12_takeTypes_184 rfl (lv_at hl 4 rfl) ?_
                          refine lv_bipush (v := 44) hx hb dX12_takeTypes_185 (by decide) ?_
                          have r229 : Int32.toInt 44 = 44 := by decide
                          have pq230 : (V226 0 8).toInt = ((V217 0 8)).toInt := congrArg Int32.toInt (up2_k hV226 (by decide))
                          refine gA_int (gA_runV (As := [.int 44]) (rest := []) (ci := 12) (q0 := 0) hx hb hml hown hg hP hD hK hS hA hnw hgk (s_hasSignB l D ks H.size ad kk V226 L 44 hMV226 (show 1 ≤ (V226 0 8).toInt from by first | omega | ((try (have i_hz225 := Imp.go hz225 (by omega))); (try (have i_xlp218_2 := Imp.go xlp218_2 (by omega))); (try (have i_hz213 := Imp.go hz213 (by omega))); (try (have i_xlp5_3 := Imp.go xlp5_3 (by omega))); (try (have i_xlp5_3 := Imp.go xlp5_3 (by omega))); (try (have i_hz213 := Imp.go hz213 (by omega))); (try (have i_xlp218_2 := Imp.go xlp218_2 (by omega))); (try (have i_hz225 := Imp.go hz225 (by omega))); omega))) w2067 w2069 w94 w172 w2070 rfl rfl hdV_yX12_hasSign ⟨Nat.le_of_ble_eq_true rfl, Nat.le_of_ble_eq_true rfl⟩ rfl hl.1 rfl (Nat.le_of_ble_eq_true rfl) dX12_takeTypes_187 ⟨Nat.le_of_ble_eq_true rfl, Nat.le_of_ble_eq_true rfl⟩) hP hD hK hS hA (fun z231 u232 H locs w233 hP hD hK hS => ?_)
                          obtain ⟨V235, L236⟩ := u232
                          obtain ⟨hMV235, ajV235, axL236, rgz231, t234⟩ := w233
                          have axL236 : L = L236 := Eq.symm axL236
                          subst axL236
                          have hP : va_P D vwCl (mw ad kk ks.1 V235 L) H := hP
                          have hD : va_D A (mw ad kk ks.1 V235 L) := hD
                          have hMV235 : rgd bM V235 := hMV235
                          have ajV235 : agr [(0, 7)] [] V226 V235 := ajV235
                          have agV235 : agr [(0, 7), (0, 8)] [15, 21, 53] V V235 := agV226.tr ajV235 (by decide) (by decide)
                          have rgz231 : 0 ≤ z231.toInt ∧ z231.toInt ≤ 0 := rgz231
                          have t234 : (V235 0 8).toInt = (V226 0 8).toInt := t234
                          have pq237 : (V235 0 8).toInt = ((V217 0 8)).toInt := congrArg Int32.toInt ((ajV235 0 8 rfl).trans (up2_k hV226 (by decide)))
                          refine lv_istore (lv' := [(4, .int z231), (6, .int y216), (5, .int z16), (3, .int y2), (0, .ref (ad 0)), (1, .ref (ad 15)), (2, .int p1)]) hx hb dX12_takeTypes_190 hl (by decide) rfl (fun ls hl => ?_)
                          refine lv_goto (tgt := 5) hx hb dX12_takeTypes_192 (by decide) ?_
                          have pq238 : (V235 0 12).toInt = ((V 0 12)).toInt := congrArg Int32.toInt ((ajV235 0 12 rfl).trans ((up2_k hV226 (by decide)).trans ((ajV217 0 12 rfl).trans ((up2_k hV214 (by decide)).trans ((ajV20 0 12 rfl).trans (ajV3 0 12 rfl))))))
                          exact ihlp5 (g4 - 1) z231 y2 V235 H locs ls (by first | omega | ((try (have i_hz225 := Imp.go hz225 (by omega))); (try (have i_xlp218_2 := Imp.go xlp218_2 (by omega))); (try (have i_hz213 := Imp.go hz213 (by omega))); (try (have i_xlp5_3 := Imp.go xlp5_3 (by omega))); (try (have i_xlp5_3 := Imp.go xlp5_3 (by omega))); (try (have i_hz213 := Imp.go hz213 (by omega))); (try (have i_xlp218_2 := Imp.go xlp218_2 (by omega))); (try (have i_hz225 := Imp.go hz225 (by omega))); omega)) (by first | omega | ((try (have i_hz225 := Imp.go hz225 (by omega))); (try (have i_xlp218_2 := Imp.go xlp218_2 (by omega))); (try (have i_hz213 := Imp.go hz213 (by omega))); (try (have i_xlp5_3 := Imp.go xlp5_3 (by omega))); (try (have i_xlp5_3 := Imp.go xlp5_3 (by omega))); (try (have i_hz213 := Imp.go hz213 (by omega))); (try (have i_xlp218_2 := Imp.go xlp218_2 (by omega))); (try (have i_hz225 := Imp.go hz225 (by omega))); omega)) (Or.inr (Or.inr ⟨(show 1 ≤ (V235 0 8).toInt from by omega), (fun k => by rw [show (V235 0 8).toInt = (V217 0 8).toInt from by omega]; exact hi k)⟩)) (show 0 ≤ (g4 - 1) from by first | omega | ((try (have i_hz225 := Imp.go hz225 (by omega))); (try (have i_xlp218_2 := Imp.go xlp218_2 (by omega))); (try (have i_hz213 := Imp.go hz213 (by omega))); (try (have i_xlp5_3 := Imp.go xlp5_3 (by omega))); (try (have i_xlp5_3 := Imp.go xlp5_3 (by omega))); (try (have i_hz213 := Imp.go hz213 (by omega))); (try (have i_xlp218_2 := Imp.go xlp218_2 (by omega))); (try (have i_hz225 := Imp.go hz225 (by omega))); omega)) (show y2.toInt ≤ 6 from by first | omega | ((try (have i_hz225 := Imp.go hz225 (by omega))); (try (have i_xlp218_2 := Imp.go xlp218_2 (by omega))); (try (have i_hz213 := Imp.go hz213 (by omega))); (try (have i_xlp5_3 := Imp.go xlp5_3 (by omega))); (try (have i_xlp5_3 := Imp.go xlp5_3 (by omega))); (try (have i_hz213 := Imp.go hz213 (by omega))); (try (have i_xlp218_2 := Imp.go xlp218_2 (by omega))); (try (have i_hz225 := Imp.go hz225 (by omega))); omega)) (Imp.mk (fun hp => have hp : (V235 0 8).toInt = 0 := hp; (show 7 - y2.toInt < (g4 - 1) from by first | omega | ((try (have i_hz225 := Imp.go hz225 (by omega))); (try (have i_xlp218_2 := Imp.go xlp218_2 (by omega))); (try (have i_hz213 := Imp.go hz213 (by omega))); (try (have i_xlp5_3 := Imp.go xlp5_3 (by omega))); (try (have i_xlp5_3 := Imp.go xlp5_3 (by omega))); (try (have i_hz213 := Imp.go hz213 (by omega))); (try (have i_xlp218_2 := Imp.go xlp218_2 (by omega))); (try (have i_hz225 := Imp.go hz225 (by omega))); omega)))) (show (V235 0 12).toInt = (V 0 12).toInt from by first | omega | ((try (have i_hz225 := Imp.go hz225 (by omega))); (try (have i_xlp218_2 := Imp.go xlp218_2 (by omega))); (try (have i_hz213 := Imp.go hz213 (by omega))); (try (have i_xlp5_3 := Imp.go xlp5_3 (by omega))); (try (have i_xlp5_3 := Imp.go xlp5_3 (by omega))); (try (have i_hz213 := Imp.go hz213 (by omega))); (try (have i_xlp218_2 := Imp.go xlp218_2 (by omega))); (try (have i_hz225 := Imp.go hz225 (by omega))); omega)) (by first | omega | ((try (have i_hz225 := Imp.go hz225 (by omega))); (try (have i_xlp218_2 := Imp.go xlp218_2 (by omega))); (try (have i_hz213 := Imp.go hz213 (by omega))); (try (have i_xlp5_3 := Imp.go xlp5_3 (by omega))); (try (have i_xlp5_3 := Imp.go xlp5_3 (by omega))); (try (have i_hz213 := Imp.go hz213 (by omega))); (try (have i_xlp218_2 := Imp.go xlp218_2 (by omega))); (try (have i_hz225 := Imp.go hz225 (by omega))); omega)) (agr.tr (agr.up (agr.tr (agr.up (agr.tr (agr.tr agr.rf ajV3 (by decide) (by decide)) ajV20 (by decide) (by decide)) hV214 rfl) ajV217 (by decide) (by decide)) hV226 rfl) ajV235 (by decide) (by decide)) hMV235 hP hD hS (lv_sub hl [0, 3, 4, 5, 6] rfl)
                        · skip
                          have f239 : ((V217 0 8)).toInt = 0 := b_eq rfl (by decide) c227
                          exfalso; first | omega | ((try (have i_hz225 := Imp.go hz225 (by omega))); (try (have i_xlp218_2 := Imp.go xlp218_2 (by omega))); (try (have i_hz213 := Imp.go hz213 (by omega))); (try (have i_xlp5_3 := Imp.go xlp5_3 (by omega))); (try (have i_xlp5_3 := Imp.go xlp5_3 (by omega))); (try (have i_hz213 := Imp.go hz213 (by omega))); (try (have i_xlp218_2 := Imp.go xlp218_2 (by omega))); (try (have i_hz225 := Imp.go hz225 (by omega))); omega)
                      · skip
                        have f240 : ((V217 0 8)).toInt = 0 := b_eq rfl (by decide) c222
                        exfalso; first | omega | ((try (have i_xlp218_2 := Imp.go xlp218_2 (by omega))); (try (have i_hz213 := Imp.go hz213 (by omega))); (try (have i_xlp5_3 := Imp.go xlp5_3 (by omega))); (try (have i_xlp5_3 := Imp.go xlp5_3 (by omega))); (try (have i_hz213 := Imp.go hz213 (by omega))); (try (have i_xlp218_2 := Imp.go xlp218_2 (by omega))); omega)
                    · skip
                      have f241 : y216.toInt < y2.toInt := b_nle rfl rfl c220
                      refine lv_aload_n hx hb dX12_takeTypes_42 rfl (lv_at hl 4 rfl) ?_
                      refine va_get (D := D) (ci := 12) (v := .int (V217 0 8)) (C := RX12) (T := TX12) (N := 100) hx hb hg inX12 hown hK hP 0 rfl rfl 8 (by decide) (hg _ w1714) (fun _ h9 => h9) rfl dX12_takeTypes_43 ?_
                      refine lv_if_ne (tgt := 72) hx hb dX12_takeTypes_46 (by decide) (fun c242 => ?_) (fun c242 => ?_)
                      · skip
                        have f243 : ((V217 0 8)).toInt ≠ 0 := b_neq rfl (by decide) c242
                        refine lv_aload_n hx hb dX12_takeTypes_72 rfl (lv_at hl 4 rfl) ?_
                        refine va_get (D := D) (ci := 12) (v := .int (V217 0 8)) (C := RX12) (T := TX12) (N := 100) hx hb hg inX12 hown hK hP 0 rfl rfl 8 (by decide) (hg _ w1714) (fun _ h9 => h9) rfl dX12_takeTypes_73 ?_
                        refine lv_if_ne (tgt := 90) hx hb dX12_takeTypes_76 (by decide) (fun c244 => ?_) (fun c244 => ?_)
                        · skip
                          have f245 : ((V217 0 8)).toInt ≠ 0 := b_neq rfl (by decide) c244
                          refine lv_aload_n hx hb dX12_takeTypes_90 rfl (lv_at hl 4 rfl) ?_
                          refine lv_dup hx hb dX12_takeTypes_91 rfl ?_
                          refine va_get (D := D) (ci := 12) (v := .int (V217 0 7)) (C := RX12) (T := TX12) (N := 100) hx hb hg inX12 hown hK hP 0 rfl rfl 7 (by decide) (hg _ w1713) (fun _ h9 => h9) rfl dX12_takeTypes_92 ?_
                          refine g_top (v := z213) ((ajV217 0 7 rfl).trans (up2_s hV214)) ?_
                          refine lv_iconst (v := 1) hx hb dX12_takeTypes_95 (by decide) ?_
                          refine lv_iadd hx hb dX12_takeTypes_96 ?_
                          have r246 := i_full z213
                          refine lv_topi (fun z247 ez247 => ?_)
                          have hz247 : Imp (-2147483648 ≤ z213.toInt + 1 ∧ z213.toInt + 1 ≤ 2147483647) (z247.toInt = z213.toInt + 1) := Imp.mk (fun hp => i_add ez247 rfl (by decide) hp)
                          refine va_put (D := D) (ci := 12) (v := .int z247) (ty := tyX12 7) (C := RX12) (T := TX12) (N := 100) hx hb hg inX12 tyX12 tyX12_ok nmX12 hown hK hP hD hS 0 rfl rfl 7 (by decide) (hg _ w1713) (fun _ h9 => h9) rfl (tyX12_ok 7 (by decide)) rfl rfl (Nat.le_of_ble_eq_true rfl) dX12_takeTypes_97 (fun H locs hP hD hS => ?_)
                          obtain ⟨V248, hV248⟩ : ∃ z, z = up2 V217 0 7 z247 := ⟨_, rfl⟩
                          have hP : va_P D vwCl (mw ad kk ks.1 V248 L) H := by rw [hV248]; exact hP
                          have hD : va_D A (mw ad kk ks.1 V248 L) := by rw [hV248]; exact hD
                          have hMV248 : rgd bM V248 := hMV217.put hV248 (i_full _)
                          have agV248 : agr [(0, 7), (0, 8)] [15, 21, 53] V V248 := agV217.up hV248 rfl
                          refine lv_aload_n hx hb dX12_takeTypes_100 rfl (lv_at hl 4 rfl) ?_
                          refine va_get (D := D) (ci := 12) (v := .int (V248 0 8)) (C := RX12) (T := TX12) (N := 100) hx hb hg inX12 hown hK hP 0 rfl rfl 8 (by decide) (hg _ w1714) (fun _ h9 => h9) rfl dX12_takeTypes_101 ?_
                          refine g_top (v := (V217 0 8)) (up2_k hV248 (by decide)) ?_
                          refine lv_if_ne (tgt := 184) hx hb dX12_takeTypes_104 (by decide) (fun c249 => ?_) (fun c249 => ?_)
                          · skip
                            have f250 : ((V217 0 8)).toInt ≠ 0 := b_neq rfl (by decide) c249
                            refine lv_aload_n hx hb dX12_takeTypes_184 rfl (lv_at hl 4 rfl) ?_
                            refine lv_bipush (v := 44) hx hb dX12_takeTypes_185 (by decide) ?_
                            have r251 : Int32.toInt 44 = 44 := by decide
                            have pq252 : (V248 0 8).toInt = ((V217 0 8)).toInt := congrArg Int32.toInt (up2_k hV248 (by decide))
                            refine gA_int (gA_runV (As := [.int 44]) (rest := []) (ci := 12) (q0 := 0) hx hb hml hown hg hP hD hK hS hA hnw hgk (s_hasSignB l D ks H.size ad kk V248 L 44 hMV248 (show 1 ≤ (V248 0 8).toInt from by first | omega | ((try (have i_hz247 := Imp.go hz247 (by omega))); (try (have i_xlp218_2 := Imp.go xlp218_2 (by omega))); (try (have i_hz213 := Imp.go hz213 (by omega))); (try (have i_xlp5_3 := Imp.go xlp5_3 (by omega))); (try (have i_xlp5_3 := Imp.go xlp5_3 (by omega))); (try (have i_hz213 := Imp.go hz213 (by omega))); (try (have i_xlp218_2 := Imp.go xlp218_2 (by omega))); (try (have i_hz247 := Imp.go hz247 (by omega))); omega))) w2067 w2069 w94 w172 w2070 rfl rfl hdV_yX12_hasSign ⟨Nat.le_of_ble_eq_true rfl, Nat.le_of_ble_eq_true rfl⟩ rfl hl.1 rfl (Nat.le_of_ble_eq_true rfl) dX12_takeTypes_187 ⟨Nat.le_of_ble_eq_true rfl, Nat.le_of_ble_eq_true rfl⟩) hP hD hK hS hA (fun z253 u254 H locs w255 hP hD hK hS => ?_)
                            obtain ⟨V257, L258⟩ := u254
                            obtain ⟨hMV257, ajV257, axL258, rgz253, t256⟩ := w255
                            have axL258 : L = L258 := Eq.symm axL258
                            subst axL258
                            have hP : va_P D vwCl (mw ad kk ks.1 V257 L) H := hP
                            have hD : va_D A (mw ad kk ks.1 V257 L) := hD
                            have hMV257 : rgd bM V257 := hMV257
                            have ajV257 : agr [(0, 7)] [] V248 V257 := ajV257
                            have agV257 : agr [(0, 7), (0, 8)] [15, 21, 53] V V257 := agV248.tr ajV257 (by decide) (by decide)
                            have rgz253 : 0 ≤ z253.toInt ∧ z253.toInt ≤ 0 := rgz253
                            have t256 : (V257 0 8).toInt = (V248 0 8).toInt := t256
                            have pq259 : (V257 0 8).toInt = ((V217 0 8)).toInt := congrArg Int32.toInt ((ajV257 0 8 rfl).trans (up2_k hV248 (by decide)))
                            refine lv_istore (lv' := [(4, .int z253), (6, .int y216), (5, .int z16), (3, .int y2), (0, .ref (ad 0)), (1, .ref (ad 15)), (2, .int p1)]) hx hb dX12_takeTypes_190 hl (by decide) rfl (fun ls hl => ?_)
                            refine lv_goto (tgt := 5) hx hb dX12_takeTypes_192 (by decide) ?_
                            have pq260 : (V257 0 12).toInt = ((V 0 12)).toInt := congrArg Int32.toInt ((ajV257 0 12 rfl).trans ((up2_k hV248 (by decide)).trans ((ajV217 0 12 rfl).trans ((up2_k hV214 (by decide)).trans ((ajV20 0 12 rfl).trans (ajV3 0 12 rfl))))))
                            exact ihlp5 (g4 - 1) z253 y2 V257 H locs ls (by first | omega | ((try (have i_hz247 := Imp.go hz247 (by omega))); (try (have i_xlp218_2 := Imp.go xlp218_2 (by omega))); (try (have i_hz213 := Imp.go hz213 (by omega))); (try (have i_xlp5_3 := Imp.go xlp5_3 (by omega))); (try (have i_xlp5_3 := Imp.go xlp5_3 (by omega))); (try (have i_hz213 := Imp.go hz213 (by omega))); (try (have i_xlp218_2 := Imp.go xlp218_2 (by omega))); (try (have i_hz247 := Imp.go hz247 (by omega))); omega)) (by first | omega | ((try (have i_hz247 := Imp.go hz247 (by omega))); (try (have i_xlp218_2 := Imp.go xlp218_2 (by omega))); (try (have i_hz213 := Imp.go hz213 (by omega))); (try (have i_xlp5_3 := Imp.go xlp5_3 (by omega))); (try (have i_xlp5_3 := Imp.go xlp5_3 (by omega))); (try (have i_hz213 := Imp.go hz213 (by omega))); (try (have i_xlp218_2 := Imp.go xlp218_2 (by omega))); (try (have i_hz247 := Imp.go hz247 (by omega))); omega)) (Or.inr (Or.inr ⟨(show 1 ≤ (V257 0 8).toInt from by omega), (fun k => by rw [show (V257 0 8).toInt = (V217 0 8).toInt from by omega]; exact hi k)⟩)) (show 0 ≤ (g4 - 1) from by first | omega | ((try (have i_hz247 := Imp.go hz247 (by omega))); (try (have i_xlp218_2 := Imp.go xlp218_2 (by omega))); (try (have i_hz213 := Imp.go hz213 (by omega))); (try (have i_xlp5_3 := Imp.go xlp5_3 (by omega))); (try (have i_xlp5_3 := Imp.go xlp5_3 (by omega))); (try (have i_hz213 := Imp.go hz213 (by omega))); (try (have i_xlp218_2 := Imp.go xlp218_2 (by omega))); (try (have i_hz247 := Imp.go hz247 (by omega))); omega)) (show y2.toInt ≤ 6 from by first | omega | ((try (have i_hz247 := Imp.go hz247 (by omega))); (try (have i_xlp218_2 := Imp.go xlp218_2 (by omega))); (try (have i_hz213 := Imp.go hz213 (by omega))); (try (have i_xlp5_3 := Imp.go xlp5_3 (by omega))); (try (have i_xlp5_3 := Imp.go xlp5_3 (by omega))); (try (have i_hz213 := Imp.go hz213 (by omega))); (try (have i_xlp218_2 := Imp.go xlp218_2 (by omega))); (try (have i_hz247 := Imp.go hz247 (by omega))); omega)) (Imp.mk (fun hp => have hp : (V257 0 8).toInt = 0 := hp; (show 7 - y2.toInt < (g4 - 1) from by first | omega | ((try (have i_hz247 := Imp.go hz247 (by omega))); (try (have i_xlp218_2 := Imp.go xlp218_2 (by omega))); (try (have i_hz213 := Imp.go hz213 (by omega))); (try (have i_xlp5_3 := Imp.go xlp5_3 (by omega))); (try (have i_xlp5_3 := Imp.go xlp5_3 (by omega))); (try (have i_hz213 := Imp.go hz213 (by omega))); (try (have i_xlp218_2 := Imp.go xlp218_2 (by omega))); (try (have i_hz247 := Imp.go hz247 (by omega))); omega)))) (show (V257 0 12).toInt = (V 0 12).toInt from by first | omega | ((try (have i_hz247 := Imp.go hz247 (by omega))); (try (have i_xlp218_2 := Imp.go xlp218_2 (by omega))); (try (have i_hz213 := Imp.go hz213 (by omega))); (try (have i_xlp5_3 := Imp.go xlp5_3 (by omega))); (try (have i_xlp5_3 := Imp.go xlp5_3 (by omega))); (try (have i_hz213 := Imp.go hz213 (by omega))); (try (have i_xlp218_2 := Imp.go xlp218_2 (by omega))); (try (have i_hz247 := Imp.go hz247 (by omega))); omega)) (by first | omega | ((try (have i_hz247 := Imp.go hz247 (by omega))); (try (have i_xlp218_2 := Imp.go xlp218_2 (by omega))); (try (have i_hz213 := Imp.go hz213 (by omega))); (try (have i_xlp5_3 := Imp.go xlp5_3 (by omega))); (try (have i_xlp5_3 := Imp.go xlp5_3 (by omega))); (try (have i_hz213 := Imp.go hz213 (by omega))); (try (have i_xlp218_2 := Imp.go xlp218_2 (by omega))); (try (have i_hz247 := Imp.go hz247 (by omega))); omega)) (agr.tr (agr.up (agr.tr (agr.up (agr.tr (agr.tr agr.rf ajV3 (by decide) (by decide)) ajV20 (by decide) (by decide)) hV214 rfl) ajV217 (by decide) (by decide)) hV248 rfl) ajV257 (by decide) (by decide)) hMV257 hP hD hS (lv_sub hl [0, 3, 4, 5, 6] rfl)
                          · skip
                            have f261 : ((V217 0 8)).toInt = 0 := b_eq rfl (by decide) c249
                            exfalso; first | omega | ((try (have i_hz247 := Imp.go hz247 (by omega))); (try (have i_xlp218_2 := Imp.go xlp218_2 (by omega))); (try (have i_hz213 := Imp.go hz213 (by omega))); (try (have i_xlp5_3 := Imp.go xlp5_3 (by omega))); (try (have i_xlp5_3 := Imp.go xlp5_3 (by omega))); (try (have i_hz213 := Imp.go hz213 (by omega))); (try (have i_xlp218_2 := Imp.go xlp218_2 (by omega))); (try (have i_hz247 := Imp.go hz247 (by omega))); omega)
                        · skip
                          have f262 : ((V217 0 8)).toInt = 0 := b_eq rfl (by decide) c244
                          exfalso; first | omega | ((try (have i_xlp218_2 := Imp.go xlp218_2 (by omega))); (try (have i_hz213 := Imp.go hz213 (by omega))); (try (have i_xlp5_3 := Imp.go xlp5_3 (by omega))); (try (have i_xlp5_3 := Imp.go xlp5_3 (by omega))); (try (have i_hz213 := Imp.go hz213 (by omega))); (try (have i_xlp218_2 := Imp.go xlp218_2 (by omega))); omega)
                      · skip
                        have f263 : ((V217 0 8)).toInt = 0 := b_eq rfl (by decide) c242
                        exfalso; first | omega | ((try (have i_xlp218_2 := Imp.go xlp218_2 (by omega))); (try (have i_hz213 := Imp.go hz213 (by omega))); (try (have i_xlp5_3 := Imp.go xlp5_3 (by omega))); (try (have i_xlp5_3 := Imp.go xlp5_3 (by omega))); (try (have i_hz213 := Imp.go hz213 (by omega))); (try (have i_xlp218_2 := Imp.go xlp218_2 (by omega))); omega)
              have r264 : Int32.toInt 0 = 0 := by decide
              exact lp218 ((y2.toInt - (Int32.toInt 0) + 1 : Int).toNat) 0 V214 H locs ls (by decide) (Or.inr ⟨(show 1 ≤ (V214 0 8).toInt from by omega), (fun k => by rw [show (V214 0 8).toInt = (V20 0 8).toInt from by omega]; exact hb210 k)⟩) (show (Int32.toInt 0) ≤ y2.toInt from by first | omega | ((try (have i_hz213 := Imp.go hz213 (by omega))); (try (have i_xlp5_3 := Imp.go xlp5_3 (by omega))); (try (have i_xlp5_3 := Imp.go xlp5_3 (by omega))); (try (have i_hz213 := Imp.go hz213 (by omega))); omega)) (Imp.mk (fun hp => have hp : 1 ≤ (V214 0 8).toInt := hp; (show (V214 0 8).toInt = (V214 0 8).toInt from by first | omega | ((try (have i_hz213 := Imp.go hz213 (by omega))); (try (have i_xlp5_3 := Imp.go xlp5_3 (by omega))); (try (have i_xlp5_3 := Imp.go xlp5_3 (by omega))); (try (have i_hz213 := Imp.go hz213 (by omega))); omega)))) (by first | omega | ((try (have i_hz213 := Imp.go hz213 (by omega))); (try (have i_xlp5_3 := Imp.go xlp5_3 (by omega))); (try (have i_xlp5_3 := Imp.go xlp5_3 (by omega))); (try (have i_hz213 := Imp.go hz213 (by omega))); omega)) agr.rf hMV214 hP hD hS (lv_sub hl [0, 1, 2, 3, 4, 5, 6] rfl)
      · skip
        have fz265 := RelM.rg rq
        refine lv_if_eq (tgt := 195) hx hb dX12_takeTypes_7 (by decide) (fun c266 => ?_) (fun c266 => ?_)
        · skip
          have f267 : y1.toInt = 0 := b_eq rfl (by decide) c266
          exact W.vret hx hb hr (fun t ht hW => ⟨⟨(V3, L), rfl, ⟨hMV3, agV3, rfl, (Or.inl ⟨W0 rq, s1, hq, rq, keepS.le (keepS.tr (keepS.rf : keepS gs 0 gs) kq) (by decide)⟩)⟩, by rw [ht]; exact hP, va_K.moved hW.alike hK, hD⟩, hS.F ht⟩) hS.2.2 dX12_takeTypes_195
        · skip
          have f268 : y1.toInt ≠ 0 := b_neq rfl (by decide) c266
          exfalso; first | omega | ((try (have i_xlp5_3 := Imp.go xlp5_3 (by omega))); omega)
      · skip
        refine lv_if_eq (tgt := 195) hx hb dX12_takeTypes_7 (by decide) (fun c269 => ?_) (fun c269 => ?_)
        · skip
          have f270 : y1.toInt = 0 := b_eq rfl (by decide) c269
          exact W.vret hx hb hr (fun t ht hW => ⟨⟨(V3, L), rfl, ⟨hMV3, agV3, rfl, (Or.inr ⟨(show 1 ≤ (V3 0 8).toInt from by omega), hq⟩)⟩, by rw [ht]; exact hP, va_K.moved hW.alike hK, hD⟩, hS.F ht⟩) hS.2.2 dX12_takeTypes_195
        · skip
          have f271 : y1.toInt ≠ 0 := b_neq rfl (by decide) c269
          refine lv_aload_n hx hb dX12_takeTypes_10 rfl (lv_at hl 2 rfl) ?_
          refine va_get (D := D) (ci := 12) (v := .int (V3 0 8)) (C := RX12) (T := TX12) (N := 100) hx hb hg inX12 hown hK hP 0 rfl rfl 8 (by decide) (hg _ w1714) (fun _ h9 => h9) rfl dX12_takeTypes_11 ?_
          refine lv_if_ne (tgt := 195) hx hb dX12_takeTypes_14 (by decide) (fun c272 => ?_) (fun c272 => ?_)
          · skip
            have f273 : ((V3 0 8)).toInt ≠ 0 := b_neq rfl (by decide) c272
            exact W.vret hx hb hr (fun t ht hW => ⟨⟨(V3, L), rfl, ⟨hMV3, agV3, rfl, (Or.inr ⟨(show 1 ≤ (V3 0 8).toInt from by omega), hq⟩)⟩, by rw [ht]; exact hP, va_K.moved hW.alike hK, hD⟩, hS.F ht⟩) hS.2.2 dX12_takeTypes_195
          · skip
            have f274 : ((V3 0 8)).toInt = 0 := b_eq rfl (by decide) c272
            exfalso; first | omega | ((try (have i_xlp5_3 := Imp.go xlp5_3 (by omega))); omega)
  have r275 : Int32.toInt 1 = 1 := by decide
  have r276 : Int32.toInt 0 = 0 := by decide
  have r277 : 0 ≤ ((V 0 8)).toInt ∧ ((V 0 8)).toInt ≤ 70000 := hMV 0 8
  have r278 : 0 ≤ ((V 0 12)).toInt ∧ ((V 0 12)).toInt ≤ 1 := hMV 0 12
  have z00 : (Int32.toInt 0).toNat = 0 := by decide
  exact lp5 ((9 + 1 : Int).toNat) 9 1 0 V H locs ls (by decide) (by decide) (Or.inl ⟨W0 rel, by decide, gs, [], (by rw [z00]; exact fun k => Rc.rf), rel, keepS.rf, LST.z (by decide)⟩) (show 0 ≤ 9 from by omega) (show (Int32.toInt 0) ≤ 6 from by omega) (Imp.mk (fun hp => have hp : (V 0 8).toInt = 0 := hp; (show 7 - (Int32.toInt 0) < 9 from by omega))) (show (V 0 12).toInt = (V 0 12).toInt from by omega) (by omega) agr.rf hMV hP hD hS (lv_sub hl [0, 1, 2, 3, 4] rfl)
abbrev r_s_takeTypesA21 : Room := { frames := 3, cells := 0, slots := 0, locals := 71 }
abbrev q_s_takeTypesA21 (D : va_G) (ks : KS) (ad : Nat → Nat) (kk : Nat → ClassId) (V : Vf) (L : Lf) (p1 : Int32) (bq : Nat) (gn : Nat) (gT : Tk) (gs : St) (gl : List Int64) (A : Nat → Prop) : Array Value → State → Outcome → State → Prop := va_Qv (fun (u : Vf × Lf) => rgd bM u.1 ∧ agr [(0, 7), (0, 8)] [15, 21, 53] V u.1 ∧ u.2 = L ∧ (RdM gT gs (fun k => Itypes 0 [] :: k) (fun k => k) (u.1 0 8).toInt (fun s9 => RelM u.1 u.2 bq gn gT s9 gl ∧ keepS gs 1 s9))) (fun u t => gq D A (mw ad kk ks.1 u.1 u.2) (mty kk) t) A
set_option maxHeartbeats 4000000 in
set_option maxRecDepth 100000 in
theorem s_takeTypesA21 (l : Launch) (D : va_G) (ks : KS) (sz : Nat) (ad : Nat → Nat) (kk : Nat → ClassId) (V : Vf) (L : Lf) (p1 : Int32) (bq : Nat) (gn : Nat) (gT : Tk) (gs : St) (gl : List Int64) (hMV : rgd bM V) (rg_p1 : 0 ≤ p1.toInt ∧ p1.toInt ≤ 47) (rel : RelM V L bq gn gT gs gl)  : Met l yX12_takeTypes (Cond.code yX12_takeTypes cX12_takeTypes 7 none :: GW) r_s_takeTypesA21 (va_Pc [.ref (ad 0), .ref (ad 21), .int p1] (gp D ks (mw ad kk ks.1 V L) (mty kk) sz)) (q_s_takeTypesA21 D ks ad kk V L p1 bq gn gT gs gl (va_A (mw ad kk ks.1 V L) sz)) 0 0 (va_A (mw ad kk ks.1 V L) sz) := by
  refine g_met (q_s_takeTypesA21 D ks ad kk V L p1 bq gn gT gs gl) (by decide) (Nat.le_of_ble_eq_true rfl) ?_
  intro p e s m below meth c A ls H locs hx hb hr hml hown hg hlocks hin hnw hgk hP hK hD hS hA hl
  have hown : s.vm.findClass RX12 = some m.cls := hown
  have hl : lv_has ls 7 [(0, .ref (ad 0)), (1, .ref (ad 21)), (2, .int p1)] := hl
  have hP : va_P D vwCl (mw ad kk ks.1 V L) H := hP
  have hD : va_D A (mw ad kk ks.1 V L) := hD
  have hK : va_K D vwCl (mty kk) s := hK
  have agV : agr [(0, 7), (0, 8)] [15, 21, 53] V V := agr.rf
  have rf_p1 := i_full p1
  have rg0 := RelM.rg rel
  have cl0 := RelM.cl rel
  have cq0 := RelM.cq rel
  refine lv_iconst (v := 0) hx hb dX12_takeTypes_0 (by decide) ?_
  refine lv_istore_n (lv' := [(3, .int 0), (0, .ref (ad 0)), (1, .ref (ad 21)), (2, .int p1)]) hx hb dX12_takeTypes_1 rfl hl (by decide) rfl (fun ls hl => ?_)
  refine lv_iconst (v := 1) hx hb dX12_takeTypes_2 (by decide) ?_
  refine lv_istore (lv' := [(4, .int 1), (3, .int 0), (0, .ref (ad 0)), (1, .ref (ad 21)), (2, .int p1)]) hx hb dX12_takeTypes_3 hl (by decide) rfl (fun ls hl => ?_)
  have lp5 : ∀ (fulp5 : Nat) (g4 : Int) (y1 : Int32) (y2 : Int32) (V3 : Vf) (H : Heap) (locs : List Loc) (ls : Array Slot), 0 ≤ y1.toInt ∧ y1.toInt ≤ 1 → 0 ≤ y2.toInt ∧ y2.toInt ≤ 6 → LTI V3 L bq gn gT gs gl y2.toInt y1.toInt → 0 ≤ g4 → y2.toInt ≤ 6 → Imp ((V3 0 8).toInt = 0) (7 - y2.toInt < g4) → (V3 0 12).toInt = (V 0 12).toInt → g4 < (fulp5 : Int) → agr [(0, 7), (0, 8)] [15, 21, 53] V V3 → rgd bM V3 → va_P D vwCl (mw ad kk ks.1 V3 L) H → va_D A (mw ad kk ks.1 V3 L) → va_S A s.heap H locs → lv_has ls 7 [(4, .int y1), (3, .int y2), (0, .ref (ad 0)), (1, .ref (ad 21)), (2, .int p1)] → W p l e r_s_takeTypesA21 s m ([.ref (ad 0), .ref (ad 21), .int p1] : List Value).toArray below meth c H locs 0 0 (MQ below (q_s_takeTypesA21 D ks ad kk V L p1 bq gn gT gs gl A) ([.ref (ad 0), .ref (ad 21), .int p1] : List Value).toArray s 0 0 A) (F0 m 5 ls []) := by
    intro fulp5
    induction fulp5 with
    | zero =>
      intro g4 y1 y2 V3 H locs ls klp5_0 klp5_1 xlp5_0 xlp5_1 xlp5_2 xlp5_3 xlp5_4 hn ajV3 hMV3 hP hD hS hl
      exfalso; omega
    | succ fulp5 ihlp5 =>
      intro g4 y1 y2 V3 H locs ls klp5_0 klp5_1 xlp5_0 xlp5_1 xlp5_2 xlp5_3 xlp5_4 hn ajV3 hMV3 hP hD hS hl
      have agV3 : agr [(0, 7), (0, 8)] [15, 21, 53] V V3 := agV.tr ajV3 (by decide) (by decide)
      have r6 : 0 ≤ ((V3 0 8)).toInt ∧ ((V3 0 8)).toInt ≤ 70000 := hMV3 0 8
      have pq7 : (V3 0 12).toInt = ((V 0 12)).toInt := congrArg Int32.toInt (ajV3 0 12 rfl)
      have r8 : 0 ≤ ((V 0 12)).toInt ∧ ((V 0 12)).toInt ≤ 1 := hMV 0 12
      refine lv_iload hx hb dX12_takeTypes_5 (lv_at hl 0 rfl) ?_
      rcases xlp5_0 with ⟨f8, m8, s1, sn, hq, rq, kq, lq⟩ | ⟨f8, m8, s1, hq, rq, kq⟩ | ⟨f8, hq⟩
      · skip
        have fz9 := RelM.rg rq
        refine lv_if_eq (tgt := 195) hx hb dX12_takeTypes_7 (by decide) (fun c10 => ?_) (fun c10 => ?_)
        · skip
          have f11 : y1.toInt = 0 := b_eq rfl (by decide) c10
          exfalso; first | omega | ((try (have i_xlp5_3 := Imp.go xlp5_3 (by omega))); omega)
        · skip
          have f12 : y1.toInt ≠ 0 := b_neq rfl (by decide) c10
          refine lv_aload_n hx hb dX12_takeTypes_10 rfl (lv_at hl 2 rfl) ?_
          refine va_get (D := D) (ci := 12) (v := .int (V3 0 8)) (C := RX12) (T := TX12) (N := 100) hx hb hg inX12 hown hK hP 0 rfl rfl 8 (by decide) (hg _ w1714) (fun _ h9 => h9) rfl dX12_takeTypes_11 ?_
          refine lv_if_ne (tgt := 195) hx hb dX12_takeTypes_14 (by decide) (fun c13 => ?_) (fun c13 => ?_)
          · skip
            have f14 : ((V3 0 8)).toInt ≠ 0 := b_neq rfl (by decide) c13
            exfalso; first | omega | ((try (have i_xlp5_3 := Imp.go xlp5_3 (by omega))); omega)
          · skip
            have f15 : ((V3 0 8)).toInt = 0 := b_eq rfl (by decide) c13
            refine lv_aload_n hx hb dX12_takeTypes_17 rfl (lv_at hl 2 rfl) ?_
            refine gA_int (gA_runV (As := []) (rest := []) (ci := 12) (q0 := 0) hx hb hml hown hg hP hD hK hS hA hnw hgk (s_takeTypeA l D ks H.size ad kk V3 L (bq) (gn) (gT) (s1) (gl) hMV3 rq) w2059 w2061 w92 w172 w2062 rfl rfl hdV_yX12_takeType ⟨Nat.le_of_ble_eq_true rfl, Nat.le_of_ble_eq_true rfl⟩ rfl hl.1 rfl (Nat.le_of_ble_eq_true rfl) dX12_takeTypes_18 ⟨Nat.le_of_ble_eq_true rfl, Nat.le_of_ble_eq_true rfl⟩) hP hD hK hS hA (fun z16 u17 H locs w18 hP hD hK hS => ?_)
            obtain ⟨V20, L21⟩ := u17
            obtain ⟨hMV20, ajV20, axL21, rgz16, t19⟩ := w18
            have axL21 : L = L21 := Eq.symm axL21
            subst axL21
            have hP : va_P D vwCl (mw ad kk ks.1 V20 L) H := hP
            have hD : va_D A (mw ad kk ks.1 V20 L) := hD
            have hMV20 : rgd bM V20 := hMV20
            have ajV20 : agr [(0, 7), (0, 8)] [] V3 V20 := ajV20
            have agV20 : agr [(0, 7), (0, 8)] [15, 21, 53] V V20 := agV3.tr ajV20 (by decide) (by decide)
            have rgz16 : (-1) ≤ z16.toInt ∧ z16.toInt ≤ 23 := rgz16
            have t19 : KmN (look (gT) (s1) ((s1).2.1 0)) (V20 0 8).toInt (fun f9 => RelM V20 L (bq) (gn) (gT) (nx (s1) 1) (gl) ∧ z16.toInt = ((f9 : Nat) : Int) ∧ f9 < 24) := t19
            rcases t19 with ⟨q22, fx23, h24, rl25, hf26, hb27⟩ | ⟨q22, h24⟩
            · skip
              have ps28 : (nx s1 1).1 0 = s1.1 0 + 1 := rfl
              have fz29 := RelM.rg rl25
              have r30 : 0 ≤ ((V20 0 8)).toInt ∧ ((V20 0 8)).toInt ≤ 70000 := hMV20 0 8
              refine lv_istore (lv' := [(5, .int z16), (4, .int y1), (3, .int y2), (0, .ref (ad 0)), (1, .ref (ad 21)), (2, .int p1)]) hx hb dX12_takeTypes_21 hl (by decide) rfl (fun ls hl => ?_)
              refine lv_aload_n hx hb dX12_takeTypes_23 rfl (lv_at hl 3 rfl) ?_
              refine lv_dup hx hb dX12_takeTypes_24 rfl ?_
              refine va_get (D := D) (ci := 12) (v := .int (V20 0 7)) (C := RX12) (T := TX12) (N := 100) hx hb hg inX12 hown hK hP 0 rfl rfl 7 (by decide) (hg _ w1713) (fun _ h9 => h9) rfl dX12_takeTypes_25 ?_
              refine lv_iconst (v := 1) hx hb dX12_takeTypes_28 (by decide) ?_
              refine lv_isub hx hb dX12_takeTypes_29 ?_
              refine lv_topi (fun z31 ez31 => ?_)
              have hz31 : z31.toInt = ((V20 0 7)).toInt - 1 := i_sub ez31 rfl (by decide) (by omega)
              refine va_put (D := D) (ci := 12) (v := .int z31) (ty := tyX12 7) (C := RX12) (T := TX12) (N := 100) hx hb hg inX12 tyX12 tyX12_ok nmX12 hown hK hP hD hS 0 rfl rfl 7 (by decide) (hg _ w1713) (fun _ h9 => h9) rfl (tyX12_ok 7 (by decide)) rfl rfl (Nat.le_of_ble_eq_true rfl) dX12_takeTypes_30 (fun H locs hP hD hS => ?_)
              obtain ⟨V32, hV32⟩ : ∃ z, z = up2 V20 0 7 z31 := ⟨_, rfl⟩
              have hP : va_P D vwCl (mw ad kk ks.1 V32 L) H := by rw [hV32]; exact hP
              have hD : va_D A (mw ad kk ks.1 V32 L) := by rw [hV32]; exact hD
              have hMV32 : rgd bM V32 := hMV20.put hV32 (i_full _)
              have agV32 : agr [(0, 7), (0, 8)] [15, 21, 53] V V32 := agV20.up hV32 rfl
              have pq33 : (V32 0 8).toInt = ((V20 0 8)).toInt := congrArg Int32.toInt (up2_k hV32 (by decide))
              have rl34 : RelM V32 L bq gn gT s1 gl := RelM.v8 rl25 hV32 (by omega)
              have fz35 := RelM.rg rl34
              have pq36 : (V32 0 7).toInt = z31.toInt := congrArg Int32.toInt (up2_s hV32)
              refine lv_iconst (v := 0) hx hb dX12_takeTypes_33 (by decide) ?_
              refine lv_istore (lv' := [(6, .int 0), (5, .int z16), (4, .int y1), (3, .int y2), (0, .ref (ad 0)), (1, .ref (ad 21)), (2, .int p1)]) hx hb dX12_takeTypes_34 hl (by decide) rfl (fun ls hl => ?_)
              have lp39 : ∀ (fulp39 : Nat) (y37 : Int32) (V38 : Vf) (H : Heap) (locs : List Loc) (ls : Array Slot), 0 ≤ y37.toInt ∧ y37.toInt ≤ 6 → (((V38 0 8).toInt = 0 ∧ RelM V38 L bq gn gT s1 gl ∧ (∀ k : Nat, (k : Int) < y37.toInt → (V38 53 k).toInt ≠ z16.toInt)) ∨ (1 ≤ (V38 0 8).toInt ∧ ∀ k, Rc gT (Crun gs (Itypes 0 [] :: k)) (Cbad (V38 0 8).toInt))) → y37.toInt ≤ y2.toInt → Imp (1 ≤ (V32 0 8).toInt) ((V38 0 8).toInt = (V32 0 8).toInt) → y2.toInt - y37.toInt < (fulp39 : Int) → agr [(0, 8)] [] V32 V38 → rgd bM V38 → va_P D vwCl (mw ad kk ks.1 V38 L) H → va_D A (mw ad kk ks.1 V38 L) → va_S A s.heap H locs → lv_has ls 7 [(6, .int y37), (5, .int z16), (4, .int y1), (3, .int y2), (0, .ref (ad 0)), (1, .ref (ad 21)), (2, .int p1)] → W p l e r_s_takeTypesA21 s m ([.ref (ad 0), .ref (ad 21), .int p1] : List Value).toArray below meth c H locs 0 0 (MQ below (q_s_takeTypesA21 D ks ad kk V L p1 bq gn gT gs gl A) ([.ref (ad 0), .ref (ad 21), .int p1] : List Value).toArray s 0 0 A) (F0 m 36 ls []) := by
                intro fulp39
                induction fulp39 with
                | zero =>
                  intro y37 V38 H locs ls klp39_0 xlp39_0 xlp39_1 xlp39_2 hn ajV38 hMV38 hP hD hS hl
                  exfalso; omega
                | succ fulp39 ihlp39 =>
                  intro y37 V38 H locs ls klp39_0 xlp39_0 xlp39_1 xlp39_2 hn ajV38 hMV38 hP hD hS hl
                  have agV38 : agr [(0, 7), (0, 8)] [15, 21, 53] V V38 := agV32.tr ajV38 (by decide) (by decide)
                  refine lv_iload hx hb dX12_takeTypes_36 (lv_at hl 0 rfl) ?_
                  rcases xlp39_0 with ⟨f7, ri, ni⟩ | ⟨f7, hi⟩
                  · skip
                    have fz40 := RelM.rg ri
                    have r41 : 0 ≤ ((V38 0 8)).toInt ∧ ((V38 0 8)).toInt ≤ 70000 := hMV38 0 8
                    have pq42 : (V38 0 7).toInt = z31.toInt := congrArg Int32.toInt ((ajV38 0 7 rfl).trans (up2_s hV32))
                    refine lv_iload_n hx hb dX12_takeTypes_38 rfl (lv_at hl 3 rfl) ?_
                    refine lv_icmp_ge (tgt := 72) hx hb dX12_takeTypes_39 (by decide) (fun c43 => ?_) (fun c43 => ?_)
                    · skip
                      have f44 : y2.toInt ≤ y37.toInt := b_le rfl rfl c43
                      refine lv_aload_n hx hb dX12_takeTypes_72 rfl (lv_at hl 4 rfl) ?_
                      refine va_get (D := D) (ci := 12) (v := .int (V38 0 8)) (C := RX12) (T := TX12) (N := 100) hx hb hg inX12 hown hK hP 0 rfl rfl 8 (by decide) (hg _ w1714) (fun _ h9 => h9) rfl dX12_takeTypes_73 ?_
                      refine lv_if_ne (tgt := 90) hx hb dX12_takeTypes_76 (by decide) (fun c45 => ?_) (fun c45 => ?_)
                      · skip
                        have f46 : ((V38 0 8)).toInt ≠ 0 := b_neq rfl (by decide) c45
                        exfalso; first | omega | ((try (have i_xlp39_2 := Imp.go xlp39_2 (by omega))); (try (have i_xlp5_3 := Imp.go xlp5_3 (by omega))); (try (have i_xlp5_3 := Imp.go xlp5_3 (by omega))); (try (have i_xlp39_2 := Imp.go xlp39_2 (by omega))); omega)
                      · skip
                        have f47 : ((V38 0 8)).toInt = 0 := b_eq rfl (by decide) c45
                        refine lv_iload_n hx hb dX12_takeTypes_79 rfl (lv_at hl 3 rfl) ?_
                        refine lv_bipush (v := 6) hx hb dX12_takeTypes_80 (by decide) ?_
                        refine lv_icmp_ne (tgt := 90) hx hb dX12_takeTypes_82 (by decide) (fun c48 => ?_) (fun c48 => ?_)
                        · skip
                          have f49 : y2.toInt ≠ 6 := b_neq rfl (by decide) c48
                          refine lv_aload_n hx hb dX12_takeTypes_90 rfl (lv_at hl 4 rfl) ?_
                          refine lv_dup hx hb dX12_takeTypes_91 rfl ?_
                          refine va_get (D := D) (ci := 12) (v := .int (V38 0 7)) (C := RX12) (T := TX12) (N := 100) hx hb hg inX12 hown hK hP 0 rfl rfl 7 (by decide) (hg _ w1713) (fun _ h9 => h9) rfl dX12_takeTypes_92 ?_
                          refine g_top (v := z31) ((ajV38 0 7 rfl).trans (up2_s hV32)) ?_
                          refine lv_iconst (v := 1) hx hb dX12_takeTypes_95 (by decide) ?_
                          refine lv_iadd hx hb dX12_takeTypes_96 ?_
                          refine lv_topi (fun z50 ez50 => ?_)
                          have hz50 : z50.toInt = z31.toInt + 1 := i_add ez50 rfl (by decide) (by omega)
                          refine va_put (D := D) (ci := 12) (v := .int z50) (ty := tyX12 7) (C := RX12) (T := TX12) (N := 100) hx hb hg inX12 tyX12 tyX12_ok nmX12 hown hK hP hD hS 0 rfl rfl 7 (by decide) (hg _ w1713) (fun _ h9 => h9) rfl (tyX12_ok 7 (by decide)) rfl rfl (Nat.le_of_ble_eq_true rfl) dX12_takeTypes_97 (fun H locs hP hD hS => ?_)
                          obtain ⟨V51, hV51⟩ : ∃ z, z = up2 V38 0 7 z50 := ⟨_, rfl⟩
                          have hP : va_P D vwCl (mw ad kk ks.1 V51 L) H := by rw [hV51]; exact hP
                          have hD : va_D A (mw ad kk ks.1 V51 L) := by rw [hV51]; exact hD
                          have hMV51 : rgd bM V51 := hMV38.put hV51 (i_full _)
                          have agV51 : agr [(0, 7), (0, 8)] [15, 21, 53] V V51 := agV38.up hV51 rfl
                          have nn52 : fx23 ∉ sn := (LST.no (LST.ag lq (by rw [(funext (fun q => ajV38 53 q rfl) : V38 53 = V32 53), (up2_fo hV32 (by decide) : V32 53 = V20 53), (funext (fun q => ajV20 53 q rfl) : V20 53 = V3 53)] : V38 53 = V3 53)) (fun k h9 => by rw [← hf26]; exact ni k (by omega)))
                          have kd53 : gT.1 (s1.1 0) ≠ 0 := look_ne h24
                          have rl54 : RelM V51 L bq gn gT (nx s1 1) gl := RelM.n1 ri hV51 (by omega) kd53
                          have hr55 : ∀ k, Rc gT (Crun gs (Itypes 0 [] :: k)) (Crun (nx s1 1) (Imore (y2.toInt.toNat + 1) (fx23 :: sn) :: k)) := fun k => Rc.go1 (hq k) (ty_y h24 nn52 (by omega))
                          have fz56 := RelM.rg rl54
                          have pq57 : (V51 0 8).toInt = ((V38 0 8)).toInt := congrArg Int32.toInt (up2_k hV51 (by decide))
                          have pq58 : (V51 0 7).toInt = z50.toInt := congrArg Int32.toInt (up2_s hV51)
                          refine lv_aload_n hx hb dX12_takeTypes_100 rfl (lv_at hl 4 rfl) ?_
                          refine va_get (D := D) (ci := 12) (v := .int (V51 0 8)) (C := RX12) (T := TX12) (N := 100) hx hb hg inX12 hown hK hP 0 rfl rfl 8 (by decide) (hg _ w1714) (fun _ h9 => h9) rfl dX12_takeTypes_101 ?_
                          refine g_top (v := (V38 0 8)) (up2_k hV51 (by decide)) ?_
                          refine lv_if_ne (tgt := 184) hx hb dX12_takeTypes_104 (by decide) (fun c59 => ?_) (fun c59 => ?_)
                          · skip
                            have f60 : ((V38 0 8)).toInt ≠ 0 := b_neq rfl (by decide) c59
                            exfalso; first | omega | ((try (have i_xlp39_2 := Imp.go xlp39_2 (by omega))); (try (have i_xlp5_3 := Imp.go xlp5_3 (by omega))); (try (have i_xlp5_3 := Imp.go xlp5_3 (by omega))); (try (have i_xlp39_2 := Imp.go xlp39_2 (by omega))); omega)
                          · skip
                            have f61 : ((V38 0 8)).toInt = 0 := b_eq rfl (by decide) c59
                            refine lv_aload_n hx hb dX12_takeTypes_107 rfl (lv_at hl 4 rfl) ?_
                            refine va_get (D := D) (ci := 12) (v := .ref (ad 53)) (C := RX12) (T := TX12) (N := 100) hx hb hg inX12 hown hK hP 0 rfl rfl 53 (by decide) (hg _ w1759) (fun _ h9 => h9) rfl dX12_takeTypes_108 ?_
                            refine lv_iload_n hx hb dX12_takeTypes_111 rfl (lv_at hl 3 rfl) ?_
                            refine lv_iload hx hb dX12_takeTypes_112 (lv_at hl 1 rfl) ?_
                            refine va_iast (D := D) (i := y2) (x := z16) hx hb hK hP hD hS 41 40 rfl rfl (i_in (a := y2.toInt) rfl (by first | omega | ((try (have i_xlp39_2 := Imp.go xlp39_2 (by omega))); (try (have i_xlp5_3 := Imp.go xlp5_3 (by omega))); (try (have i_xlp5_3 := Imp.go xlp5_3 (by omega))); (try (have i_xlp39_2 := Imp.go xlp39_2 (by omega))); omega))) dX12_takeTypes_114 (fun H locs hP hD hS => ?_)
                            obtain ⟨V62, hV62⟩ : ∃ z, z = up2 V51 53 (Int32.toNatClampNeg y2) z16 := ⟨_, rfl⟩
                            have hP : va_P D vwCl (mw ad kk ks.1 V62 L) H := by rw [hV62]; exact hP
                            have hD : va_D A (mw ad kk ks.1 V62 L) := by rw [hV62]; exact hD
                            have hMV62 : rgd bM V62 := hMV51.put hV62 (show (-1) ≤ z16.toInt ∧ z16.toInt ≤ 23 from by first | omega | ((try (have i_xlp39_2 := Imp.go xlp39_2 (by omega))); (try (have i_xlp5_3 := Imp.go xlp5_3 (by omega))); (try (have i_xlp5_3 := Imp.go xlp5_3 (by omega))); (try (have i_xlp39_2 := Imp.go xlp39_2 (by omega))); omega))
                            have agV62 : agr [(0, 7), (0, 8)] [15, 21, 53] V V62 := agV51.up hV62 rfl
                            obtain ⟨z64, ez64⟩ : ∃ y : Int32, y = y2 + 1 := ⟨_, rfl⟩
                            have hz64 : z64.toInt = y2.toInt + 1 := i_add ez64 rfl (by decide) (by omega)
                            refine lv_iinc (v := z64) (lv' := [(3, .int z64), (6, .int y37), (5, .int z16), (4, .int y1), (0, .ref (ad 0)), (1, .ref (ad 21)), (2, .int p1)]) hx hb dX12_takeTypes_115 hl (k := 3) rfl (by rw [ez64]; rfl) (by decide) rfl (fun ls hl => ?_)
                            have ls65 : LST V62 z64.toInt (fx23 :: sn) := LST.add (LST.ag lq (by rw [(up2_fo hV51 (by decide) : V51 53 = V38 53), (funext (fun q => ajV38 53 q rfl) : V38 53 = V32 53), (up2_fo hV32 (by decide) : V32 53 = V20 53), (funext (fun q => ajV20 53 q rfl) : V20 53 = V3 53)] : V51 53 = V3 53)) hV62 rfl (by omega) (by omega) (by omega)
                            refine lv_iconst (v := 0) hx hb dX12_takeTypes_118 (by decide) ?_
                            refine lv_istore (lv' := [(6, .int 0), (3, .int z64), (5, .int z16), (4, .int y1), (0, .ref (ad 0)), (1, .ref (ad 21)), (2, .int p1)]) hx hb dX12_takeTypes_119 hl (by decide) rfl (fun ls hl => ?_)
                            have lp68 : ∀ (fulp68 : Nat) (y66 : Int32) (V67 : Vf) (H : Heap) (locs : List Loc) (ls : Array Slot), 0 ≤ y66.toInt ∧ y66.toInt ≤ 24 → 24 - y66.toInt < (fulp68 : Int) → agr [] [15, 21] V62 V67 → rgd bM V67 → va_P D vwCl (mw ad kk ks.1 V67 L) H → va_D A (mw ad kk ks.1 V67 L) → va_S A s.heap H locs → lv_has ls 7 [(6, .int y66), (3, .int z64), (5, .int z16), (4, .int y1), (0, .ref (ad 0)), (1, .ref (ad 21)), (2, .int p1)] → W p l e r_s_takeTypesA21 s m ([.ref (ad 0), .ref (ad 21), .int p1] : List Value).toArray below meth c H locs 0 0 (MQ below (q_s_takeTypesA21 D ks ad kk V L p1 bq gn gT gs gl A) ([.ref (ad 0), .ref (ad 21), .int p1] : List Value).toArray s 0 0 A) (F0 m 121 ls []) := by
                              intro fulp68
                              induction fulp68 with
                              | zero =>
                                intro y66 V67 H locs ls klp68_0 hn ajV67 hMV67 hP hD hS hl
                                exfalso; omega
                              | succ fulp68 ihlp68 =>
                                intro y66 V67 H locs ls klp68_0 hn ajV67 hMV67 hP hD hS hl
                                have agV67 : agr [(0, 7), (0, 8)] [15, 21, 53] V V67 := agV62.tr ajV67 (by decide) (by decide)
                                refine lv_iload hx hb dX12_takeTypes_121 (lv_at hl 0 rfl) ?_
                                refine lv_bipush (v := 24) hx hb dX12_takeTypes_123 (by decide) ?_
                                refine lv_icmp_ge (tgt := 184) hx hb dX12_takeTypes_125 (by decide) (fun c69 => ?_) (fun c69 => ?_)
                                · skip
                                  have f70 : 24 ≤ y66.toInt := b_le (by decide) rfl c69
                                  refine lv_aload_n hx hb dX12_takeTypes_184 rfl (lv_at hl 4 rfl) ?_
                                  refine lv_bipush (v := 44) hx hb dX12_takeTypes_185 (by decide) ?_
                                  have rl71 : RelM V67 L bq gn gT (nx s1 1) gl := RelM.ag rl54 (show agr [] [15, 21, 53] V51 V67 from (agr.tr (agr.up agr.rf hV62 rfl) ajV67 (by decide) (by decide))) (by decide) (show agL [] L L from agL.rf) (by decide)
                                  have r72 : Int32.toInt 44 = 44 := by decide
                                  refine gA_int (gA_runV (As := [.int 44]) (rest := []) (ci := 12) (q0 := 0) hx hb hml hown hg hP hD hK hS hA hnw hgk (s_hasSignA l D ks H.size ad kk V67 L 44 (bq) (gn) (gT) ((nx s1 1)) (gl) hMV67 rl71 (sg_yes (j := 44) (by decide) (by decide) (by decide))) w2067 w2069 w94 w172 w2070 rfl rfl hdV_yX12_hasSign ⟨Nat.le_of_ble_eq_true rfl, Nat.le_of_ble_eq_true rfl⟩ rfl hl.1 rfl (Nat.le_of_ble_eq_true rfl) dX12_takeTypes_187 ⟨Nat.le_of_ble_eq_true rfl, Nat.le_of_ble_eq_true rfl⟩) hP hD hK hS hA (fun z73 u74 H locs w75 hP hD hK hS => ?_)
                                  obtain ⟨V77, L78⟩ := u74
                                  obtain ⟨hMV77, ajV77, axL78, rgz73, t76⟩ := w75
                                  have axL78 : L = L78 := Eq.symm axL78
                                  subst axL78
                                  have hP : va_P D vwCl (mw ad kk ks.1 V77 L) H := hP
                                  have hD : va_D A (mw ad kk ks.1 V77 L) := hD
                                  have hMV77 : rgd bM V77 := hMV77
                                  have ajV77 : agr [(0, 7)] [] V67 V77 := ajV77
                                  have agV77 : agr [(0, 7), (0, 8)] [15, 21, 53] V V77 := agV67.tr ajV77 (by decide) (by decide)
                                  have rgz73 : 0 ≤ z73.toInt ∧ z73.toInt ≤ 1 := rgz73
                                  have t76 : (z73.toInt = 1 ∧ (gT).1 (((nx s1 1)).1 0) = (Int32.toInt 44) ∧ RelM V77 L (bq) (gn) (gT) (nx ((nx s1 1)) 1) (gl)) ∨ (z73.toInt = 0 ∧ (gT).1 (((nx s1 1)).1 0) ≠ (Int32.toInt 44) ∧ RelM V77 L (bq) (gn) (gT) ((nx s1 1)) (gl)) := t76
                                  rcases t76 with ⟨q79, h80, rl81⟩ | ⟨q79, h80, rl81⟩
                                  · skip
                                    have kd82 : gT.1 ((nx s1 1).1 0) = 44 := h80.trans (by decide)
                                    have hr83 : ∀ k, Rc gT (Crun gs (Itypes 0 [] :: k)) (Crun (nx (nx s1 1) 1) (Itypes (y2.toInt.toNat + 1) (fx23 :: sn) :: k)) := fun k => Rc.go1 (hr55 k) (more_y (y2.toInt.toNat + 1) (fx23 :: sn) kd82)
                                    have ps84 : (nx (nx s1 1) 1).1 0 = (nx s1 1).1 0 + 1 := rfl
                                    have fz85 := RelM.rg rl81
                                    have pq86 : (V77 0 8).toInt = ((V38 0 8)).toInt := congrArg Int32.toInt ((ajV77 0 8 rfl).trans ((ajV67 0 8 rfl).trans ((up2_o hV62 (by decide)).trans (up2_k hV51 (by decide)))))
                                    refine lv_istore (lv' := [(4, .int z73), (6, .int y66), (3, .int z64), (5, .int z16), (0, .ref (ad 0)), (1, .ref (ad 21)), (2, .int p1)]) hx hb dX12_takeTypes_190 hl (by decide) rfl (fun ls hl => ?_)
                                    refine lv_goto (tgt := 5) hx hb dX12_takeTypes_192 (by decide) ?_
                                    have pq87 : (V77 0 12).toInt = ((V 0 12)).toInt := congrArg Int32.toInt ((ajV77 0 12 rfl).trans ((ajV67 0 12 rfl).trans ((up2_o hV62 (by decide)).trans ((up2_k hV51 (by decide)).trans ((ajV38 0 12 rfl).trans ((up2_k hV32 (by decide)).trans ((ajV20 0 12 rfl).trans (ajV3 0 12 rfl))))))))
                                    exact ihlp5 (g4 - 1) z73 z64 V77 H locs ls (by first | omega | ((try (have i_xlp39_2 := Imp.go xlp39_2 (by omega))); (try (have i_xlp5_3 := Imp.go xlp5_3 (by omega))); (try (have i_xlp5_3 := Imp.go xlp5_3 (by omega))); (try (have i_xlp39_2 := Imp.go xlp39_2 (by omega))); omega)) (by first | omega | ((try (have i_xlp39_2 := Imp.go xlp39_2 (by omega))); (try (have i_xlp5_3 := Imp.go xlp5_3 (by omega))); (try (have i_xlp5_3 := Imp.go xlp5_3 (by omega))); (try (have i_xlp39_2 := Imp.go xlp39_2 (by omega))); omega)) (Or.inl ⟨W0 rl81, (by omega), (nx (nx s1 1) 1), (fx23 :: sn), (by rw [show z64.toInt.toNat = (y2.toInt.toNat + 1) from by omega]; exact hr83), rl81, keepS.le (keepS.tr (keepS.tr (keepS.tr (keepS.rf : keepS gs 0 gs) kq) (keepS.n1 1)) (keepS.n1 1)) (by decide), LST.ag ls65 (by rw [(funext (fun q => ajV77 53 q rfl) : V77 53 = V67 53), (funext (fun q => ajV67 53 q rfl) : V67 53 = V62 53)] : V77 53 = V62 53)⟩) (show 0 ≤ (g4 - 1) from by first | omega | ((try (have i_xlp39_2 := Imp.go xlp39_2 (by omega))); (try (have i_xlp5_3 := Imp.go xlp5_3 (by omega))); (try (have i_xlp5_3 := Imp.go xlp5_3 (by omega))); (try (have i_xlp39_2 := Imp.go xlp39_2 (by omega))); omega)) (show z64.toInt ≤ 6 from by first | omega | ((try (have i_xlp39_2 := Imp.go xlp39_2 (by omega))); (try (have i_xlp5_3 := Imp.go xlp5_3 (by omega))); (try (have i_xlp5_3 := Imp.go xlp5_3 (by omega))); (try (have i_xlp39_2 := Imp.go xlp39_2 (by omega))); omega)) (Imp.mk (fun hp => have hp : (V77 0 8).toInt = 0 := hp; (show 7 - z64.toInt < (g4 - 1) from by first | omega | ((try (have i_xlp39_2 := Imp.go xlp39_2 (by omega))); (try (have i_xlp5_3 := Imp.go xlp5_3 (by omega))); (try (have i_xlp5_3 := Imp.go xlp5_3 (by omega))); (try (have i_xlp39_2 := Imp.go xlp39_2 (by omega))); omega)))) (show (V77 0 12).toInt = (V 0 12).toInt from by first | omega | ((try (have i_xlp39_2 := Imp.go xlp39_2 (by omega))); (try (have i_xlp5_3 := Imp.go xlp5_3 (by omega))); (try (have i_xlp5_3 := Imp.go xlp5_3 (by omega))); (try (have i_xlp39_2 := Imp.go xlp39_2 (by omega))); omega)) (by first | omega | ((try (have i_xlp39_2 := Imp.go xlp39_2 (by omega))); (try (have i_xlp5_3 := Imp.go xlp5_3 (by omega))); (try (have i_xlp5_3 := Imp.go xlp5_3 (by omega))); (try (have i_xlp39_2 := Imp.go xlp39_2 (by omega))); omega)) (agr.tr (agr.tr (agr.up (agr.up (agr.tr (agr.up (agr.tr (agr.tr agr.rf ajV3 (by decide) (by decide)) ajV20 (by decide) (by decide)) hV32 rfl) ajV38 (by decide) (by decide)) hV51 rfl) hV62 rfl) ajV67 (by decide) (by decide)) ajV77 (by decide) (by decide)) hMV77 hP hD hS (lv_sub hl [0, 2, 4, 5, 6] rfl)
                                  · skip
                                    have kd88 : gT.1 ((nx s1 1).1 0) ≠ 44 := fun h9 => h80 (h9.trans (by decide))
                                    have fz89 := RelM.rg rl81
                                    have pq90 : (V77 0 8).toInt = ((V38 0 8)).toInt := congrArg Int32.toInt ((ajV77 0 8 rfl).trans ((ajV67 0 8 rfl).trans ((up2_o hV62 (by decide)).trans (up2_k hV51 (by decide)))))
                                    refine lv_istore (lv' := [(4, .int z73), (6, .int y66), (3, .int z64), (5, .int z16), (0, .ref (ad 0)), (1, .ref (ad 21)), (2, .int p1)]) hx hb dX12_takeTypes_190 hl (by decide) rfl (fun ls hl => ?_)
                                    refine lv_goto (tgt := 5) hx hb dX12_takeTypes_192 (by decide) ?_
                                    have pq91 : (V77 0 12).toInt = ((V 0 12)).toInt := congrArg Int32.toInt ((ajV77 0 12 rfl).trans ((ajV67 0 12 rfl).trans ((up2_o hV62 (by decide)).trans ((up2_k hV51 (by decide)).trans ((ajV38 0 12 rfl).trans ((up2_k hV32 (by decide)).trans ((ajV20 0 12 rfl).trans (ajV3 0 12 rfl))))))))
                                    have hr92 : ∀ k, Rc gT (Crun gs (Itypes 0 [] :: k)) (Crun (nx s1 1) (k)) := fun k => Rc.go1 (hr55 k) (more_n (y2.toInt.toNat + 1) (fx23 :: sn) kd88)
                                    exact ihlp5 (g4 - 1) z73 z64 V77 H locs ls (by first | omega | ((try (have i_xlp39_2 := Imp.go xlp39_2 (by omega))); (try (have i_xlp5_3 := Imp.go xlp5_3 (by omega))); (try (have i_xlp5_3 := Imp.go xlp5_3 (by omega))); (try (have i_xlp39_2 := Imp.go xlp39_2 (by omega))); omega)) (by first | omega | ((try (have i_xlp39_2 := Imp.go xlp39_2 (by omega))); (try (have i_xlp5_3 := Imp.go xlp5_3 (by omega))); (try (have i_xlp5_3 := Imp.go xlp5_3 (by omega))); (try (have i_xlp39_2 := Imp.go xlp39_2 (by omega))); omega)) (Or.inr (Or.inl ⟨W0 rl81, (by omega), (nx s1 1), hr92, rl81, keepS.le (keepS.tr (keepS.tr (keepS.rf : keepS gs 0 gs) kq) (keepS.n1 1)) (by decide)⟩)) (show 0 ≤ (g4 - 1) from by first | omega | ((try (have i_xlp39_2 := Imp.go xlp39_2 (by omega))); (try (have i_xlp5_3 := Imp.go xlp5_3 (by omega))); (try (have i_xlp5_3 := Imp.go xlp5_3 (by omega))); (try (have i_xlp39_2 := Imp.go xlp39_2 (by omega))); omega)) (show z64.toInt ≤ 6 from by first | omega | ((try (have i_xlp39_2 := Imp.go xlp39_2 (by omega))); (try (have i_xlp5_3 := Imp.go xlp5_3 (by omega))); (try (have i_xlp5_3 := Imp.go xlp5_3 (by omega))); (try (have i_xlp39_2 := Imp.go xlp39_2 (by omega))); omega)) (Imp.mk (fun hp => have hp : (V77 0 8).toInt = 0 := hp; (show 7 - z64.toInt < (g4 - 1) from by first | omega | ((try (have i_xlp39_2 := Imp.go xlp39_2 (by omega))); (try (have i_xlp5_3 := Imp.go xlp5_3 (by omega))); (try (have i_xlp5_3 := Imp.go xlp5_3 (by omega))); (try (have i_xlp39_2 := Imp.go xlp39_2 (by omega))); omega)))) (show (V77 0 12).toInt = (V 0 12).toInt from by first | omega | ((try (have i_xlp39_2 := Imp.go xlp39_2 (by omega))); (try (have i_xlp5_3 := Imp.go xlp5_3 (by omega))); (try (have i_xlp5_3 := Imp.go xlp5_3 (by omega))); (try (have i_xlp39_2 := Imp.go xlp39_2 (by omega))); omega)) (by first | omega | ((try (have i_xlp39_2 := Imp.go xlp39_2 (by omega))); (try (have i_xlp5_3 := Imp.go xlp5_3 (by omega))); (try (have i_xlp5_3 := Imp.go xlp5_3 (by omega))); (try (have i_xlp39_2 := Imp.go xlp39_2 (by omega))); omega)) (agr.tr (agr.tr (agr.up (agr.up (agr.tr (agr.up (agr.tr (agr.tr agr.rf ajV3 (by decide) (by decide)) ajV20 (by decide) (by decide)) hV32 rfl) ajV38 (by decide) (by decide)) hV51 rfl) hV62 rfl) ajV67 (by decide) (by decide)) ajV77 (by decide) (by decide)) hMV77 hP hD hS (lv_sub hl [0, 2, 4, 5, 6] rfl)
                                · skip
                                  have f93 : y66.toInt < 24 := b_nle (by decide) rfl c69
                                  refine lv_aload_n hx hb dX12_takeTypes_128 rfl (lv_at hl 5 rfl) ?_
                                  refine lv_bipush (v := 24) hx hb dX12_takeTypes_129 (by decide) ?_
                                  refine lv_iload_n hx hb dX12_takeTypes_131 rfl (lv_at hl 6 rfl) ?_
                                  refine lv_imul hx hb dX12_takeTypes_132 ?_
                                  refine lv_topi (fun z94 ez94 => ?_)
                                  have hz94 : z94.toInt = 24 * p1.toInt := i_mul ez94 (by decide) rfl (by omega)
                                  refine lv_iload hx hb dX12_takeTypes_133 (lv_at hl 0 rfl) ?_
                                  refine lv_iadd hx hb dX12_takeTypes_135 ?_
                                  refine lv_topi (fun z95 ez95 => ?_)
                                  have hz95 : z95.toInt = z94.toInt + y66.toInt := i_add ez95 rfl rfl (by omega)
                                  refine lv_aload_n hx hb dX12_takeTypes_136 rfl (lv_at hl 5 rfl) ?_
                                  refine lv_bipush (v := 24) hx hb dX12_takeTypes_137 (by decide) ?_
                                  refine lv_iload_n hx hb dX12_takeTypes_139 rfl (lv_at hl 6 rfl) ?_
                                  refine lv_imul hx hb dX12_takeTypes_140 ?_
                                  refine lv_topi (fun z96 ez96 => ?_)
                                  have hz96 : z96.toInt = 24 * p1.toInt := i_mul ez96 (by decide) rfl (by omega)
                                  refine lv_iload hx hb dX12_takeTypes_141 (lv_at hl 0 rfl) ?_
                                  refine lv_iadd hx hb dX12_takeTypes_143 ?_
                                  refine lv_topi (fun z97 ez97 => ?_)
                                  have hz97 : z97.toInt = z96.toInt + y66.toInt := i_add ez97 rfl rfl (by omega)
                                  refine va_zald (D := D) (i := z97) hx hb hK hP 14 13 rfl rfl (i_in (a := z97.toInt) rfl (by first | omega | ((try (have i_xlp39_2 := Imp.go xlp39_2 (by omega))); (try (have i_xlp5_3 := Imp.go xlp5_3 (by omega))); (try (have i_xlp5_3 := Imp.go xlp5_3 (by omega))); (try (have i_xlp39_2 := Imp.go xlp39_2 (by omega))); omega))) dX12_takeTypes_144 ?_
                                  have r98 : 0 ≤ ((V67 21 (Int32.toNatClampNeg z97))).toInt ∧ ((V67 21 (Int32.toNatClampNeg z97))).toInt ≤ 1 := hMV67 21 (Int32.toNatClampNeg z97)
                                  refine lv_if_ne (tgt := 172) hx hb dX12_takeTypes_145 (by decide) (fun c99 => ?_) (fun c99 => ?_)
                                  · skip
                                    have f100 : ((V67 21 (Int32.toNatClampNeg z97))).toInt ≠ 0 := b_neq rfl (by decide) c99
                                    refine lv_iconst (v := 1) hx hb dX12_takeTypes_172 (by decide) ?_
                                    refine lv_goto (tgt := 177) hx hb dX12_takeTypes_173 (by decide) ?_
                                    refine va_zast (D := D) (i := z95) (x := 1) hx hb hK hP hD hS 14 13 rfl rfl (i_in (a := z95.toInt) rfl (by first | omega | ((try (have i_xlp39_2 := Imp.go xlp39_2 (by omega))); (try (have i_xlp5_3 := Imp.go xlp5_3 (by omega))); (try (have i_xlp5_3 := Imp.go xlp5_3 (by omega))); (try (have i_xlp39_2 := Imp.go xlp39_2 (by omega))); omega))) dX12_takeTypes_177 (fun H locs hP hD hS => ?_)
                                    obtain ⟨V101, hV101⟩ : ∃ z, z = up2 V67 21 (Int32.toNatClampNeg z95) (vp_nar .boolean 1) := ⟨_, rfl⟩
                                    have hP : va_P D vwCl (mw ad kk ks.1 V101 L) H := by rw [hV101]; exact hP
                                    have hD : va_D A (mw ad kk ks.1 V101 L) := by rw [hV101]; exact hD
                                    have hMV101 : rgd bM V101 := hMV67.put hV101 (nar_b _)
                                    have agV101 : agr [(0, 7), (0, 8)] [15, 21, 53] V V101 := agV67.up hV101 rfl
                                    obtain ⟨z102, ez102⟩ : ∃ y : Int32, y = y66 + 1 := ⟨_, rfl⟩
                                    have hz102 : z102.toInt = y66.toInt + 1 := i_add ez102 rfl (by decide) (by omega)
                                    refine lv_iinc (v := z102) (lv' := [(6, .int z102), (3, .int z64), (5, .int z16), (4, .int y1), (0, .ref (ad 0)), (1, .ref (ad 21)), (2, .int p1)]) hx hb dX12_takeTypes_178 hl (k := 0) rfl (by rw [ez102]; rfl) (by decide) rfl (fun ls hl => ?_)
                                    refine lv_goto (tgt := 121) hx hb dX12_takeTypes_181 (by decide) ?_
                                    exact ihlp68 z102 V101 H locs ls (by first | omega | ((try (have i_xlp39_2 := Imp.go xlp39_2 (by omega))); (try (have i_xlp5_3 := Imp.go xlp5_3 (by omega))); (try (have i_xlp5_3 := Imp.go xlp5_3 (by omega))); (try (have i_xlp39_2 := Imp.go xlp39_2 (by omega))); omega)) (by first | omega | ((try (have i_xlp39_2 := Imp.go xlp39_2 (by omega))); (try (have i_xlp5_3 := Imp.go xlp5_3 (by omega))); (try (have i_xlp5_3 := Imp.go xlp5_3 (by omega))); (try (have i_xlp39_2 := Imp.go xlp39_2 (by omega))); omega)) (agr.up (agr.tr agr.rf ajV67 (by decide) (by decide)) hV101 rfl) hMV101 hP hD hS (lv_sub hl [0, 1, 2, 3, 4, 5, 6] rfl)
                                  · skip
                                    have f103 : ((V67 21 (Int32.toNatClampNeg z97))).toInt = 0 := b_eq rfl (by decide) c99
                                    refine lv_aload_n hx hb dX12_takeTypes_148 rfl (lv_at hl 4 rfl) ?_
                                    refine va_get (D := D) (ci := 12) (v := .ref (ad 15)) (C := RX12) (T := TX12) (N := 100) hx hb hg inX12 hown hK hP 0 rfl rfl 15 (by decide) (hg _ w1721) (fun _ h9 => h9) rfl dX12_takeTypes_149 ?_
                                    refine lv_bipush (v := 24) hx hb dX12_takeTypes_152 (by decide) ?_
                                    refine lv_bipush (v := 24) hx hb dX12_takeTypes_154 (by decide) ?_
                                    refine lv_aload_n hx hb dX12_takeTypes_156 rfl (lv_at hl 4 rfl) ?_
                                    refine va_get (D := D) (ci := 12) (v := .int (V67 0 12)) (C := RX12) (T := TX12) (N := 100) hx hb hg inX12 hown hK hP 0 rfl rfl 12 (by decide) (hg _ w1718) (fun _ h9 => h9) rfl dX12_takeTypes_157 ?_
                                    refine g_top (v := (V 0 12)) ((ajV67 0 12 rfl).trans ((up2_o hV62 (by decide)).trans ((up2_k hV51 (by decide)).trans ((ajV38 0 12 rfl).trans ((up2_k hV32 (by decide)).trans ((ajV20 0 12 rfl).trans (ajV3 0 12 rfl))))))) ?_
                                    refine lv_imul hx hb dX12_takeTypes_160 ?_
                                    refine lv_topi (fun z104 ez104 => ?_)
                                    have hz104 : z104.toInt = 24 * ((V 0 12)).toInt := i_mul ez104 (by decide) rfl (by omega)
                                    refine lv_iload hx hb dX12_takeTypes_161 (lv_at hl 2 rfl) ?_
                                    refine lv_iadd hx hb dX12_takeTypes_163 ?_
                                    refine lv_topi (fun z105 ez105 => ?_)
                                    have hz105 : z105.toInt = z104.toInt + z16.toInt := i_add ez105 rfl rfl (by omega)
                                    refine lv_imul hx hb dX12_takeTypes_164 ?_
                                    refine lv_topi (fun z106 ez106 => ?_)
                                    have hz106 : z106.toInt = 24 * z105.toInt := i_mul ez106 (by decide) rfl (by omega)
                                    refine lv_iload hx hb dX12_takeTypes_165 (lv_at hl 0 rfl) ?_
                                    refine lv_iadd hx hb dX12_takeTypes_167 ?_
                                    refine lv_topi (fun z107 ez107 => ?_)
                                    have hz107 : z107.toInt = z106.toInt + y66.toInt := i_add ez107 rfl rfl (by omega)
                                    refine va_zald (D := D) (i := z107) hx hb hK hP 8 7 rfl rfl (i_in (a := z107.toInt) rfl (by first | omega | ((try (have i_xlp39_2 := Imp.go xlp39_2 (by omega))); (try (have i_xlp5_3 := Imp.go xlp5_3 (by omega))); (try (have i_xlp5_3 := Imp.go xlp5_3 (by omega))); (try (have i_xlp39_2 := Imp.go xlp39_2 (by omega))); omega))) dX12_takeTypes_168 ?_
                                    have r108 : 0 ≤ ((V67 15 (Int32.toNatClampNeg z107))).toInt ∧ ((V67 15 (Int32.toNatClampNeg z107))).toInt ≤ 1 := hMV67 15 (Int32.toNatClampNeg z107)
                                    refine lv_if_eq (tgt := 176) hx hb dX12_takeTypes_169 (by decide) (fun c109 => ?_) (fun c109 => ?_)
                                    · skip
                                      have f110 : ((V67 15 (Int32.toNatClampNeg z107))).toInt = 0 := b_eq rfl (by decide) c109
                                      refine lv_iconst (v := 0) hx hb dX12_takeTypes_176 (by decide) ?_
                                      refine va_zast (D := D) (i := z95) (x := 0) hx hb hK hP hD hS 14 13 rfl rfl (i_in (a := z95.toInt) rfl (by first | omega | ((try (have i_xlp39_2 := Imp.go xlp39_2 (by omega))); (try (have i_xlp5_3 := Imp.go xlp5_3 (by omega))); (try (have i_xlp5_3 := Imp.go xlp5_3 (by omega))); (try (have i_xlp39_2 := Imp.go xlp39_2 (by omega))); omega))) dX12_takeTypes_177 (fun H locs hP hD hS => ?_)
                                      obtain ⟨V111, hV111⟩ : ∃ z, z = up2 V67 21 (Int32.toNatClampNeg z95) (vp_nar .boolean 0) := ⟨_, rfl⟩
                                      have hP : va_P D vwCl (mw ad kk ks.1 V111 L) H := by rw [hV111]; exact hP
                                      have hD : va_D A (mw ad kk ks.1 V111 L) := by rw [hV111]; exact hD
                                      have hMV111 : rgd bM V111 := hMV67.put hV111 (nar_b _)
                                      have agV111 : agr [(0, 7), (0, 8)] [15, 21, 53] V V111 := agV67.up hV111 rfl
                                      obtain ⟨z112, ez112⟩ : ∃ y : Int32, y = y66 + 1 := ⟨_, rfl⟩
                                      have hz112 : z112.toInt = y66.toInt + 1 := i_add ez112 rfl (by decide) (by omega)
                                      refine lv_iinc (v := z112) (lv' := [(6, .int z112), (3, .int z64), (5, .int z16), (4, .int y1), (0, .ref (ad 0)), (1, .ref (ad 21)), (2, .int p1)]) hx hb dX12_takeTypes_178 hl (k := 0) rfl (by rw [ez112]; rfl) (by decide) rfl (fun ls hl => ?_)
                                      refine lv_goto (tgt := 121) hx hb dX12_takeTypes_181 (by decide) ?_
                                      exact ihlp68 z112 V111 H locs ls (by first | omega | ((try (have i_xlp39_2 := Imp.go xlp39_2 (by omega))); (try (have i_xlp5_3 := Imp.go xlp5_3 (by omega))); (try (have i_xlp5_3 := Imp.go xlp5_3 (by omega))); (try (have i_xlp39_2 := Imp.go xlp39_2 (by omega))); omega)) (by first | omega | ((try (have i_xlp39_2 := Imp.go xlp39_2 (by omega))); (try (have i_xlp5_3 := Imp.go xlp5_3 (by omega))); (try (have i_xlp5_3 := Imp.go xlp5_3 (by omega))); (try (have i_xlp39_2 := Imp.go xlp39_2 (by omega))); omega)) (agr.up (agr.tr agr.rf ajV67 (by decide) (by decide)) hV111 rfl) hMV111 hP hD hS (lv_sub hl [0, 1, 2, 3, 4, 5, 6] rfl)
                                    · skip
                                      have f113 : ((V67 15 (Int32.toNatClampNeg z107))).toInt ≠ 0 := b_neq rfl (by decide) c109
                                      refine lv_iconst (v := 1) hx hb dX12_takeTypes_172 (by decide) ?_
                                      refine lv_goto (tgt := 177) hx hb dX12_takeTypes_173 (by decide) ?_
                                      refine va_zast (D := D) (i := z95) (x := 1) hx hb hK hP hD hS 14 13 rfl rfl (i_in (a := z95.toInt) rfl (by first | omega | ((try (have i_xlp39_2 := Imp.go xlp39_2 (by omega))); (try (have i_xlp5_3 := Imp.go xlp5_3 (by omega))); (try (have i_xlp5_3 := Imp.go xlp5_3 (by omega))); (try (have i_xlp39_2 := Imp.go xlp39_2 (by omega))); omega))) dX12_takeTypes_177 (fun H locs hP hD hS => ?_)
                                      obtain ⟨V114, hV114⟩ : ∃ z, z = up2 V67 21 (Int32.toNatClampNeg z95) (vp_nar .boolean 1) := ⟨_, rfl⟩
                                      have hP : va_P D vwCl (mw ad kk ks.1 V114 L) H := by rw [hV114]; exact hP
                                      have hD : va_D A (mw ad kk ks.1 V114 L) := by rw [hV114]; exact hD
                                      have hMV114 : rgd bM V114 := hMV67.put hV114 (nar_b _)
                                      have agV114 : agr [(0, 7), (0, 8)] [15, 21, 53] V V114 := agV67.up hV114 rfl
                                      obtain ⟨z115, ez115⟩ : ∃ y : Int32, y = y66 + 1 := ⟨_, rfl⟩
                                      have hz115 : z115.toInt = y66.toInt + 1 := i_add ez115 rfl (by decide) (by omega)
                                      refine lv_iinc (v := z115) (lv' := [(6, .int z115), (3, .int z64), (5, .int z16), (4, .int y1), (0, .ref (ad 0)), (1, .ref (ad 21)), (2, .int p1)]) hx hb dX12_takeTypes_178 hl (k := 0) rfl (by rw [ez115]; rfl) (by decide) rfl (fun ls hl => ?_)
                                      refine lv_goto (tgt := 121) hx hb dX12_takeTypes_181 (by decide) ?_
                                      exact ihlp68 z115 V114 H locs ls (by first | omega | ((try (have i_xlp39_2 := Imp.go xlp39_2 (by omega))); (try (have i_xlp5_3 := Imp.go xlp5_3 (by omega))); (try (have i_xlp5_3 := Imp.go xlp5_3 (by omega))); (try (have i_xlp39_2 := Imp.go xlp39_2 (by omega))); omega)) (by first | omega | ((try (have i_xlp39_2 := Imp.go xlp39_2 (by omega))); (try (have i_xlp5_3 := Imp.go xlp5_3 (by omega))); (try (have i_xlp5_3 := Imp.go xlp5_3 (by omega))); (try (have i_xlp39_2 := Imp.go xlp39_2 (by omega))); omega)) (agr.up (agr.tr agr.rf ajV67 (by decide) (by decide)) hV114 rfl) hMV114 hP hD hS (lv_sub hl [0, 1, 2, 3, 4, 5, 6] rfl)
                            have r116 : Int32.toInt 0 = 0 := by decide
                            exact lp68 ((24 - (Int32.toInt 0) + 1 : Int).toNat) 0 V62 H locs ls (by decide) (by first | omega | ((try (have i_xlp39_2 := Imp.go xlp39_2 (by omega))); (try (have i_xlp5_3 := Imp.go xlp5_3 (by omega))); (try (have i_xlp5_3 := Imp.go xlp5_3 (by omega))); (try (have i_xlp39_2 := Imp.go xlp39_2 (by omega))); omega)) agr.rf hMV62 hP hD hS (lv_sub hl [0, 1, 2, 3, 4, 5, 6] rfl)
                        · skip
                          have f117 : y2.toInt = 6 := b_eq rfl (by decide) c48
                          refine lv_aload_n hx hb dX12_takeTypes_85 rfl (lv_at hl 4 rfl) ?_
                          refine lv_iconst (v := 5) hx hb dX12_takeTypes_86 (by decide) ?_
                          have r118 : Int32.toInt 5 = 5 := by decide
                          refine gA_void (gA_runV (As := [.int 5]) (rest := []) (ci := 12) (q0 := 0) hx hb hml hown hg hP hD hK hS hA hnw hgk (s_wrongA l D ks H.size ad kk V38 L 5 (bq) (gn) (gT) (s1) (gl) hMV38 (by decide) ri) w2035 w2037 w86 w172 w2038 rfl rfl hdV_yX12_wrong ⟨Nat.le_of_ble_eq_true rfl, Nat.le_of_ble_eq_true rfl⟩ rfl hl.1 rfl (Nat.le_of_ble_eq_true rfl) dX12_takeTypes_87 ⟨Nat.le_of_ble_eq_true rfl, Nat.le_of_ble_eq_true rfl⟩) hP hD hK hS hA (fun u120 H locs w121 hP hD hK hS => ?_)
                          obtain ⟨V124, L125⟩ := u120
                          obtain ⟨hMV124, ajV124, axL125, t122, t123⟩ := w121
                          have axL125 : L = L125 := Eq.symm axL125
                          subst axL125
                          have hP : va_P D vwCl (mw ad kk ks.1 V124 L) H := hP
                          have hD : va_D A (mw ad kk ks.1 V124 L) := hD
                          have hMV124 : rgd bM V124 := hMV124
                          have ajV124 : agr [(0, 8)] [] V38 V124 := ajV124
                          have agV124 : agr [(0, 7), (0, 8)] [15, 21, 53] V V124 := agV38.tr ajV124 (by decide) (by decide)
                          have t122 : 1 ≤ (V124 0 8).toInt := t122
                          have t123 : (V124 0 8).toInt = (Int32.toInt 5) + 16 * (gT).2.2 ((s1).1 0) := t123
                          have r126 : 0 ≤ ((V124 0 8)).toInt ∧ ((V124 0 8)).toInt ≤ 70000 := hMV124 0 8
                          have hb127 : ∀ k, Rc gT (Crun gs (Itypes 0 [] :: k)) (Cbad (V124 0 8).toInt) := fun k => Rc.go1 (hq k) ((ty_5 h24 (LST.no (LST.ag lq (by rw [(funext (fun q => ajV38 53 q rfl) : V38 53 = V32 53), (up2_fo hV32 (by decide) : V32 53 = V20 53), (funext (fun q => ajV20 53 q rfl) : V20 53 = V3 53)] : V38 53 = V3 53)) (fun k h9 => by rw [← hf26]; exact ni k (by omega))) (by omega)).trans (fl_eq rfl (show (V124 0 8).toInt = 5 + 16 * gT.2.2 (s1.1 0) from by omega)))
                          refine lv_aload_n hx hb dX12_takeTypes_90 rfl (lv_at hl 4 rfl) ?_
                          refine lv_dup hx hb dX12_takeTypes_91 rfl ?_
                          refine va_get (D := D) (ci := 12) (v := .int (V124 0 7)) (C := RX12) (T := TX12) (N := 100) hx hb hg inX12 hown hK hP 0 rfl rfl 7 (by decide) (hg _ w1713) (fun _ h9 => h9) rfl dX12_takeTypes_92 ?_
                          refine g_top (v := z31) ((ajV124 0 7 rfl).trans ((ajV38 0 7 rfl).trans (up2_s hV32))) ?_
                          refine lv_iconst (v := 1) hx hb dX12_takeTypes_95 (by decide) ?_
                          refine lv_iadd hx hb dX12_takeTypes_96 ?_
                          refine lv_topi (fun z128 ez128 => ?_)
                          have hz128 : z128.toInt = z31.toInt + 1 := i_add ez128 rfl (by decide) (by omega)
                          refine va_put (D := D) (ci := 12) (v := .int z128) (ty := tyX12 7) (C := RX12) (T := TX12) (N := 100) hx hb hg inX12 tyX12 tyX12_ok nmX12 hown hK hP hD hS 0 rfl rfl 7 (by decide) (hg _ w1713) (fun _ h9 => h9) rfl (tyX12_ok 7 (by decide)) rfl rfl (Nat.le_of_ble_eq_true rfl) dX12_takeTypes_97 (fun H locs hP hD hS => ?_)
                          obtain ⟨V129, hV129⟩ : ∃ z, z = up2 V124 0 7 z128 := ⟨_, rfl⟩
                          have hP : va_P D vwCl (mw ad kk ks.1 V129 L) H := by rw [hV129]; exact hP
                          have hD : va_D A (mw ad kk ks.1 V129 L) := by rw [hV129]; exact hD
                          have hMV129 : rgd bM V129 := hMV124.put hV129 (i_full _)
                          have agV129 : agr [(0, 7), (0, 8)] [15, 21, 53] V V129 := agV124.up hV129 rfl
                          refine lv_aload_n hx hb dX12_takeTypes_100 rfl (lv_at hl 4 rfl) ?_
                          refine va_get (D := D) (ci := 12) (v := .int (V129 0 8)) (C := RX12) (T := TX12) (N := 100) hx hb hg inX12 hown hK hP 0 rfl rfl 8 (by decide) (hg _ w1714) (fun _ h9 => h9) rfl dX12_takeTypes_101 ?_
                          refine g_top (v := (V124 0 8)) (up2_k hV129 (by decide)) ?_
                          refine lv_if_ne (tgt := 184) hx hb dX12_takeTypes_104 (by decide) (fun c130 => ?_) (fun c130 => ?_)
                          · skip
                            have f131 : ((V124 0 8)).toInt ≠ 0 := b_neq rfl (by decide) c130
                            refine lv_aload_n hx hb dX12_takeTypes_184 rfl (lv_at hl 4 rfl) ?_
                            refine lv_bipush (v := 44) hx hb dX12_takeTypes_185 (by decide) ?_
                            have r132 : Int32.toInt 44 = 44 := by decide
                            have pq133 : (V129 0 8).toInt = ((V124 0 8)).toInt := congrArg Int32.toInt (up2_k hV129 (by decide))
                            refine gA_int (gA_runV (As := [.int 44]) (rest := []) (ci := 12) (q0 := 0) hx hb hml hown hg hP hD hK hS hA hnw hgk (s_hasSignB l D ks H.size ad kk V129 L 44 hMV129 (show 1 ≤ (V129 0 8).toInt from by first | omega | ((try (have i_xlp39_2 := Imp.go xlp39_2 (by omega))); (try (have i_xlp5_3 := Imp.go xlp5_3 (by omega))); (try (have i_xlp5_3 := Imp.go xlp5_3 (by omega))); (try (have i_xlp39_2 := Imp.go xlp39_2 (by omega))); omega))) w2067 w2069 w94 w172 w2070 rfl rfl hdV_yX12_hasSign ⟨Nat.le_of_ble_eq_true rfl, Nat.le_of_ble_eq_true rfl⟩ rfl hl.1 rfl (Nat.le_of_ble_eq_true rfl) dX12_takeTypes_187 ⟨Nat.le_of_ble_eq_true rfl, Nat.le_of_ble_eq_true rfl⟩) hP hD hK hS hA (fun z134 u135 H locs w136 hP hD hK hS => ?_)
                            obtain ⟨V138, L139⟩ := u135
                            obtain ⟨hMV138, ajV138, axL139, rgz134, t137⟩ := w136
                            have axL139 : L = L139 := Eq.symm axL139
                            subst axL139
                            have hP : va_P D vwCl (mw ad kk ks.1 V138 L) H := hP
                            have hD : va_D A (mw ad kk ks.1 V138 L) := hD
                            have hMV138 : rgd bM V138 := hMV138
                            have ajV138 : agr [(0, 7)] [] V129 V138 := ajV138
                            have agV138 : agr [(0, 7), (0, 8)] [15, 21, 53] V V138 := agV129.tr ajV138 (by decide) (by decide)
                            have rgz134 : 0 ≤ z134.toInt ∧ z134.toInt ≤ 0 := rgz134
                            have t137 : (V138 0 8).toInt = (V129 0 8).toInt := t137
                            have pq140 : (V138 0 8).toInt = ((V124 0 8)).toInt := congrArg Int32.toInt ((ajV138 0 8 rfl).trans (up2_k hV129 (by decide)))
                            refine lv_istore (lv' := [(4, .int z134), (6, .int y37), (5, .int z16), (3, .int y2), (0, .ref (ad 0)), (1, .ref (ad 21)), (2, .int p1)]) hx hb dX12_takeTypes_190 hl (by decide) rfl (fun ls hl => ?_)
                            refine lv_goto (tgt := 5) hx hb dX12_takeTypes_192 (by decide) ?_
                            have pq141 : (V138 0 12).toInt = ((V 0 12)).toInt := congrArg Int32.toInt ((ajV138 0 12 rfl).trans ((up2_k hV129 (by decide)).trans ((ajV124 0 12 rfl).trans ((ajV38 0 12 rfl).trans ((up2_k hV32 (by decide)).trans ((ajV20 0 12 rfl).trans (ajV3 0 12 rfl)))))))
                            exact ihlp5 (g4 - 1) z134 y2 V138 H locs ls (by first | omega | ((try (have i_xlp39_2 := Imp.go xlp39_2 (by omega))); (try (have i_xlp5_3 := Imp.go xlp5_3 (by omega))); (try (have i_xlp5_3 := Imp.go xlp5_3 (by omega))); (try (have i_xlp39_2 := Imp.go xlp39_2 (by omega))); omega)) (by first | omega | ((try (have i_xlp39_2 := Imp.go xlp39_2 (by omega))); (try (have i_xlp5_3 := Imp.go xlp5_3 (by omega))); (try (have i_xlp5_3 := Imp.go xlp5_3 (by omega))); (try (have i_xlp39_2 := Imp.go xlp39_2 (by omega))); omega)) (Or.inr (Or.inr ⟨(show 1 ≤ (V138 0 8).toInt from by omega), (fun k => by rw [show (V138 0 8).toInt = (V124 0 8).toInt from by omega]; exact hb127 k)⟩)) (show 0 ≤ (g4 - 1) from by first | omega | ((try (have i_xlp39_2 := Imp.go xlp39_2 (by omega))); (try (have i_xlp5_3 := Imp.go xlp5_3 (by omega))); (try (have i_xlp5_3 := Imp.go xlp5_3 (by omega))); (try (have i_xlp39_2 := Imp.go xlp39_2 (by omega))); omega)) (show y2.toInt ≤ 6 from by first | omega | ((try (have i_xlp39_2 := Imp.go xlp39_2 (by omega))); (try (have i_xlp5_3 := Imp.go xlp5_3 (by omega))); (try (have i_xlp5_3 := Imp.go xlp5_3 (by omega))); (try (have i_xlp39_2 := Imp.go xlp39_2 (by omega))); omega)) (Imp.mk (fun hp => have hp : (V138 0 8).toInt = 0 := hp; (show 7 - y2.toInt < (g4 - 1) from by first | omega | ((try (have i_xlp39_2 := Imp.go xlp39_2 (by omega))); (try (have i_xlp5_3 := Imp.go xlp5_3 (by omega))); (try (have i_xlp5_3 := Imp.go xlp5_3 (by omega))); (try (have i_xlp39_2 := Imp.go xlp39_2 (by omega))); omega)))) (show (V138 0 12).toInt = (V 0 12).toInt from by first | omega | ((try (have i_xlp39_2 := Imp.go xlp39_2 (by omega))); (try (have i_xlp5_3 := Imp.go xlp5_3 (by omega))); (try (have i_xlp5_3 := Imp.go xlp5_3 (by omega))); (try (have i_xlp39_2 := Imp.go xlp39_2 (by omega))); omega)) (by first | omega | ((try (have i_xlp39_2 := Imp.go xlp39_2 (by omega))); (try (have i_xlp5_3 := Imp.go xlp5_3 (by omega))); (try (have i_xlp5_3 := Imp.go xlp5_3 (by omega))); (try (have i_xlp39_2 := Imp.go xlp39_2 (by omega))); omega)) (agr.tr (agr.up (agr.tr (agr.tr (agr.up (agr.tr (agr.tr agr.rf ajV3 (by decide) (by decide)) ajV20 (by decide) (by decide)) hV32 rfl) ajV38 (by decide) (by decide)) ajV124 (by decide) (by decide)) hV129 rfl) ajV138 (by decide) (by decide)) hMV138 hP hD hS (lv_sub hl [0, 3, 4, 5, 6] rfl)
                          · skip
                            have f142 : ((V124 0 8)).toInt = 0 := b_eq rfl (by decide) c130
                            exfalso; first | omega | ((try (have i_xlp39_2 := Imp.go xlp39_2 (by omega))); (try (have i_xlp5_3 := Imp.go xlp5_3 (by omega))); (try (have i_xlp5_3 := Imp.go xlp5_3 (by omega))); (try (have i_xlp39_2 := Imp.go xlp39_2 (by omega))); omega)
                    · skip
                      have f143 : y37.toInt < y2.toInt := b_nle rfl rfl c43
                      refine lv_aload_n hx hb dX12_takeTypes_42 rfl (lv_at hl 4 rfl) ?_
                      refine va_get (D := D) (ci := 12) (v := .int (V38 0 8)) (C := RX12) (T := TX12) (N := 100) hx hb hg inX12 hown hK hP 0 rfl rfl 8 (by decide) (hg _ w1714) (fun _ h9 => h9) rfl dX12_takeTypes_43 ?_
                      refine lv_if_ne (tgt := 72) hx hb dX12_takeTypes_46 (by decide) (fun c144 => ?_) (fun c144 => ?_)
                      · skip
                        have f145 : ((V38 0 8)).toInt ≠ 0 := b_neq rfl (by decide) c144
                        exfalso; first | omega | ((try (have i_xlp39_2 := Imp.go xlp39_2 (by omega))); (try (have i_xlp5_3 := Imp.go xlp5_3 (by omega))); (try (have i_xlp5_3 := Imp.go xlp5_3 (by omega))); (try (have i_xlp39_2 := Imp.go xlp39_2 (by omega))); omega)
                      · skip
                        have f146 : ((V38 0 8)).toInt = 0 := b_eq rfl (by decide) c144
                        refine lv_aload_n hx hb dX12_takeTypes_49 rfl (lv_at hl 4 rfl) ?_
                        refine va_get (D := D) (ci := 12) (v := .ref (ad 53)) (C := RX12) (T := TX12) (N := 100) hx hb hg inX12 hown hK hP 0 rfl rfl 53 (by decide) (hg _ w1759) (fun _ h9 => h9) rfl dX12_takeTypes_50 ?_
                        refine lv_iload hx hb dX12_takeTypes_53 (lv_at hl 0 rfl) ?_
                        refine va_iald (D := D) (i := y37) hx hb hK hP 41 40 rfl rfl (i_in (a := y37.toInt) rfl (by first | omega | ((try (have i_xlp39_2 := Imp.go xlp39_2 (by omega))); (try (have i_xlp5_3 := Imp.go xlp5_3 (by omega))); (try (have i_xlp5_3 := Imp.go xlp5_3 (by omega))); (try (have i_xlp39_2 := Imp.go xlp39_2 (by omega))); omega))) dX12_takeTypes_55 ?_
                        refine g_top (v := (V3 53 (Int32.toNatClampNeg y37))) ((ajV38 53 (Int32.toNatClampNeg y37) rfl).trans ((up2_o hV32 (by decide)).trans (ajV20 53 (Int32.toNatClampNeg y37) rfl))) ?_
                        have r147 : (-1) ≤ ((V3 53 (Int32.toNatClampNeg y37))).toInt ∧ ((V3 53 (Int32.toNatClampNeg y37))).toInt ≤ 23 := hMV3 53 (Int32.toNatClampNeg y37)
                        refine lv_iload hx hb dX12_takeTypes_56 (lv_at hl 1 rfl) ?_
                        refine lv_icmp_ne (tgt := 66) hx hb dX12_takeTypes_58 (by decide) (fun c148 => ?_) (fun c148 => ?_)
                        · skip
                          have f149 : ((V3 53 (Int32.toNatClampNeg y37))).toInt ≠ z16.toInt := b_neq rfl rfl c148
                          obtain ⟨z150, ez150⟩ : ∃ y : Int32, y = y37 + 1 := ⟨_, rfl⟩
                          have hz150 : z150.toInt = y37.toInt + 1 := i_add ez150 rfl (by decide) (by omega)
                          refine lv_iinc (v := z150) (lv' := [(6, .int z150), (5, .int z16), (4, .int y1), (3, .int y2), (0, .ref (ad 0)), (1, .ref (ad 21)), (2, .int p1)]) hx hb dX12_takeTypes_66 hl (k := 0) rfl (by rw [ez150]; rfl) (by decide) rfl (fun ls hl => ?_)
                          refine lv_goto (tgt := 36) hx hb dX12_takeTypes_69 (by decide) ?_
                          have kc151 := i_clamp (x := y37) rfl (by omega)
                          have pq152 : (V38 53 (Int32.toNatClampNeg y37)).toInt = ((V3 53 (Int32.toNatClampNeg y37))).toInt := congrArg Int32.toInt ((ajV38 53 (Int32.toNatClampNeg y37) rfl).trans ((up2_o hV32 (by decide)).trans (ajV20 53 (Int32.toNatClampNeg y37) rfl)))
                          exact ihlp39 z150 V38 H locs ls (by first | omega | ((try (have i_xlp39_2 := Imp.go xlp39_2 (by omega))); (try (have i_xlp5_3 := Imp.go xlp5_3 (by omega))); (try (have i_xlp5_3 := Imp.go xlp5_3 (by omega))); (try (have i_xlp39_2 := Imp.go xlp39_2 (by omega))); omega)) (Or.inl ⟨W0 ri, ri, fun k h9 => by by_cases c9 : (k : Int) < y37.toInt; exact ni k c9; have ek : k = Int32.toNatClampNeg y37 := (by omega); rw [ek]; omega⟩) (show z150.toInt ≤ y2.toInt from by first | omega | ((try (have i_xlp39_2 := Imp.go xlp39_2 (by omega))); (try (have i_xlp5_3 := Imp.go xlp5_3 (by omega))); (try (have i_xlp5_3 := Imp.go xlp5_3 (by omega))); (try (have i_xlp39_2 := Imp.go xlp39_2 (by omega))); omega)) (Imp.mk (fun hp => have hp : 1 ≤ (V32 0 8).toInt := hp; (show (V38 0 8).toInt = (V32 0 8).toInt from by first | omega | ((try (have i_xlp39_2 := Imp.go xlp39_2 (by omega))); (try (have i_xlp5_3 := Imp.go xlp5_3 (by omega))); (try (have i_xlp5_3 := Imp.go xlp5_3 (by omega))); (try (have i_xlp39_2 := Imp.go xlp39_2 (by omega))); omega)))) (by first | omega | ((try (have i_xlp39_2 := Imp.go xlp39_2 (by omega))); (try (have i_xlp5_3 := Imp.go xlp5_3 (by omega))); (try (have i_xlp5_3 := Imp.go xlp5_3 (by omega))); (try (have i_xlp39_2 := Imp.go xlp39_2 (by omega))); omega)) (agr.tr agr.rf ajV38 (by decide) (by decide)) hMV38 hP hD hS (lv_sub hl [0, 1, 2, 3, 4, 5, 6] rfl)
                        · skip
                          have f153 : ((V3 53 (Int32.toNatClampNeg y37))).toInt = z16.toInt := b_eq rfl rfl c148
                          refine lv_aload_n hx hb dX12_takeTypes_61 rfl (lv_at hl 4 rfl) ?_
                          refine lv_iconst (v := 3) hx hb dX12_takeTypes_62 (by decide) ?_
                          have r154 : Int32.toInt 3 = 3 := by decide
                          refine gA_void (gA_runV (As := [.int 3]) (rest := []) (ci := 12) (q0 := 0) hx hb hml hown hg hP hD hK hS hA hnw hgk (s_wrongA l D ks H.size ad kk V38 L 3 (bq) (gn) (gT) (s1) (gl) hMV38 (by decide) ri) w2035 w2037 w86 w172 w2038 rfl rfl hdV_yX12_wrong ⟨Nat.le_of_ble_eq_true rfl, Nat.le_of_ble_eq_true rfl⟩ rfl hl.1 rfl (Nat.le_of_ble_eq_true rfl) dX12_takeTypes_63 ⟨Nat.le_of_ble_eq_true rfl, Nat.le_of_ble_eq_true rfl⟩) hP hD hK hS hA (fun u156 H locs w157 hP hD hK hS => ?_)
                          obtain ⟨V160, L161⟩ := u156
                          obtain ⟨hMV160, ajV160, axL161, t158, t159⟩ := w157
                          have axL161 : L = L161 := Eq.symm axL161
                          subst axL161
                          have hP : va_P D vwCl (mw ad kk ks.1 V160 L) H := hP
                          have hD : va_D A (mw ad kk ks.1 V160 L) := hD
                          have hMV160 : rgd bM V160 := hMV160
                          have ajV160 : agr [(0, 8)] [] V38 V160 := ajV160
                          have agV160 : agr [(0, 7), (0, 8)] [15, 21, 53] V V160 := agV38.tr ajV160 (by decide) (by decide)
                          have t158 : 1 ≤ (V160 0 8).toInt := t158
                          have t159 : (V160 0 8).toInt = (Int32.toInt 3) + 16 * (gT).2.2 ((s1).1 0) := t159
                          have r162 : 0 ≤ ((V160 0 8)).toInt ∧ ((V160 0 8)).toInt ≤ 70000 := hMV160 0 8
                          have kc163 := i_clamp (x := y37) rfl (by omega)
                          have hb164 : ∀ k, Rc gT (Crun gs (Itypes 0 [] :: k)) (Cbad (V160 0 8).toInt) := fun k => Rc.go1 (hq k) ((ty_3 h24 ((lq fx23).mpr ⟨Int32.toNatClampNeg y37, by omega, by omega⟩)).trans (fl_eq rfl (show (V160 0 8).toInt = 3 + 16 * gT.2.2 (s1.1 0) from by omega)))
                          obtain ⟨z165, ez165⟩ : ∃ y : Int32, y = y37 + 1 := ⟨_, rfl⟩
                          have hz165 : z165.toInt = y37.toInt + 1 := i_add ez165 rfl (by decide) (by omega)
                          refine lv_iinc (v := z165) (lv' := [(6, .int z165), (5, .int z16), (4, .int y1), (3, .int y2), (0, .ref (ad 0)), (1, .ref (ad 21)), (2, .int p1)]) hx hb dX12_takeTypes_66 hl (k := 0) rfl (by rw [ez165]; rfl) (by decide) rfl (fun ls hl => ?_)
                          refine lv_goto (tgt := 36) hx hb dX12_takeTypes_69 (by decide) ?_
                          exact ihlp39 z165 V160 H locs ls (by first | omega | ((try (have i_xlp39_2 := Imp.go xlp39_2 (by omega))); (try (have i_xlp5_3 := Imp.go xlp5_3 (by omega))); (try (have i_xlp5_3 := Imp.go xlp5_3 (by omega))); (try (have i_xlp39_2 := Imp.go xlp39_2 (by omega))); omega)) (Or.inr ⟨(show 1 ≤ (V160 0 8).toInt from by omega), hb164⟩) (show z165.toInt ≤ y2.toInt from by first | omega | ((try (have i_xlp39_2 := Imp.go xlp39_2 (by omega))); (try (have i_xlp5_3 := Imp.go xlp5_3 (by omega))); (try (have i_xlp5_3 := Imp.go xlp5_3 (by omega))); (try (have i_xlp39_2 := Imp.go xlp39_2 (by omega))); omega)) (Imp.mk (fun hp => have hp : 1 ≤ (V32 0 8).toInt := hp; (show (V160 0 8).toInt = (V32 0 8).toInt from by first | omega | ((try (have i_xlp39_2 := Imp.go xlp39_2 (by omega))); (try (have i_xlp5_3 := Imp.go xlp5_3 (by omega))); (try (have i_xlp5_3 := Imp.go xlp5_3 (by omega))); (try (have i_xlp39_2 := Imp.go xlp39_2 (by omega))); omega)))) (by first | omega | ((try (have i_xlp39_2 := Imp.go xlp39_2 (by omega))); (try (have i_xlp5_3 := Imp.go xlp5_3 (by omega))); (try (have i_xlp5_3 := Imp.go xlp5_3 (by omega))); (try (have i_xlp39_2 := Imp.go xlp39_2 (by omega))); omega)) (agr.tr (agr.tr agr.rf ajV38 (by decide) (by decide)) ajV160 (by decide) (by decide)) hMV160 hP hD hS (lv_sub hl [0, 1, 2, 3, 4, 5, 6] rfl)
                  · skip
                    have r166 : 0 ≤ ((V38 0 8)).toInt ∧ ((V38 0 8)).toInt ≤ 70000 := hMV38 0 8
                    refine lv_iload_n hx hb dX12_takeTypes_38 rfl (lv_at hl 3 rfl) ?_
                    refine lv_icmp_ge (tgt := 72) hx hb dX12_takeTypes_39 (by decide) (fun c167 => ?_) (fun c167 => ?_)
                    · skip
                      have f168 : y2.toInt ≤ y37.toInt := b_le rfl rfl c167
                      refine lv_aload_n hx hb dX12_takeTypes_72 rfl (lv_at hl 4 rfl) ?_
                      refine va_get (D := D) (ci := 12) (v := .int (V38 0 8)) (C := RX12) (T := TX12) (N := 100) hx hb hg inX12 hown hK hP 0 rfl rfl 8 (by decide) (hg _ w1714) (fun _ h9 => h9) rfl dX12_takeTypes_73 ?_
                      refine lv_if_ne (tgt := 90) hx hb dX12_takeTypes_76 (by decide) (fun c169 => ?_) (fun c169 => ?_)
                      · skip
                        have f170 : ((V38 0 8)).toInt ≠ 0 := b_neq rfl (by decide) c169
                        refine lv_aload_n hx hb dX12_takeTypes_90 rfl (lv_at hl 4 rfl) ?_
                        refine lv_dup hx hb dX12_takeTypes_91 rfl ?_
                        refine va_get (D := D) (ci := 12) (v := .int (V38 0 7)) (C := RX12) (T := TX12) (N := 100) hx hb hg inX12 hown hK hP 0 rfl rfl 7 (by decide) (hg _ w1713) (fun _ h9 => h9) rfl dX12_takeTypes_92 ?_
                        refine g_top (v := z31) ((ajV38 0 7 rfl).trans (up2_s hV32)) ?_
                        refine lv_iconst (v := 1) hx hb dX12_takeTypes_95 (by decide) ?_
                        refine lv_iadd hx hb dX12_takeTypes_96 ?_
                        refine lv_topi (fun z171 ez171 => ?_)
                        have hz171 : z171.toInt = z31.toInt + 1 := i_add ez171 rfl (by decide) (by omega)
                        refine va_put (D := D) (ci := 12) (v := .int z171) (ty := tyX12 7) (C := RX12) (T := TX12) (N := 100) hx hb hg inX12 tyX12 tyX12_ok nmX12 hown hK hP hD hS 0 rfl rfl 7 (by decide) (hg _ w1713) (fun _ h9 => h9) rfl (tyX12_ok 7 (by decide)) rfl rfl (Nat.le_of_ble_eq_true rfl) dX12_takeTypes_97 (fun H locs hP hD hS => ?_)
                        obtain ⟨V172, hV172⟩ : ∃ z, z = up2 V38 0 7 z171 := ⟨_, rfl⟩
                        have hP : va_P D vwCl (mw ad kk ks.1 V172 L) H := by rw [hV172]; exact hP
                        have hD : va_D A (mw ad kk ks.1 V172 L) := by rw [hV172]; exact hD
                        have hMV172 : rgd bM V172 := hMV38.put hV172 (i_full _)
                        have agV172 : agr [(0, 7), (0, 8)] [15, 21, 53] V V172 := agV38.up hV172 rfl
                        refine lv_aload_n hx hb dX12_takeTypes_100 rfl (lv_at hl 4 rfl) ?_
                        refine va_get (D := D) (ci := 12) (v := .int (V172 0 8)) (C := RX12) (T := TX12) (N := 100) hx hb hg inX12 hown hK hP 0 rfl rfl 8 (by decide) (hg _ w1714) (fun _ h9 => h9) rfl dX12_takeTypes_101 ?_
                        refine g_top (v := (V38 0 8)) (up2_k hV172 (by decide)) ?_
                        refine lv_if_ne (tgt := 184) hx hb dX12_takeTypes_104 (by decide) (fun c173 => ?_) (fun c173 => ?_)
                        · skip
                          have f174 : ((V38 0 8)).toInt ≠ 0 := b_neq rfl (by decide) c173
                          refine lv_aload_n hx hb dX12_takeTypes_184 rfl (lv_at hl 4 rfl) ?_
                          refine lv_bipush (v := 44) hx hb dX12_takeTypes_185 (by decide) ?_
                          have r175 : Int32.toInt 44 = 44 := by decide
                          have pq176 : (V172 0 8).toInt = ((V38 0 8)).toInt := congrArg Int32.toInt (up2_k hV172 (by decide))
                          refine gA_int (gA_runV (As := [.int 44]) (rest := []) (ci := 12) (q0 := 0) hx hb hml hown hg hP hD hK hS hA hnw hgk (s_hasSignB l D ks H.size ad kk V172 L 44 hMV172 (show 1 ≤ (V172 0 8).toInt from by first | omega | ((try (have i_xlp39_2 := Imp.go xlp39_2 (by omega))); (try (have i_xlp5_3 := Imp.go xlp5_3 (by omega))); (try (have i_xlp5_3 := Imp.go xlp5_3 (by omega))); (try (have i_xlp39_2 := Imp.go xlp39_2 (by omega))); omega))) w2067 w2069 w94 w172 w2070 rfl rfl hdV_yX12_hasSign ⟨Nat.le_of_ble_eq_true rfl, Nat.le_of_ble_eq_true rfl⟩ rfl hl.1 rfl (Nat.le_of_ble_eq_true rfl) dX12_takeTypes_187 ⟨Nat.le_of_ble_eq_true rfl, Nat.le_of_ble_eq_true rfl⟩) hP hD hK hS hA (fun z177 u178 H locs w179 hP hD hK hS => ?_)
                          obtain ⟨V181, L182⟩ := u178
                          obtain ⟨hMV181, ajV181, axL182, rgz177, t180⟩ := w179
                          have axL182 : L = L182 := Eq.symm axL182
                          subst axL182
                          have hP : va_P D vwCl (mw ad kk ks.1 V181 L) H := hP
                          have hD : va_D A (mw ad kk ks.1 V181 L) := hD
                          have hMV181 : rgd bM V181 := hMV181
                          have ajV181 : agr [(0, 7)] [] V172 V181 := ajV181
                          have agV181 : agr [(0, 7), (0, 8)] [15, 21, 53] V V181 := agV172.tr ajV181 (by decide) (by decide)
                          have rgz177 : 0 ≤ z177.toInt ∧ z177.toInt ≤ 0 := rgz177
                          have t180 : (V181 0 8).toInt = (V172 0 8).toInt := t180
                          have pq183 : (V181 0 8).toInt = ((V38 0 8)).toInt := congrArg Int32.toInt ((ajV181 0 8 rfl).trans (up2_k hV172 (by decide)))
                          refine lv_istore (lv' := [(4, .int z177), (6, .int y37), (5, .int z16), (3, .int y2), (0, .ref (ad 0)), (1, .ref (ad 21)), (2, .int p1)]) hx hb dX12_takeTypes_190 hl (by decide) rfl (fun ls hl => ?_)
                          refine lv_goto (tgt := 5) hx hb dX12_takeTypes_192 (by decide) ?_
                          have pq184 : (V181 0 12).toInt = ((V 0 12)).toInt := congrArg Int32.toInt ((ajV181 0 12 rfl).trans ((up2_k hV172 (by decide)).trans ((ajV38 0 12 rfl).trans ((up2_k hV32 (by decide)).trans ((ajV20 0 12 rfl).trans (ajV3 0 12 rfl))))))
                          exact ihlp5 (g4 - 1) z177 y2 V181 H locs ls (by first | omega | ((try (have i_xlp39_2 := Imp.go xlp39_2 (by omega))); (try (have i_xlp5_3 := Imp.go xlp5_3 (by omega))); (try (have i_xlp5_3 := Imp.go xlp5_3 (by omega))); (try (have i_xlp39_2 := Imp.go xlp39_2 (by omega))); omega)) (by first | omega | ((try (have i_xlp39_2 := Imp.go xlp39_2 (by omega))); (try (have i_xlp5_3 := Imp.go xlp5_3 (by omega))); (try (have i_xlp5_3 := Imp.go xlp5_3 (by omega))); (try (have i_xlp39_2 := Imp.go xlp39_2 (by omega))); omega)) (Or.inr (Or.inr ⟨(show 1 ≤ (V181 0 8).toInt from by omega), (fun k => by rw [show (V181 0 8).toInt = (V38 0 8).toInt from by omega]; exact hi k)⟩)) (show 0 ≤ (g4 - 1) from by first | omega | ((try (have i_xlp39_2 := Imp.go xlp39_2 (by omega))); (try (have i_xlp5_3 := Imp.go xlp5_3 (by omega))); (try (have i_xlp5_3 := Imp.go xlp5_3 (by omega))); (try (have i_xlp39_2 := Imp.go xlp39_2 (by omega))); omega)) (show y2.toInt ≤ 6 from by first | omega | ((try (have i_xlp39_2 := Imp.go xlp39_2 (by omega))); (try (have i_xlp5_3 := Imp.go xlp5_3 (by omega))); (try (have i_xlp5_3 := Imp.go xlp5_3 (by omega))); (try (have i_xlp39_2 := Imp.go xlp39_2 (by omega))); omega)) (Imp.mk (fun hp => have hp : (V181 0 8).toInt = 0 := hp; (show 7 - y2.toInt < (g4 - 1) from by first | omega | ((try (have i_xlp39_2 := Imp.go xlp39_2 (by omega))); (try (have i_xlp5_3 := Imp.go xlp5_3 (by omega))); (try (have i_xlp5_3 := Imp.go xlp5_3 (by omega))); (try (have i_xlp39_2 := Imp.go xlp39_2 (by omega))); omega)))) (show (V181 0 12).toInt = (V 0 12).toInt from by first | omega | ((try (have i_xlp39_2 := Imp.go xlp39_2 (by omega))); (try (have i_xlp5_3 := Imp.go xlp5_3 (by omega))); (try (have i_xlp5_3 := Imp.go xlp5_3 (by omega))); (try (have i_xlp39_2 := Imp.go xlp39_2 (by omega))); omega)) (by first | omega | ((try (have i_xlp39_2 := Imp.go xlp39_2 (by omega))); (try (have i_xlp5_3 := Imp.go xlp5_3 (by omega))); (try (have i_xlp5_3 := Imp.go xlp5_3 (by omega))); (try (have i_xlp39_2 := Imp.go xlp39_2 (by omega))); omega)) (agr.tr (agr.up (agr.tr (agr.up (agr.tr (agr.tr agr.rf ajV3 (by decide) (by decide)) ajV20 (by decide) (by decide)) hV32 rfl) ajV38 (by decide) (by decide)) hV172 rfl) ajV181 (by decide) (by decide)) hMV181 hP hD hS (lv_sub hl [0, 3, 4, 5, 6] rfl)
                        · skip
                          have f185 : ((V38 0 8)).toInt = 0 := b_eq rfl (by decide) c173
                          exfalso; first | omega | ((try (have i_xlp39_2 := Imp.go xlp39_2 (by omega))); (try (have i_xlp5_3 := Imp.go xlp5_3 (by omega))); (try (have i_xlp5_3 := Imp.go xlp5_3 (by omega))); (try (have i_xlp39_2 := Imp.go xlp39_2 (by omega))); omega)
                      · skip
                        have f186 : ((V38 0 8)).toInt = 0 := b_eq rfl (by decide) c169
                        exfalso; first | omega | ((try (have i_xlp39_2 := Imp.go xlp39_2 (by omega))); (try (have i_xlp5_3 := Imp.go xlp5_3 (by omega))); (try (have i_xlp5_3 := Imp.go xlp5_3 (by omega))); (try (have i_xlp39_2 := Imp.go xlp39_2 (by omega))); omega)
                    · skip
                      have f187 : y37.toInt < y2.toInt := b_nle rfl rfl c167
                      refine lv_aload_n hx hb dX12_takeTypes_42 rfl (lv_at hl 4 rfl) ?_
                      refine va_get (D := D) (ci := 12) (v := .int (V38 0 8)) (C := RX12) (T := TX12) (N := 100) hx hb hg inX12 hown hK hP 0 rfl rfl 8 (by decide) (hg _ w1714) (fun _ h9 => h9) rfl dX12_takeTypes_43 ?_
                      refine lv_if_ne (tgt := 72) hx hb dX12_takeTypes_46 (by decide) (fun c188 => ?_) (fun c188 => ?_)
                      · skip
                        have f189 : ((V38 0 8)).toInt ≠ 0 := b_neq rfl (by decide) c188
                        refine lv_aload_n hx hb dX12_takeTypes_72 rfl (lv_at hl 4 rfl) ?_
                        refine va_get (D := D) (ci := 12) (v := .int (V38 0 8)) (C := RX12) (T := TX12) (N := 100) hx hb hg inX12 hown hK hP 0 rfl rfl 8 (by decide) (hg _ w1714) (fun _ h9 => h9) rfl dX12_takeTypes_73 ?_
                        refine lv_if_ne (tgt := 90) hx hb dX12_takeTypes_76 (by decide) (fun c190 => ?_) (fun c190 => ?_)
                        · skip
                          have f191 : ((V38 0 8)).toInt ≠ 0 := b_neq rfl (by decide) c190
                          refine lv_aload_n hx hb dX12_takeTypes_90 rfl (lv_at hl 4 rfl) ?_
                          refine lv_dup hx hb dX12_takeTypes_91 rfl ?_
                          refine va_get (D := D) (ci := 12) (v := .int (V38 0 7)) (C := RX12) (T := TX12) (N := 100) hx hb hg inX12 hown hK hP 0 rfl rfl 7 (by decide) (hg _ w1713) (fun _ h9 => h9) rfl dX12_takeTypes_92 ?_
                          refine g_top (v := z31) ((ajV38 0 7 rfl).trans (up2_s hV32)) ?_
                          refine lv_iconst (v := 1) hx hb dX12_takeTypes_95 (by decide) ?_
                          refine lv_iadd hx hb dX12_takeTypes_96 ?_
                          refine lv_topi (fun z192 ez192 => ?_)
                          have hz192 : z192.toInt = z31.toInt + 1 := i_add ez192 rfl (by decide) (by omega)
                          refine va_put (D := D) (ci := 12) (v := .int z192) (ty := tyX12 7) (C := RX12) (T := TX12) (N := 100) hx hb hg inX12 tyX12 tyX12_ok nmX12 hown hK hP hD hS 0 rfl rfl 7 (by decide) (hg _ w1713) (fun _ h9 => h9) rfl (tyX12_ok 7 (by decide)) rfl rfl (Nat.le_of_ble_eq_true rfl) dX12_takeTypes_97 (fun H locs hP hD hS => ?_)
                          obtain ⟨V193, hV193⟩ : ∃ z, z = up2 V38 0 7 z192 := ⟨_, rfl⟩
                          have hP : va_P D vwCl (mw ad kk ks.1 V193 L) H := by rw [hV193]; exact hP
                          have hD : va_D A (mw ad kk ks.1 V193 L) := by rw [hV193]; exact hD
                          have hMV193 : rgd bM V193 := hMV38.put hV193 (i_full _)
                          have agV193 : agr [(0, 7), (0, 8)] [15, 21, 53] V V193 := agV38.up hV193 rfl
                          refine lv_aload_n hx hb dX12_takeTypes_100 rfl (lv_at hl 4 rfl) ?_
                          refine va_get (D := D) (ci := 12) (v := .int (V193 0 8)) (C := RX12) (T := TX12) (N := 100) hx hb hg inX12 hown hK hP 0 rfl rfl 8 (by decide) (hg _ w1714) (fun _ h9 => h9) rfl dX12_takeTypes_101 ?_
                          refine g_top (v := (V38 0 8)) (up2_k hV193 (by decide)) ?_
                          refine lv_if_ne (tgt := 184) hx hb dX12_takeTypes_104 (by decide) (fun c194 => ?_) (fun c194 => ?_)
                          · skip
                            have f195 : ((V38 0 8)).toInt ≠ 0 := b_neq rfl (by decide) c194
                            refine lv_aload_n hx hb dX12_takeTypes_184 rfl (lv_at hl 4 rfl) ?_
                            refine lv_bipush (v := 44) hx hb dX12_takeTypes_185 (by decide) ?_
                            have r196 : Int32.toInt 44 = 44 := by decide
                            have pq197 : (V193 0 8).toInt = ((V38 0 8)).toInt := congrArg Int32.toInt (up2_k hV193 (by decide))
                            refine gA_int (gA_runV (As := [.int 44]) (rest := []) (ci := 12) (q0 := 0) hx hb hml hown hg hP hD hK hS hA hnw hgk (s_hasSignB l D ks H.size ad kk V193 L 44 hMV193 (show 1 ≤ (V193 0 8).toInt from by first | omega | ((try (have i_xlp39_2 := Imp.go xlp39_2 (by omega))); (try (have i_xlp5_3 := Imp.go xlp5_3 (by omega))); (try (have i_xlp5_3 := Imp.go xlp5_3 (by omega))); (try (have i_xlp39_2 := Imp.go xlp39_2 (by omega))); omega))) w2067 w2069 w94 w172 w2070 rfl rfl hdV_yX12_hasSign ⟨Nat.le_of_ble_eq_true rfl, Nat.le_of_ble_eq_true rfl⟩ rfl hl.1 rfl (Nat.le_of_ble_eq_true rfl) dX12_takeTypes_187 ⟨Nat.le_of_ble_eq_true rfl, Nat.le_of_ble_eq_true rfl⟩) hP hD hK hS hA (fun z198 u199 H locs w200 hP hD hK hS => ?_)
                            obtain ⟨V202, L203⟩ := u199
                            obtain ⟨hMV202, ajV202, axL203, rgz198, t201⟩ := w200
                            have axL203 : L = L203 := Eq.symm axL203
                            subst axL203
                            have hP : va_P D vwCl (mw ad kk ks.1 V202 L) H := hP
                            have hD : va_D A (mw ad kk ks.1 V202 L) := hD
                            have hMV202 : rgd bM V202 := hMV202
                            have ajV202 : agr [(0, 7)] [] V193 V202 := ajV202
                            have agV202 : agr [(0, 7), (0, 8)] [15, 21, 53] V V202 := agV193.tr ajV202 (by decide) (by decide)
                            have rgz198 : 0 ≤ z198.toInt ∧ z198.toInt ≤ 0 := rgz198
                            have t201 : (V202 0 8).toInt = (V193 0 8).toInt := t201
                            have pq204 : (V202 0 8).toInt = ((V38 0 8)).toInt := congrArg Int32.toInt ((ajV202 0 8 rfl).trans (up2_k hV193 (by decide)))
                            refine lv_istore (lv' := [(4, .int z198), (6, .int y37), (5, .int z16), (3, .int y2), (0, .ref (ad 0)), (1, .ref (ad 21)), (2, .int p1)]) hx hb dX12_takeTypes_190 hl (by decide) rfl (fun ls hl => ?_)
                            refine lv_goto (tgt := 5) hx hb dX12_takeTypes_192 (by decide) ?_
                            have pq205 : (V202 0 12).toInt = ((V 0 12)).toInt := congrArg Int32.toInt ((ajV202 0 12 rfl).trans ((up2_k hV193 (by decide)).trans ((ajV38 0 12 rfl).trans ((up2_k hV32 (by decide)).trans ((ajV20 0 12 rfl).trans (ajV3 0 12 rfl))))))
                            exact ihlp5 (g4 - 1) z198 y2 V202 H locs ls (by first | omega | ((try (have i_xlp39_2 := Imp.go xlp39_2 (by omega))); (try (have i_xlp5_3 := Imp.go xlp5_3 (by omega))); (try (have i_xlp5_3 := Imp.go xlp5_3 (by omega))); (try (have i_xlp39_2 := Imp.go xlp39_2 (by omega))); omega)) (by first | omega | ((try (have i_xlp39_2 := Imp.go xlp39_2 (by omega))); (try (have i_xlp5_3 := Imp.go xlp5_3 (by omega))); (try (have i_xlp5_3 := Imp.go xlp5_3 (by omega))); (try (have i_xlp39_2 := Imp.go xlp39_2 (by omega))); omega)) (Or.inr (Or.inr ⟨(show 1 ≤ (V202 0 8).toInt from by omega), (fun k => by rw [show (V202 0 8).toInt = (V38 0 8).toInt from by omega]; exact hi k)⟩)) (show 0 ≤ (g4 - 1) from by first | omega | ((try (have i_xlp39_2 := Imp.go xlp39_2 (by omega))); (try (have i_xlp5_3 := Imp.go xlp5_3 (by omega))); (try (have i_xlp5_3 := Imp.go xlp5_3 (by omega))); (try (have i_xlp39_2 := Imp.go xlp39_2 (by omega))); omega)) (show y2.toInt ≤ 6 from by first | omega | ((try (have i_xlp39_2 := Imp.go xlp39_2 (by omega))); (try (have i_xlp5_3 := Imp.go xlp5_3 (by omega))); (try (have i_xlp5_3 := Imp.go xlp5_3 (by omega))); (try (have i_xlp39_2 := Imp.go xlp39_2 (by omega))); omega)) (Imp.mk (fun hp => have hp : (V202 0 8).toInt = 0 := hp; (show 7 - y2.toInt < (g4 - 1) from by first | omega | ((try (have i_xlp39_2 := Imp.go xlp39_2 (by omega))); (try (have i_xlp5_3 := Imp.go xlp5_3 (by omega))); (try (have i_xlp5_3 := Imp.go xlp5_3 (by omega))); (try (have i_xlp39_2 := Imp.go xlp39_2 (by omega))); omega)))) (show (V202 0 12).toInt = (V 0 12).toInt from by first | omega | ((try (have i_xlp39_2 := Imp.go xlp39_2 (by omega))); (try (have i_xlp5_3 := Imp.go xlp5_3 (by omega))); (try (have i_xlp5_3 := Imp.go xlp5_3 (by omega))); (try (have i_xlp39_2 := Imp.go xlp39_2 (by omega))); omega)) (by first | omega | ((try (have i_xlp39_2 := Imp.go xlp39_2 (by omega))); (try (have i_xlp5_3 := Imp.go xlp5_3 (by omega))); (try (have i_xlp5_3 := Imp.go xlp5_3 (by omega))); (try (have i_xlp39_2 := Imp.go xlp39_2 (by omega))); omega)) (agr.tr (agr.up (agr.tr (agr.up (agr.tr (agr.tr agr.rf ajV3 (by decide) (by decide)) ajV20 (by decide) (by decide)) hV32 rfl) ajV38 (by decide) (by decide)) hV193 rfl) ajV202 (by decide) (by decide)) hMV202 hP hD hS (lv_sub hl [0, 3, 4, 5, 6] rfl)
                          · skip
                            have f206 : ((V38 0 8)).toInt = 0 := b_eq rfl (by decide) c194
                            exfalso; first | omega | ((try (have i_xlp39_2 := Imp.go xlp39_2 (by omega))); (try (have i_xlp5_3 := Imp.go xlp5_3 (by omega))); (try (have i_xlp5_3 := Imp.go xlp5_3 (by omega))); (try (have i_xlp39_2 := Imp.go xlp39_2 (by omega))); omega)
                        · skip
                          have f207 : ((V38 0 8)).toInt = 0 := b_eq rfl (by decide) c190
                          exfalso; first | omega | ((try (have i_xlp39_2 := Imp.go xlp39_2 (by omega))); (try (have i_xlp5_3 := Imp.go xlp5_3 (by omega))); (try (have i_xlp5_3 := Imp.go xlp5_3 (by omega))); (try (have i_xlp39_2 := Imp.go xlp39_2 (by omega))); omega)
                      · skip
                        have f208 : ((V38 0 8)).toInt = 0 := b_eq rfl (by decide) c188
                        exfalso; first | omega | ((try (have i_xlp39_2 := Imp.go xlp39_2 (by omega))); (try (have i_xlp5_3 := Imp.go xlp5_3 (by omega))); (try (have i_xlp5_3 := Imp.go xlp5_3 (by omega))); (try (have i_xlp39_2 := Imp.go xlp39_2 (by omega))); omega)
              have r209 : Int32.toInt 0 = 0 := by decide
              exact lp39 ((y2.toInt - (Int32.toInt 0) + 1 : Int).toNat) 0 V32 H locs ls (by decide) (Or.inl ⟨W0 rl34, rl34, fun k h9 => by exfalso; omega⟩) (show (Int32.toInt 0) ≤ y2.toInt from by first | omega | ((try (have i_xlp5_3 := Imp.go xlp5_3 (by omega))); omega)) (Imp.mk (fun hp => have hp : 1 ≤ (V32 0 8).toInt := hp; (show (V32 0 8).toInt = (V32 0 8).toInt from by first | omega | ((try (have i_xlp5_3 := Imp.go xlp5_3 (by omega))); omega)))) (by first | omega | ((try (have i_xlp5_3 := Imp.go xlp5_3 (by omega))); omega)) agr.rf hMV32 hP hD hS (lv_sub hl [0, 1, 2, 3, 4, 5, 6] rfl)
            · skip
              have hb210 : ∀ k, Rc gT (Crun gs (Itypes 0 [] :: k)) (Cbad (V20 0 8).toInt) := fun k => Rc.go1 (hq k) (ty_b h24)
              have r211 : 0 ≤ ((V20 0 8)).toInt ∧ ((V20 0 8)).toInt ≤ 70000 := hMV20 0 8
              refine lv_istore (lv' := [(5, .int z16), (4, .int y1), (3, .int y2), (0, .ref (ad 0)), (1, .ref (ad 21)), (2, .int p1)]) hx hb dX12_takeTypes_21 hl (by decide) rfl (fun ls hl => ?_)
              refine lv_aload_n hx hb dX12_takeTypes_23 rfl (lv_at hl 3 rfl) ?_
              refine lv_dup hx hb dX12_takeTypes_24 rfl ?_
              refine va_get (D := D) (ci := 12) (v := .int (V20 0 7)) (C := RX12) (T := TX12) (N := 100) hx hb hg inX12 hown hK hP 0 rfl rfl 7 (by decide) (hg _ w1713) (fun _ h9 => h9) rfl dX12_takeTypes_25 ?_
              refine lv_iconst (v := 1) hx hb dX12_takeTypes_28 (by decide) ?_
              refine lv_isub hx hb dX12_takeTypes_29 ?_
              have r212 := i_full (V20 0 7)
              refine lv_topi (fun z213 ez213 => ?_)
              have hz213 : Imp (-2147483648 ≤ ((V20 0 7)).toInt - 1 ∧ ((V20 0 7)).toInt - 1 ≤ 2147483647) (z213.toInt = ((V20 0 7)).toInt - 1) := Imp.mk (fun hp => i_sub ez213 rfl (by decide) hp)
              refine va_put (D := D) (ci := 12) (v := .int z213) (ty := tyX12 7) (C := RX12) (T := TX12) (N := 100) hx hb hg inX12 tyX12 tyX12_ok nmX12 hown hK hP hD hS 0 rfl rfl 7 (by decide) (hg _ w1713) (fun _ h9 => h9) rfl (tyX12_ok 7 (by decide)) rfl rfl (Nat.le_of_ble_eq_true rfl) dX12_takeTypes_30 (fun H locs hP hD hS => ?_)
              obtain ⟨V214, hV214⟩ : ∃ z, z = up2 V20 0 7 z213 := ⟨_, rfl⟩
              have hP : va_P D vwCl (mw ad kk ks.1 V214 L) H := by rw [hV214]; exact hP
              have hD : va_D A (mw ad kk ks.1 V214 L) := by rw [hV214]; exact hD
              have hMV214 : rgd bM V214 := hMV20.put hV214 (i_full _)
              have agV214 : agr [(0, 7), (0, 8)] [15, 21, 53] V V214 := agV20.up hV214 rfl
              have pq215 : (V214 0 8).toInt = ((V20 0 8)).toInt := congrArg Int32.toInt (up2_k hV214 (by decide))
              refine lv_iconst (v := 0) hx hb dX12_takeTypes_33 (by decide) ?_
              refine lv_istore (lv' := [(6, .int 0), (5, .int z16), (4, .int y1), (3, .int y2), (0, .ref (ad 0)), (1, .ref (ad 21)), (2, .int p1)]) hx hb dX12_takeTypes_34 hl (by decide) rfl (fun ls hl => ?_)
              have lp218 : ∀ (fulp218 : Nat) (y216 : Int32) (V217 : Vf) (H : Heap) (locs : List Loc) (ls : Array Slot), 0 ≤ y216.toInt ∧ y216.toInt ≤ 6 → (((V217 0 8).toInt = 0 ∧ RelM V217 L bq gn gT s1 gl ∧ (∀ k : Nat, (k : Int) < y216.toInt → (V217 53 k).toInt ≠ z16.toInt)) ∨ (1 ≤ (V217 0 8).toInt ∧ ∀ k, Rc gT (Crun gs (Itypes 0 [] :: k)) (Cbad (V217 0 8).toInt))) → y216.toInt ≤ y2.toInt → Imp (1 ≤ (V214 0 8).toInt) ((V217 0 8).toInt = (V214 0 8).toInt) → y2.toInt - y216.toInt < (fulp218 : Int) → agr [(0, 8)] [] V214 V217 → rgd bM V217 → va_P D vwCl (mw ad kk ks.1 V217 L) H → va_D A (mw ad kk ks.1 V217 L) → va_S A s.heap H locs → lv_has ls 7 [(6, .int y216), (5, .int z16), (4, .int y1), (3, .int y2), (0, .ref (ad 0)), (1, .ref (ad 21)), (2, .int p1)] → W p l e r_s_takeTypesA21 s m ([.ref (ad 0), .ref (ad 21), .int p1] : List Value).toArray below meth c H locs 0 0 (MQ below (q_s_takeTypesA21 D ks ad kk V L p1 bq gn gT gs gl A) ([.ref (ad 0), .ref (ad 21), .int p1] : List Value).toArray s 0 0 A) (F0 m 36 ls []) := by
                intro fulp218
                induction fulp218 with
                | zero =>
                  intro y216 V217 H locs ls klp218_0 xlp218_0 xlp218_1 xlp218_2 hn ajV217 hMV217 hP hD hS hl
                  exfalso; omega
                | succ fulp218 ihlp218 =>
                  intro y216 V217 H locs ls klp218_0 xlp218_0 xlp218_1 xlp218_2 hn ajV217 hMV217 hP hD hS hl
                  have agV217 : agr [(0, 7), (0, 8)] [15, 21, 53] V V217 := agV214.tr ajV217 (by decide) (by decide)
                  refine lv_iload hx hb dX12_takeTypes_36 (lv_at hl 0 rfl) ?_
                  rcases xlp218_0 with ⟨f7, ri, ni⟩ | ⟨f7, hi⟩
                  · skip
                    exfalso; first | omega | ((try (have i_xlp218_2 := Imp.go xlp218_2 (by omega))); (try (have i_hz213 := Imp.go hz213 (by omega))); (try (have i_xlp5_3 := Imp.go xlp5_3 (by omega))); (try (have i_xlp5_3 := Imp.go xlp5_3 (by omega))); (try (have i_hz213 := Imp.go hz213 (by omega))); (try (have i_xlp218_2 := Imp.go xlp218_2 (by omega))); omega)
                  · skip
                    have r219 : 0 ≤ ((V217 0 8)).toInt ∧ ((V217 0 8)).toInt ≤ 70000 := hMV217 0 8
                    refine lv_iload_n hx hb dX12_takeTypes_38 rfl (lv_at hl 3 rfl) ?_
                    refine lv_icmp_ge (tgt := 72) hx hb dX12_takeTypes_39 (by decide) (fun c220 => ?_) (fun c220 => ?_)
                    · skip
                      have f221 : y2.toInt ≤ y216.toInt := b_le rfl rfl c220
                      refine lv_aload_n hx hb dX12_takeTypes_72 rfl (lv_at hl 4 rfl) ?_
                      refine va_get (D := D) (ci := 12) (v := .int (V217 0 8)) (C := RX12) (T := TX12) (N := 100) hx hb hg inX12 hown hK hP 0 rfl rfl 8 (by decide) (hg _ w1714) (fun _ h9 => h9) rfl dX12_takeTypes_73 ?_
                      refine lv_if_ne (tgt := 90) hx hb dX12_takeTypes_76 (by decide) (fun c222 => ?_) (fun c222 => ?_)
                      · skip
                        have f223 : ((V217 0 8)).toInt ≠ 0 := b_neq rfl (by decide) c222
                        refine lv_aload_n hx hb dX12_takeTypes_90 rfl (lv_at hl 4 rfl) ?_
                        refine lv_dup hx hb dX12_takeTypes_91 rfl ?_
                        refine va_get (D := D) (ci := 12) (v := .int (V217 0 7)) (C := RX12) (T := TX12) (N := 100) hx hb hg inX12 hown hK hP 0 rfl rfl 7 (by decide) (hg _ w1713) (fun _ h9 => h9) rfl dX12_takeTypes_92 ?_
                        refine g_top (v := z213) ((ajV217 0 7 rfl).trans (up2_s hV214)) ?_
                        refine lv_iconst (v := 1) hx hb dX12_takeTypes_95 (by decide) ?_
                        refine lv_iadd hx hb dX12_takeTypes_96 ?_
                        have r224 := i_full z213
                        refine lv_topi (fun z225 ez225 => ?_)
                        have hz225 : Imp (-2147483648 ≤ z213.toInt + 1 ∧ z213.toInt + 1 ≤ 2147483647) (z225.toInt = z213.toInt + 1) := Imp.mk (fun hp => i_add ez225 rfl (by decide) hp)
                        refine va_put (D := D) (ci := 12) (v := .int z225) (ty := tyX12 7) (C := RX12) (T := TX12) (N := 100) hx hb hg inX12 tyX12 tyX12_ok nmX12 hown hK hP hD hS 0 rfl rfl 7 (by decide) (hg _ w1713) (fun _ h9 => h9) rfl (tyX12_ok 7 (by decide)) rfl rfl (Nat.le_of_ble_eq_true rfl) dX12_takeTypes_97 (fun H locs hP hD hS => ?_)
                        obtain ⟨V226, hV226⟩ : ∃ z, z = up2 V217 0 7 z225 := ⟨_, rfl⟩
                        have hP : va_P D vwCl (mw ad kk ks.1 V226 L) H := by rw [hV226]; exact hP
                        have hD : va_D A (mw ad kk ks.1 V226 L) := by rw [hV226]; exact hD
                        have hMV226 : rgd bM V226 := hMV217.put hV226 (i_full _)
                        have agV226 : agr [(0, 7), (0, 8)] [15, 21, 53] V V226 := agV217.up hV226 rfl
                        refine lv_aload_n hx hb dX12_takeTypes_100 rfl (lv_at hl 4 rfl) ?_
                        refine va_get (D := D) (ci := 12) (v := .int (V226 0 8)) (C := RX12) (T := TX12) (N := 100) hx hb hg inX12 hown hK hP 0 rfl rfl 8 (by decide) (hg _ w1714) (fun _ h9 => h9) rfl dX12_takeTypes_101 ?_
                        refine g_top (v := (V217 0 8)) (up2_k hV226 (by decide)) ?_
                        refine lv_if_ne (tgt := 184) hx hb dX12_takeTypes_104 (by decide) (fun c227 => ?_) (fun c227 => ?_)
                        · skip
                          have f228 : ((V217 0 8)).toInt ≠ 0 := b_neq rfl (by decide) c227
                          refine lv_aload_n hx hb dX12_takeTypes_184 rfl (lv_at hl 4 rfl) ?_
                          refine lv_bipush (v := 44) hx hb dX12_takeTypes_185 (by decide) ?_
                          have r229 : Int32.toInt 44 = 44 := by decide
                          have pq230 : (V226 0 8).toInt = ((V217 0 8)).toInt := congrArg Int32.toInt (up2_k hV226 (by decide))
                          refine gA_int (gA_runV (As := [.int 44]) (rest := []) (ci := 12) (q0 := 0) hx hb hml hown hg hP hD hK hS hA hnw hgk (s_hasSignB l D ks H.size ad kk V226 L 44 hMV226 (show 1 ≤ (V226 0 8).toInt from by first | omega | ((try (have i_hz225 := Imp.go hz225 (by omega))); (try (have i_xlp218_2 := Imp.go xlp218_2 (by omega))); (try (have i_hz213 := Imp.go hz213 (by omega))); (try (have i_xlp5_3 := Imp.go xlp5_3 (by omega))); (try (have i_xlp5_3 := Imp.go xlp5_3 (by omega))); (try (have i_hz213 := Imp.go hz213 (by omega))); (try (have i_xlp218_2 := Imp.go xlp218_2 (by omega))); (try (have i_hz225 := Imp.go hz225 (by omega))); omega))) w2067 w2069 w94 w172 w2070 rfl rfl hdV_yX12_hasSign ⟨Nat.le_of_ble_eq_true rfl, Nat.le_of_ble_eq_true rfl⟩ rfl hl.1 rfl (Nat.le_of_ble_eq_true rfl) dX12_takeTypes_187 ⟨Nat.le_of_ble_eq_true rfl, Nat.le_of_ble_eq_true rfl⟩) hP hD hK hS hA (fun z231 u232 H locs w233 hP hD hK hS => ?_)
                          obtain ⟨V235, L236⟩ := u232
                          obtain ⟨hMV235, ajV235, axL236, rgz231, t234⟩ := w233
                          have axL236 : L = L236 := Eq.symm axL236
                          subst axL236
                          have hP : va_P D vwCl (mw ad kk ks.1 V235 L) H := hP
                          have hD : va_D A (mw ad kk ks.1 V235 L) := hD
                          have hMV235 : rgd bM V235 := hMV235
                          have ajV235 : agr [(0, 7)] [] V226 V235 := ajV235
                          have agV235 : agr [(0, 7), (0, 8)] [15, 21, 53] V V235 := agV226.tr ajV235 (by decide) (by decide)
                          have rgz231 : 0 ≤ z231.toInt ∧ z231.toInt ≤ 0 := rgz231
                          have t234 : (V235 0 8).toInt = (V226 0 8).toInt := t234
                          have pq237 : (V235 0 8).toInt = ((V217 0 8)).toInt := congrArg Int32.toInt ((ajV235 0 8 rfl).trans (up2_k hV226 (by decide)))
                          refine lv_istore (lv' := [(4, .int z231), (6, .int y216), (5, .int z16), (3, .int y2), (0, .ref (ad 0)), (1, .ref (ad 21)), (2, .int p1)]) hx hb dX12_takeTypes_190 hl (by decide) rfl (fun ls hl => ?_)
                          refine lv_goto (tgt := 5) hx hb dX12_takeTypes_192 (by decide) ?_
                          have pq238 : (V235 0 12).toInt = ((V 0 12)).toInt := congrArg Int32.toInt ((ajV235 0 12 rfl).trans ((up2_k hV226 (by decide)).trans ((ajV217 0 12 rfl).trans ((up2_k hV214 (by decide)).trans ((ajV20 0 12 rfl).trans (ajV3 0 12 rfl))))))
                          exact ihlp5 (g4 - 1) z231 y2 V235 H locs ls (by first | omega | ((try (have i_hz225 := Imp.go hz225 (by omega))); (try (have i_xlp218_2 := Imp.go xlp218_2 (by omega))); (try (have i_hz213 := Imp.go hz213 (by omega))); (try (have i_xlp5_3 := Imp.go xlp5_3 (by omega))); (try (have i_xlp5_3 := Imp.go xlp5_3 (by omega))); (try (have i_hz213 := Imp.go hz213 (by omega))); (try (have i_xlp218_2 := Imp.go xlp218_2 (by omega))); (try (have i_hz225 := Imp.go hz225 (by omega))); omega)) (by first | omega | ((try (have i_hz225 := Imp.go hz225 (by omega))); (try (have i_xlp218_2 := Imp.go xlp218_2 (by omega))); (try (have i_hz213 := Imp.go hz213 (by omega))); (try (have i_xlp5_3 := Imp.go xlp5_3 (by omega))); (try (have i_xlp5_3 := Imp.go xlp5_3 (by omega))); (try (have i_hz213 := Imp.go hz213 (by omega))); (try (have i_xlp218_2 := Imp.go xlp218_2 (by omega))); (try (have i_hz225 := Imp.go hz225 (by omega))); omega)) (Or.inr (Or.inr ⟨(show 1 ≤ (V235 0 8).toInt from by omega), (fun k => by rw [show (V235 0 8).toInt = (V217 0 8).toInt from by omega]; exact hi k)⟩)) (show 0 ≤ (g4 - 1) from by first | omega | ((try (have i_hz225 := Imp.go hz225 (by omega))); (try (have i_xlp218_2 := Imp.go xlp218_2 (by omega))); (try (have i_hz213 := Imp.go hz213 (by omega))); (try (have i_xlp5_3 := Imp.go xlp5_3 (by omega))); (try (have i_xlp5_3 := Imp.go xlp5_3 (by omega))); (try (have i_hz213 := Imp.go hz213 (by omega))); (try (have i_xlp218_2 := Imp.go xlp218_2 (by omega))); (try (have i_hz225 := Imp.go hz225 (by omega))); omega)) (show y2.toInt ≤ 6 from by first | omega | ((try (have i_hz225 := Imp.go hz225 (by omega))); (try (have i_xlp218_2 := Imp.go xlp218_2 (by omega))); (try (have i_hz213 := Imp.go hz213 (by omega))); (try (have i_xlp5_3 := Imp.go xlp5_3 (by omega))); (try (have i_xlp5_3 := Imp.go xlp5_3 (by omega))); (try (have i_hz213 := Imp.go hz213 (by omega))); (try (have i_xlp218_2 := Imp.go xlp218_2 (by omega))); (try (have i_hz225 := Imp.go hz225 (by omega))); omega)) (Imp.mk (fun hp => have hp : (V235 0 8).toInt = 0 := hp; (show 7 - y2.toInt < (g4 - 1) from by first | omega | ((try (have i_hz225 := Imp.go hz225 (by omega))); (try (have i_xlp218_2 := Imp.go xlp218_2 (by omega))); (try (have i_hz213 := Imp.go hz213 (by omega))); (try (have i_xlp5_3 := Imp.go xlp5_3 (by omega))); (try (have i_xlp5_3 := Imp.go xlp5_3 (by omega))); (try (have i_hz213 := Imp.go hz213 (by omega))); (try (have i_xlp218_2 := Imp.go xlp218_2 (by omega))); (try (have i_hz225 := Imp.go hz225 (by omega))); omega)))) (show (V235 0 12).toInt = (V 0 12).toInt from by first | omega | ((try (have i_hz225 := Imp.go hz225 (by omega))); (try (have i_xlp218_2 := Imp.go xlp218_2 (by omega))); (try (have i_hz213 := Imp.go hz213 (by omega))); (try (have i_xlp5_3 := Imp.go xlp5_3 (by omega))); (try (have i_xlp5_3 := Imp.go xlp5_3 (by omega))); (try (have i_hz213 := Imp.go hz213 (by omega))); (try (have i_xlp218_2 := Imp.go xlp218_2 (by omega))); (try (have i_hz225 := Imp.go hz225 (by omega))); omega)) (by first | omega | ((try (have i_hz225 := Imp.go hz225 (by omega))); (try (have i_xlp218_2 := Imp.go xlp218_2 (by omega))); (try (have i_hz213 := Imp.go hz213 (by omega))); (try (have i_xlp5_3 := Imp.go xlp5_3 (by omega))); (try (have i_xlp5_3 := Imp.go xlp5_3 (by omega))); (try (have i_hz213 := Imp.go hz213 (by omega))); (try (have i_xlp218_2 := Imp.go xlp218_2 (by omega))); (try (have i_hz225 := Imp.go hz225 (by omega))); omega)) (agr.tr (agr.up (agr.tr (agr.up (agr.tr (agr.tr agr.rf ajV3 (by decide) (by decide)) ajV20 (by decide) (by decide)) hV214 rfl) ajV217 (by decide) (by decide)) hV226 rfl) ajV235 (by decide) (by decide)) hMV235 hP hD hS (lv_sub hl [0, 3, 4, 5, 6] rfl)
                        · skip
                          have f239 : ((V217 0 8)).toInt = 0 := b_eq rfl (by decide) c227
                          exfalso; first | omega | ((try (have i_hz225 := Imp.go hz225 (by omega))); (try (have i_xlp218_2 := Imp.go xlp218_2 (by omega))); (try (have i_hz213 := Imp.go hz213 (by omega))); (try (have i_xlp5_3 := Imp.go xlp5_3 (by omega))); (try (have i_xlp5_3 := Imp.go xlp5_3 (by omega))); (try (have i_hz213 := Imp.go hz213 (by omega))); (try (have i_xlp218_2 := Imp.go xlp218_2 (by omega))); (try (have i_hz225 := Imp.go hz225 (by omega))); omega)
                      · skip
                        have f240 : ((V217 0 8)).toInt = 0 := b_eq rfl (by decide) c222
                        exfalso; first | omega | ((try (have i_xlp218_2 := Imp.go xlp218_2 (by omega))); (try (have i_hz213 := Imp.go hz213 (by omega))); (try (have i_xlp5_3 := Imp.go xlp5_3 (by omega))); (try (have i_xlp5_3 := Imp.go xlp5_3 (by omega))); (try (have i_hz213 := Imp.go hz213 (by omega))); (try (have i_xlp218_2 := Imp.go xlp218_2 (by omega))); omega)
                    · skip
                      have f241 : y216.toInt < y2.toInt := b_nle rfl rfl c220
                      refine lv_aload_n hx hb dX12_takeTypes_42 rfl (lv_at hl 4 rfl) ?_
                      refine va_get (D := D) (ci := 12) (v := .int (V217 0 8)) (C := RX12) (T := TX12) (N := 100) hx hb hg inX12 hown hK hP 0 rfl rfl 8 (by decide) (hg _ w1714) (fun _ h9 => h9) rfl dX12_takeTypes_43 ?_
                      refine lv_if_ne (tgt := 72) hx hb dX12_takeTypes_46 (by decide) (fun c242 => ?_) (fun c242 => ?_)
                      · skip
                        have f243 : ((V217 0 8)).toInt ≠ 0 := b_neq rfl (by decide) c242
                        refine lv_aload_n hx hb dX12_takeTypes_72 rfl (lv_at hl 4 rfl) ?_
                        refine va_get (D := D) (ci := 12) (v := .int (V217 0 8)) (C := RX12) (T := TX12) (N := 100) hx hb hg inX12 hown hK hP 0 rfl rfl 8 (by decide) (hg _ w1714) (fun _ h9 => h9) rfl dX12_takeTypes_73 ?_
                        refine lv_if_ne (tgt := 90) hx hb dX12_takeTypes_76 (by decide) (fun c244 => ?_) (fun c244 => ?_)
                        · skip
                          have f245 : ((V217 0 8)).toInt ≠ 0 := b_neq rfl (by decide) c244
                          refine lv_aload_n hx hb dX12_takeTypes_90 rfl (lv_at hl 4 rfl) ?_
                          refine lv_dup hx hb dX12_takeTypes_91 rfl ?_
                          refine va_get (D := D) (ci := 12) (v := .int (V217 0 7)) (C := RX12) (T := TX12) (N := 100) hx hb hg inX12 hown hK hP 0 rfl rfl 7 (by decide) (hg _ w1713) (fun _ h9 => h9) rfl dX12_takeTypes_92 ?_
                          refine g_top (v := z213) ((ajV217 0 7 rfl).trans (up2_s hV214)) ?_
                          refine lv_iconst (v := 1) hx hb dX12_takeTypes_95 (by decide) ?_
                          refine lv_iadd hx hb dX12_takeTypes_96 ?_
                          have r246 := i_full z213
                          refine lv_topi (fun z247 ez247 => ?_)
                          have hz247 : Imp (-2147483648 ≤ z213.toInt + 1 ∧ z213.toInt + 1 ≤ 2147483647) (z247.toInt = z213.toInt + 1) := Imp.mk (fun hp => i_add ez247 rfl (by decide) hp)
                          refine va_put (D := D) (ci := 12) (v := .int z247) (ty := tyX12 7) (C := RX12) (T := TX12) (N := 100) hx hb hg inX12 tyX12 tyX12_ok nmX12 hown hK hP hD hS 0 rfl rfl 7 (by decide) (hg _ w1713) (fun _ h9 => h9) rfl (tyX12_ok 7 (by decide)) rfl rfl (Nat.le_of_ble_eq_true rfl) dX12_takeTypes_97 (fun H locs hP hD hS => ?_)
                          obtain ⟨V248, hV248⟩ : ∃ z, z = up2 V217 0 7 z247 := ⟨_, rfl⟩
                          have hP : va_P D vwCl (mw ad kk ks.1 V248 L) H := by rw [hV248]; exact hP
                          have hD : va_D A (mw ad kk ks.1 V248 L) := by rw [hV248]; exact hD
                          have hMV248 : rgd bM V248 := hMV217.put hV248 (i_full _)
                          have agV248 : agr [(0, 7), (0, 8)] [15, 21, 53] V V248 := agV217.up hV248 rfl
                          refine lv_aload_n hx hb dX12_takeTypes_100 rfl (lv_at hl 4 rfl) ?_
                          refine va_get (D := D) (ci := 12) (v := .int (V248 0 8)) (C := RX12) (T := TX12) (N := 100) hx hb hg inX12 hown hK hP 0 rfl rfl 8 (by decide) (hg _ w1714) (fun _ h9 => h9) rfl dX12_takeTypes_101 ?_
                          refine g_top (v := (V217 0 8)) (up2_k hV248 (by decide)) ?_
                          refine lv_if_ne (tgt := 184) hx hb dX12_takeTypes_104 (by decide) (fun c249 => ?_) (fun c249 => ?_)
                          · skip
                            have f250 : ((V217 0 8)).toInt ≠ 0 := b_neq rfl (by decide) c249
                            refine lv_aload_n hx hb dX12_takeTypes_184 rfl (lv_at hl 4 rfl) ?_
                            refine lv_bipush (v := 44) hx hb dX12_takeTypes_185 (by decide) ?_
                            have r251 : Int32.toInt 44 = 44 := by decide
                            have pq252 : (V248 0 8).toInt = ((V217 0 8)).toInt := congrArg Int32.toInt (up2_k hV248 (by decide))
                            refine gA_int (gA_runV (As := [.int 44]) (rest := []) (ci := 12) (q0 := 0) hx hb hml hown hg hP hD hK hS hA hnw hgk (s_hasSignB l D ks H.size ad kk V248 L 44 hMV248 (show 1 ≤ (V248 0 8).toInt from by first | omega | ((try (have i_hz247 := Imp.go hz247 (by omega))); (try (have i_xlp218_2 := Imp.go xlp218_2 (by omega))); (try (have i_hz213 := Imp.go hz213 (by omega))); (try (have i_xlp5_3 := Imp.go xlp5_3 (by omega))); (try (have i_xlp5_3 := Imp.go xlp5_3 (by omega))); (try (have i_hz213 := Imp.go hz213 (by omega))); (try (have i_xlp218_2 := Imp.go xlp218_2 (by omega))); (try (have i_hz247 := Imp.go hz247 (by omega))); omega))) w2067 w2069 w94 w172 w2070 rfl rfl hdV_yX12_hasSign ⟨Nat.le_of_ble_eq_true rfl, Nat.le_of_ble_eq_true rfl⟩ rfl hl.1 rfl (Nat.le_of_ble_eq_true rfl) dX12_takeTypes_187 ⟨Nat.le_of_ble_eq_true rfl, Nat.le_of_ble_eq_true rfl⟩) hP hD hK hS hA (fun z253 u254 H locs w255 hP hD hK hS => ?_)
                            obtain ⟨V257, L258⟩ := u254
                            obtain ⟨hMV257, ajV257, axL258, rgz253, t256⟩ := w255
                            have axL258 : L = L258 := Eq.symm axL258
                            subst axL258
                            have hP : va_P D vwCl (mw ad kk ks.1 V257 L) H := hP
                            have hD : va_D A (mw ad kk ks.1 V257 L) := hD
                            have hMV257 : rgd bM V257 := hMV257
                            have ajV257 : agr [(0, 7)] [] V248 V257 := ajV257
                            have agV257 : agr [(0, 7), (0, 8)] [15, 21, 53] V V257 := agV248.tr ajV257 (by decide) (by decide)
                            have rgz253 : 0 ≤ z253.toInt ∧ z253.toInt ≤ 0 := rgz253
                            have t256 : (V257 0 8).toInt = (V248 0 8).toInt := t256
                            have pq259 : (V257 0 8).toInt = ((V217 0 8)).toInt := congrArg Int32.toInt ((ajV257 0 8 rfl).trans (up2_k hV248 (by decide)))
                            refine lv_istore (lv' := [(4, .int z253), (6, .int y216), (5, .int z16), (3, .int y2), (0, .ref (ad 0)), (1, .ref (ad 21)), (2, .int p1)]) hx hb dX12_takeTypes_190 hl (by decide) rfl (fun ls hl => ?_)
                            refine lv_goto (tgt := 5) hx hb dX12_takeTypes_192 (by decide) ?_
                            have pq260 : (V257 0 12).toInt = ((V 0 12)).toInt := congrArg Int32.toInt ((ajV257 0 12 rfl).trans ((up2_k hV248 (by decide)).trans ((ajV217 0 12 rfl).trans ((up2_k hV214 (by decide)).trans ((ajV20 0 12 rfl).trans (ajV3 0 12 rfl))))))
                            exact ihlp5 (g4 - 1) z253 y2 V257 H locs ls (by first | omega | ((try (have i_hz247 := Imp.go hz247 (by omega))); (try (have i_xlp218_2 := Imp.go xlp218_2 (by omega))); (try (have i_hz213 := Imp.go hz213 (by omega))); (try (have i_xlp5_3 := Imp.go xlp5_3 (by omega))); (try (have i_xlp5_3 := Imp.go xlp5_3 (by omega))); (try (have i_hz213 := Imp.go hz213 (by omega))); (try (have i_xlp218_2 := Imp.go xlp218_2 (by omega))); (try (have i_hz247 := Imp.go hz247 (by omega))); omega)) (by first | omega | ((try (have i_hz247 := Imp.go hz247 (by omega))); (try (have i_xlp218_2 := Imp.go xlp218_2 (by omega))); (try (have i_hz213 := Imp.go hz213 (by omega))); (try (have i_xlp5_3 := Imp.go xlp5_3 (by omega))); (try (have i_xlp5_3 := Imp.go xlp5_3 (by omega))); (try (have i_hz213 := Imp.go hz213 (by omega))); (try (have i_xlp218_2 := Imp.go xlp218_2 (by omega))); (try (have i_hz247 := Imp.go hz247 (by omega))); omega)) (Or.inr (Or.inr ⟨(show 1 ≤ (V257 0 8).toInt from by omega), (fun k => by rw [show (V257 0 8).toInt = (V217 0 8).toInt from by omega]; exact hi k)⟩)) (show 0 ≤ (g4 - 1) from by first | omega | ((try (have i_hz247 := Imp.go hz247 (by omega))); (try (have i_xlp218_2 := Imp.go xlp218_2 (by omega))); (try (have i_hz213 := Imp.go hz213 (by omega))); (try (have i_xlp5_3 := Imp.go xlp5_3 (by omega))); (try (have i_xlp5_3 := Imp.go xlp5_3 (by omega))); (try (have i_hz213 := Imp.go hz213 (by omega))); (try (have i_xlp218_2 := Imp.go xlp218_2 (by omega))); (try (have i_hz247 := Imp.go hz247 (by omega))); omega)) (show y2.toInt ≤ 6 from by first | omega | ((try (have i_hz247 := Imp.go hz247 (by omega))); (try (have i_xlp218_2 := Imp.go xlp218_2 (by omega))); (try (have i_hz213 := Imp.go hz213 (by omega))); (try (have i_xlp5_3 := Imp.go xlp5_3 (by omega))); (try (have i_xlp5_3 := Imp.go xlp5_3 (by omega))); (try (have i_hz213 := Imp.go hz213 (by omega))); (try (have i_xlp218_2 := Imp.go xlp218_2 (by omega))); (try (have i_hz247 := Imp.go hz247 (by omega))); omega)) (Imp.mk (fun hp => have hp : (V257 0 8).toInt = 0 := hp; (show 7 - y2.toInt < (g4 - 1) from by first | omega | ((try (have i_hz247 := Imp.go hz247 (by omega))); (try (have i_xlp218_2 := Imp.go xlp218_2 (by omega))); (try (have i_hz213 := Imp.go hz213 (by omega))); (try (have i_xlp5_3 := Imp.go xlp5_3 (by omega))); (try (have i_xlp5_3 := Imp.go xlp5_3 (by omega))); (try (have i_hz213 := Imp.go hz213 (by omega))); (try (have i_xlp218_2 := Imp.go xlp218_2 (by omega))); (try (have i_hz247 := Imp.go hz247 (by omega))); omega)))) (show (V257 0 12).toInt = (V 0 12).toInt from by first | omega | ((try (have i_hz247 := Imp.go hz247 (by omega))); (try (have i_xlp218_2 := Imp.go xlp218_2 (by omega))); (try (have i_hz213 := Imp.go hz213 (by omega))); (try (have i_xlp5_3 := Imp.go xlp5_3 (by omega))); (try (have i_xlp5_3 := Imp.go xlp5_3 (by omega))); (try (have i_hz213 := Imp.go hz213 (by omega))); (try (have i_xlp218_2 := Imp.go xlp218_2 (by omega))); (try (have i_hz247 := Imp.go hz247 (by omega))); omega)) (by first | omega | ((try (have i_hz247 := Imp.go hz247 (by omega))); (try (have i_xlp218_2 := Imp.go xlp218_2 (by omega))); (try (have i_hz213 := Imp.go hz213 (by omega))); (try (have i_xlp5_3 := Imp.go xlp5_3 (by omega))); (try (have i_xlp5_3 := Imp.go xlp5_3 (by omega))); (try (have i_hz213 := Imp.go hz213 (by omega))); (try (have i_xlp218_2 := Imp.go xlp218_2 (by omega))); (try (have i_hz247 := Imp.go hz247 (by omega))); omega)) (agr.tr (agr.up (agr.tr (agr.up (agr.tr (agr.tr agr.rf ajV3 (by decide) (by decide)) ajV20 (by decide) (by decide)) hV214 rfl) ajV217 (by decide) (by decide)) hV248 rfl) ajV257 (by decide) (by decide)) hMV257 hP hD hS (lv_sub hl [0, 3, 4, 5, 6] rfl)
                          · skip
                            have f261 : ((V217 0 8)).toInt = 0 := b_eq rfl (by decide) c249
                            exfalso; first | omega | ((try (have i_hz247 := Imp.go hz247 (by omega))); (try (have i_xlp218_2 := Imp.go xlp218_2 (by omega))); (try (have i_hz213 := Imp.go hz213 (by omega))); (try (have i_xlp5_3 := Imp.go xlp5_3 (by omega))); (try (have i_xlp5_3 := Imp.go xlp5_3 (by omega))); (try (have i_hz213 := Imp.go hz213 (by omega))); (try (have i_xlp218_2 := Imp.go xlp218_2 (by omega))); (try (have i_hz247 := Imp.go hz247 (by omega))); omega)
                        · skip
                          have f262 : ((V217 0 8)).toInt = 0 := b_eq rfl (by decide) c244
                          exfalso; first | omega | ((try (have i_xlp218_2 := Imp.go xlp218_2 (by omega))); (try (have i_hz213 := Imp.go hz213 (by omega))); (try (have i_xlp5_3 := Imp.go xlp5_3 (by omega))); (try (have i_xlp5_3 := Imp.go xlp5_3 (by omega))); (try (have i_hz213 := Imp.go hz213 (by omega))); (try (have i_xlp218_2 := Imp.go xlp218_2 (by omega))); omega)
                      · skip
                        have f263 : ((V217 0 8)).toInt = 0 := b_eq rfl (by decide) c242
                        exfalso; first | omega | ((try (have i_xlp218_2 := Imp.go xlp218_2 (by omega))); (try (have i_hz213 := Imp.go hz213 (by omega))); (try (have i_xlp5_3 := Imp.go xlp5_3 (by omega))); (try (have i_xlp5_3 := Imp.go xlp5_3 (by omega))); (try (have i_hz213 := Imp.go hz213 (by omega))); (try (have i_xlp218_2 := Imp.go xlp218_2 (by omega))); omega)
              have r264 : Int32.toInt 0 = 0 := by decide
              exact lp218 ((y2.toInt - (Int32.toInt 0) + 1 : Int).toNat) 0 V214 H locs ls (by decide) (Or.inr ⟨(show 1 ≤ (V214 0 8).toInt from by omega), (fun k => by rw [show (V214 0 8).toInt = (V20 0 8).toInt from by omega]; exact hb210 k)⟩) (show (Int32.toInt 0) ≤ y2.toInt from by first | omega | ((try (have i_hz213 := Imp.go hz213 (by omega))); (try (have i_xlp5_3 := Imp.go xlp5_3 (by omega))); (try (have i_xlp5_3 := Imp.go xlp5_3 (by omega))); (try (have i_hz213 := Imp.go hz213 (by omega))); omega)) (Imp.mk (fun hp => have hp : 1 ≤ (V214 0 8).toInt := hp; (show (V214 0 8).toInt = (V214 0 8).toInt from by first | omega | ((try (have i_hz213 := Imp.go hz213 (by omega))); (try (have i_xlp5_3 := Imp.go xlp5_3 (by omega))); (try (have i_xlp5_3 := Imp.go xlp5_3 (by omega))); (try (have i_hz213 := Imp.go hz213 (by omega))); omega)))) (by first | omega | ((try (have i_hz213 := Imp.go hz213 (by omega))); (try (have i_xlp5_3 := Imp.go xlp5_3 (by omega))); (try (have i_xlp5_3 := Imp.go xlp5_3 (by omega))); (try (have i_hz213 := Imp.go hz213 (by omega))); omega)) agr.rf hMV214 hP hD hS (lv_sub hl [0, 1, 2, 3, 4, 5, 6] rfl)
      · skip
        have fz265 := RelM.rg rq
        refine lv_if_eq (tgt := 195) hx hb dX12_takeTypes_7 (by decide) (fun c266 => ?_) (fun c266 => ?_)
        · skip
          have f267 : y1.toInt = 0 := b_eq rfl (by decide) c266
          exact W.vret hx hb hr (fun t ht hW => ⟨⟨(V3, L), rfl, ⟨hMV3, agV3, rfl, (Or.inl ⟨W0 rq, s1, hq, rq, keepS.le (keepS.tr (keepS.rf : keepS gs 0 gs) kq) (by decide)⟩)⟩, by rw [ht]; exact hP, va_K.moved hW.alike hK, hD⟩, hS.F ht⟩) hS.2.2 dX12_takeTypes_195
        · skip
          have f268 : y1.toInt ≠ 0 := b_neq rfl (by decide) c266
          exfalso; first | omega | ((try (have i_xlp5_3 := Imp.go xlp5_3 (by omega))); omega)
      · skip
        refine lv_if_eq (tgt := 195) hx hb dX12_takeTypes_7 (by decide) (fun c269 => ?_) (fun c269 => ?_)
        · skip
          have f270 : y1.toInt = 0 := b_eq rfl (by decide) c269
          exact W.vret hx hb hr (fun t ht hW => ⟨⟨(V3, L), rfl, ⟨hMV3, agV3, rfl, (Or.inr ⟨(show 1 ≤ (V3 0 8).toInt from by omega), hq⟩)⟩, by rw [ht]; exact hP, va_K.moved hW.alike hK, hD⟩, hS.F ht⟩) hS.2.2 dX12_takeTypes_195
        · skip
          have f271 : y1.toInt ≠ 0 := b_neq rfl (by decide) c269
          refine lv_aload_n hx hb dX12_takeTypes_10 rfl (lv_at hl 2 rfl) ?_
          refine va_get (D := D) (ci := 12) (v := .int (V3 0 8)) (C := RX12) (T := TX12) (N := 100) hx hb hg inX12 hown hK hP 0 rfl rfl 8 (by decide) (hg _ w1714) (fun _ h9 => h9) rfl dX12_takeTypes_11 ?_
          refine lv_if_ne (tgt := 195) hx hb dX12_takeTypes_14 (by decide) (fun c272 => ?_) (fun c272 => ?_)
          · skip
            have f273 : ((V3 0 8)).toInt ≠ 0 := b_neq rfl (by decide) c272
            exact W.vret hx hb hr (fun t ht hW => ⟨⟨(V3, L), rfl, ⟨hMV3, agV3, rfl, (Or.inr ⟨(show 1 ≤ (V3 0 8).toInt from by omega), hq⟩)⟩, by rw [ht]; exact hP, va_K.moved hW.alike hK, hD⟩, hS.F ht⟩) hS.2.2 dX12_takeTypes_195
          · skip
            have f274 : ((V3 0 8)).toInt = 0 := b_eq rfl (by decide) c272
            exfalso; first | omega | ((try (have i_xlp5_3 := Imp.go xlp5_3 (by omega))); omega)
  have r275 : Int32.toInt 1 = 1 := by decide
  have r276 : Int32.toInt 0 = 0 := by decide
  have r277 : 0 ≤ ((V 0 8)).toInt ∧ ((V 0 8)).toInt ≤ 70000 := hMV 0 8
  have r278 : 0 ≤ ((V 0 12)).toInt ∧ ((V 0 12)).toInt ≤ 1 := hMV 0 12
  have z00 : (Int32.toInt 0).toNat = 0 := by decide
  exact lp5 ((9 + 1 : Int).toNat) 9 1 0 V H locs ls (by decide) (by decide) (Or.inl ⟨W0 rel, by decide, gs, [], (by rw [z00]; exact fun k => Rc.rf), rel, keepS.rf, LST.z (by decide)⟩) (show 0 ≤ 9 from by omega) (show (Int32.toInt 0) ≤ 6 from by omega) (Imp.mk (fun hp => have hp : (V 0 8).toInt = 0 := hp; (show 7 - (Int32.toInt 0) < 9 from by omega))) (show (V 0 12).toInt = (V 0 12).toInt from by omega) (by omega) agr.rf hMV hP hD hS (lv_sub hl [0, 1, 2, 3, 4] rfl)
