/-! E's -/
theorem bg_ne {T : Tk} {s : St} (h : bgP T s) : T.1 (s.1 0) ≠ 0 := by
  unfold bgP at h
  omega
theorem bg_147 {T : Tk} {s : St} (h : bgP T s) (a : T.1 (s.1 0) ≠ 2) (a2 : T.1 (s.1 0) ≠ 40) (a3 : T.1 (s.1 0) ≠ 45) (a4 : T.1 (s.1 0) ≠ 130) (a5 : T.1 (s.1 0) ≠ 143) (a6 : T.1 (s.1 0) ≠ 144) (a7 : T.1 (s.1 0) ≠ 145) (a8 : T.1 (s.1 0) ≠ 146) : T.1 (s.1 0) = 147 := by
  unfold bgP at h
  omega
theorem bg_146 {T : Tk} {s : St} (h : bgP T s) (a : T.1 (s.1 0) = 146) : s.1 4 = 0 := by
  unfold bgP at h
  omega
theorem look_ne {T : Tk} {s : St} {l : List Int64} {f : Nat} (h : ∀ kk, look T s l kk = kk f) : T.1 (s.1 0) ≠ 0 := by
  intro q
  have z := (look_1 (l := l) (by rw [q]; decide) (fun _ => Cdone s)).symm.trans (h _)
  unfold fl at z
  exact absurd z (fun e => by cases e)


abbrev r_x_takeTypes3 : Room := { frames := 2, cells := 0, slots := 0, locals := 43 }
abbrev q_x_takeTypes3 (D : va_G) (ks : KS) (ad : Nat → Nat) (kk : Nat → ClassId) (V : Vf) (L : Lf) (Z : XZ) (b : Nat) (gT : Tk) (gs : St) (A : Nat → Prop) : Array Value → State → Outcome → State → Prop := va_Qi (fun (r : Int32) (u : Vf × Lf) => rgd bX u.1 ∧ agr [(1, 3), (1, 6), (1, 7), (6, 8), (6, 9), (6, 10)] [] V u.1 ∧ agL [6] L u.2 ∧ (0 ≤ r.toInt ∧ r.toInt ≤ 1) ∧ (Rd gT gs (fun k => Itypes 0 [] :: k) (fun k => k) r.toInt (u.1 1 3).toInt (fun s9 => RelC u.1 u.2 b gT s9 ∧ keepS gs 1 s9))) (fun u t => gq D A (xw ad kk u.1 u.2 Z) (xty kk Z) t) A
set_option maxHeartbeats 4000000 in
set_option maxRecDepth 100000 in
theorem x_takeTypes3 (l : Launch) (D : va_G) (ks : KS) (sz : Nat) (ad : Nat → Nat) (kk : Nat → ClassId) (V : Vf) (L : Lf) (Z : XZ) (b : Nat) (gT : Tk) (gs : St) (hMV : rgd bX V) (hb2 : b < 2) (rbk : (V 1 1).toInt = (b : Int)) (rel : RelC V L b gT gs)  : Met l yX1_takeTypes (Cond.code yX1_takeTypes cX1_takeTypes 3 (some .boolean) :: GW) r_x_takeTypes3 (va_Pc [.ref (ad 1)] (gp D ks (xw ad kk V L Z) (xty kk Z) sz)) (q_x_takeTypes3 D ks ad kk V L Z  b gT gs (va_A (xw ad kk V L Z) sz)) 0 0 (va_A (xw ad kk V L Z) sz) := by
  refine g_met (q_x_takeTypes3 D ks ad kk V L Z  b gT gs) (by decide) (Nat.le_of_ble_eq_true rfl) ?_
  intro p e s m below meth c A ls H locs hx hb hr hml hown hg hlocks hin hnw hgk hP hK hD hS hA hl
  have hown : s.vm.findClass RX1 = some m.cls := hown
  have hl : lv_has ls 3 [(0, .ref (ad 1))] := hl
  have hP : va_P D vwCl (xw ad kk V L Z) H := hP
  have hD : va_D A (xw ad kk V L Z) := hD
  have hK : va_K D vwCl (xty kk Z) s := hK
  have agV : agr [(1, 3), (1, 6), (1, 7), (6, 8), (6, 9), (6, 10)] [] V V := agr.rf
  have alL : agL [6] L L := agL.rf
  have r1 : (-1) ≤ ((V 1 1)).toInt ∧ ((V 1 1)).toInt ≤ 1 := hMV 1 1
  refine lv_iconst (v := 0) hx hb dX1_takeTypes_0 (by decide) ?_
  refine lv_istore_n (lv' := [(1, .int 0), (0, .ref (ad 1))]) hx hb dX1_takeTypes_1 rfl hl (by decide) rfl (fun ls hl => ?_)
  refine lv_aload_n hx hb dX1_takeTypes_2 rfl (lv_at hl 1 rfl) ?_
  refine lv_iconst (v := 0) hx hb dX1_takeTypes_3 (by decide) ?_
  refine va_put (D := D) (ci := 1) (v := .int 0) (ty := tyX1 7) (fs := (xfReader ad V L Z)) (C := RX1) (T := TX1) (N := 9) hx hb hg inX1 tyX1 tyX1_ok nmX1 hown hK hP hD hS 1 xgReader rfl 7 (by decide) (hg _ w311) (fun _ h9 => h9) rfl (tyX1_ok 7 (by decide)) rfl rfl (Nat.le_of_ble_eq_true rfl) dX1_takeTypes_4 (fun H locs hP hD hS => ?_)
  obtain ⟨V2, hV2⟩ : ∃ z, z = up2 V 1 7 0 := ⟨_, rfl⟩
  have ew3 : (xw ad kk V L Z).set 1 ((ad 1), .inr (1, (xfReader ad V L Z).set 7 (.int 0))) = xw ad kk V2 L Z := by rw [hV2]; exact xw_ss (by decide) rfl (xb_si (by decide))
  have hP : va_P D vwCl (xw ad kk V2 L Z) H := by rw [← ew3]; exact hP
  have hD : va_D A (xw ad kk V2 L Z) := by rw [← ew3]; exact hD
  have hMV2 : rgd bX V2 := hMV.put hV2 (i_full _)
  have agV2 : agr [(1, 3), (1, 6), (1, 7), (6, 8), (6, 9), (6, 10)] [] V V2 := agV.up hV2 rfl
  refine lv_iconst (v := 0) hx hb dX1_takeTypes_7 (by decide) ?_
  refine lv_istore_n (lv' := [(2, .int 0), (1, .int 0), (0, .ref (ad 1))]) hx hb dX1_takeTypes_8 rfl hl (by decide) rfl (fun ls hl => ?_)
  have lp8 : ∀ (fulp8 : Nat) (y4 : Int32) (y5 : Int32) (V6 : Vf) (L7 : Lf) (H : Heap) (locs : List Loc) (ls : Array Slot), 0 ≤ y4.toInt ∧ y4.toInt ≤ 6 → (∃ (s1 : St) (sn : List Nat), (∀ k, Rc gT (Crun gs (Itypes 0 [] :: k)) (Crun s1 (Itypes y4.toInt.toNat sn :: k))) ∧ RelC V6 L7 b gT s1 ∧ keepS gs 0 s1 ∧ SEEN y5 sn) → (V6 1 1).toInt = (b : Int) → 7 - y4.toInt < (fulp8 : Int) → agL [6] L L7 → agr [(1, 3), (1, 6), (1, 7), (6, 8), (6, 9), (6, 10)] [] V2 V6 → rgd bX V6 → va_P D vwCl (xw ad kk V6 L7 Z) H → va_D A (xw ad kk V6 L7 Z) → va_S A s.heap H locs → lv_has ls 3 [(2, .int y4), (1, .int y5), (0, .ref (ad 1))] → W p l e r_x_takeTypes3 s m ([.ref (ad 1)] : List Value).toArray below meth c H locs 0 0 (MQ below (q_x_takeTypes3 D ks ad kk V L Z  b gT gs A) ([.ref (ad 1)] : List Value).toArray s 0 0 A) (F0 m 9 ls []) := by
    intro fulp8
    induction fulp8 with
    | zero =>
      intro y4 y5 V6 L7 H locs ls klp8_0 xlp8_0 xlp8_1 hn alL7 ajV6 hMV6 hP hD hS hl
      exfalso; omega
    | succ fulp8 ihlp8 =>
      intro y4 y5 V6 L7 H locs ls klp8_0 xlp8_0 xlp8_1 hn alL7 ajV6 hMV6 hP hD hS hl
      have agV6 : agr [(1, 3), (1, 6), (1, 7), (6, 8), (6, 9), (6, 10)] [] V V6 := agV2.tr ajV6 (by decide) (by decide)
      have pq9 : (V6 1 1).toInt = ((V 1 1)).toInt := congrArg Int32.toInt ((ajV6 1 1 rfl).trans (up2_k hV2 (by decide)))
      refine lv_iload_n hx hb dX1_takeTypes_9 rfl (lv_at hl 0 rfl) ?_
      obtain ⟨s1, sn, hq, rq, kq, sq⟩ := xlp8_0
      refine lv_bipush (v := 6) hx hb dX1_takeTypes_10 (by decide) ?_
      refine lv_icmp_gt (tgt := 117) hx hb dX1_takeTypes_12 (by decide) (fun c10 => ?_) (fun c10 => ?_)
      · skip
        have f11 : 6 < y4.toInt := b_lt (by decide) rfl c10
        exfalso; omega
      · skip
        have f12 : y4.toInt ≤ 6 := b_nlt (by decide) rfl c10
        refine lv_aload_n hx hb dX1_takeTypes_15 rfl (lv_at hl 2 rfl) ?_
        refine gA_int (gA_runV (As := []) (rest := []) (ci := 1) (q0 := 1) hx hb hml hown hg hP hD hK hS hA hnw hgk (x_isToldType3 l D ks H.size ad kk V6 L7 Z (b) (gT) (s1) hMV6 (show b < 2 from by omega) (show (V6 1 1).toInt = (b : Int) from by omega) rq) w888 w890 w9 w162 w891 rfl xgReader hdV_yX1_isToldType ⟨Nat.le_of_ble_eq_true rfl, Nat.le_of_ble_eq_true rfl⟩ rfl hl.1 rfl (Nat.le_of_ble_eq_true rfl) dX1_takeTypes_16 ⟨Nat.le_of_ble_eq_true rfl, Nat.le_of_ble_eq_true rfl⟩) hP hD hK hS hA (fun z13 u14 H locs w15 hP hD hK hS => ?_)
        obtain ⟨V17, L18⟩ := u14
        obtain ⟨hMV17, ajV17, axL18, rgz13, t16⟩ := w15
        have axL18 : L7 = L18 := Eq.symm axL18
        subst axL18
        have hP : va_P D vwCl (xw ad kk V17 L7 Z) H := hP
        have hD : va_D A (xw ad kk V17 L7 Z) := hD
        have hMV17 : rgd bX V17 := hMV17
        have ajV17 : agr [(1, 3), (1, 6)] [] V6 V17 := ajV17
        have agV17 : agr [(1, 3), (1, 6), (1, 7), (6, 8), (6, 9), (6, 10)] [] V V17 := agV6.tr ajV17 (by decide) (by decide)
        have rgz13 : 0 ≤ z13.toInt ∧ z13.toInt ≤ 1 := rgz13
        have t16 : KcN (look gT s1 (s1.2.1 0)) z13.toInt (V17 1 3).toInt (fun f9 => RelC V17 L7 b gT s1 ∧ (V17 1 6).toInt = ((f9 : Nat) : Int) ∧ f9 < 24) := t16
        rcases t16 with ⟨q19, fx20, h21, rl22, hf23, hb24⟩ | ⟨q19, h21⟩
        · skip
          have kn25 := look_ne h21
          have kd26 : gT.1 (s1.1 0) = ((V6 6 9)).toInt := (RelC.kd rl22).trans (congrArg Int32.toInt (ajV17 6 9 rfl))
          refine lv_if_ne (tgt := 24) hx hb dX1_takeTypes_19 (by decide) (fun c27 => ?_) (fun c27 => ?_)
          · skip
            have f28 : z13.toInt ≠ 0 := b_neq rfl (by decide) c27
            refine lv_iload_n hx hb dX1_takeTypes_24 rfl (lv_at hl 1 rfl) ?_
            refine lv_aload_n hx hb dX1_takeTypes_25 rfl (lv_at hl 2 rfl) ?_
            refine va_get (D := D) (ci := 1) (v := .int (V17 1 6)) (fs := (xfReader ad V17 L7 Z)) (C := RX1) (T := TX1) (N := 9) hx hb hg inX1 hown hK hP 1 xgReader rfl 6 (by decide) (hg _ w310) (fun _ h9 => h9) rfl dX1_takeTypes_26 ?_
            have r29 : (-1) ≤ ((V17 1 6)).toInt ∧ ((V17 1 6)).toInt ≤ 23 := hMV17 1 6
            refine lv_ishr hx hb dX1_takeTypes_29 ?_
            refine lv_topi (fun z30 ez30 => ?_)
            refine lv_iconst (v := 1) hx hb dX1_takeTypes_30 (by decide) ?_
            refine lv_iand hx hb dX1_takeTypes_31 ?_
            refine lv_topi (fun z31 ez31 => ?_)
            have hz31 : 0 ≤ z31.toInt ∧ z31.toInt ≤ 1 := and_m ez31 (by decide)
            refine lv_if_eq (tgt := 41) hx hb dX1_takeTypes_32 (by decide) (fun c32 => ?_) (fun c32 => ?_)
            · skip
              have f33 : z31.toInt = 0 := b_eq rfl (by decide) c32
              refine lv_iload_n hx hb dX1_takeTypes_41 rfl (lv_at hl 0 rfl) ?_
              refine lv_bipush (v := 6) hx hb dX1_takeTypes_42 (by decide) ?_
              refine lv_icmp_ne (tgt := 53) hx hb dX1_takeTypes_44 (by decide) (fun c34 => ?_) (fun c34 => ?_)
              · skip
                have f35 : y4.toInt ≠ 6 := b_neq rfl (by decide) c34
                have nn36 : fx20 ∉ sn := (SEEN.no sq ez30 ez31 hf23 hb24 (by omega))
                have hr37 : ∀ k, Rc gT (Crun gs (Itypes 0 [] :: k)) (Crun (nx s1 1) (Imore (y4.toInt.toNat + 1) (fx20 :: sn) :: k)) := fun k => Rc.go1 (hq k) (ty_y h21 nn36 (by omega))
                refine lv_iload_n hx hb dX1_takeTypes_53 rfl (lv_at hl 1 rfl) ?_
                refine lv_iconst (v := 1) hx hb dX1_takeTypes_54 (by decide) ?_
                refine lv_aload_n hx hb dX1_takeTypes_55 rfl (lv_at hl 2 rfl) ?_
                refine va_get (D := D) (ci := 1) (v := .int (V17 1 6)) (fs := (xfReader ad V17 L7 Z)) (C := RX1) (T := TX1) (N := 9) hx hb hg inX1 hown hK hP 1 xgReader rfl 6 (by decide) (hg _ w310) (fun _ h9 => h9) rfl dX1_takeTypes_56 ?_
                refine lv_ishl hx hb dX1_takeTypes_59 ?_
                refine lv_topi (fun z38 ez38 => ?_)
                refine lv_ior hx hb dX1_takeTypes_60 ?_
                refine lv_topi (fun z39 ez39 => ?_)
                refine lv_istore_n (lv' := [(1, .int z39), (2, .int y4), (0, .ref (ad 1))]) hx hb dX1_takeTypes_61 rfl hl (by decide) rfl (fun ls hl => ?_)
                refine lv_aload_n hx hb dX1_takeTypes_62 rfl (lv_at hl 2 rfl) ?_
                refine lv_dup hx hb dX1_takeTypes_63 rfl ?_
                refine va_get (D := D) (ci := 1) (v := .int (V17 1 7)) (fs := (xfReader ad V17 L7 Z)) (C := RX1) (T := TX1) (N := 9) hx hb hg inX1 hown hK hP 1 xgReader rfl 7 (by decide) (hg _ w311) (fun _ h9 => h9) rfl dX1_takeTypes_64 ?_
                refine g_top (v := (V6 1 7)) (ajV17 1 7 rfl) ?_
                refine lv_aload_n hx hb dX1_takeTypes_67 rfl (lv_at hl 2 rfl) ?_
                refine va_get (D := D) (ci := 1) (v := rfN ad 38 (V17 1 1)) (fs := (xfReader ad V17 L7 Z)) (C := RX1) (T := TX1) (N := 9) hx hb hg inX1 hown hK hP 1 xgReader rfl 1 (by decide) (hg _ w305) (fun _ h9 => h9) rfl dX1_takeTypes_68 ?_
                have pq40 : (V17 1 1).toInt = ((V 1 1)).toInt := congrArg Int32.toInt ((ajV17 1 1 rfl).trans ((ajV6 1 1 rfl).trans (up2_k hV2 (by decide))))
                refine g_topv (v := .ref (ad (38 + b))) (rfN_r (by omega)) ?_
                refine va_getN (D := D) (ci := 0) (v := .ref (ad (60 + b))) (fs := (xfBook ad V17 b)) (C := RX0) (T := TX0) (N := 13) hx hb hg inX0 hown hK hP (38 + b) (xgBook hb2) rfl 5 (by decide) (hnw.use 609 n609 rfl) (fun _ h9 => h9) rfl dX1_takeTypes_71 ?_
                refine lv_aload_n hx hb dX1_takeTypes_74 rfl (lv_at hl 2 rfl) ?_
                refine va_get (D := D) (ci := 1) (v := .int (V17 1 6)) (fs := (xfReader ad V17 L7 Z)) (C := RX1) (T := TX1) (N := 9) hx hb hg inX1 hown hK hP 1 xgReader rfl 6 (by decide) (hg _ w310) (fun _ h9 => h9) rfl dX1_takeTypes_75 ?_
                have il41 : b < 2 := by omega
                refine va_iald (D := D) (i := (V17 1 6)) hx hb hK hP (60 + b) (53 + b) (xgtypeUnder il41) (xttypeUnder il41) (i_in (a := ((V17 1 6)).toInt) rfl (by omega)) dX1_takeTypes_78 ?_
                have kc42 := i_clamp (x := (V17 1 6)) rfl (by omega)
                refine g_top (v := V17 45 (24 * b + (Int32.toNatClampNeg (V17 1 6)))) (if_pos (by omega)) ?_
                refine g_top (v := (V 45 (24 * b + (Int32.toNatClampNeg (V17 1 6))))) ((ajV17 45 (24 * b + (Int32.toNatClampNeg (V17 1 6))) rfl).trans ((ajV6 45 (24 * b + (Int32.toNatClampNeg (V17 1 6))) rfl).trans (up2_o hV2 (by decide)))) ?_
                refine lv_ior hx hb dX1_takeTypes_79 ?_
                refine lv_topi (fun z43 ez43 => ?_)
                refine va_put (D := D) (ci := 1) (v := .int z43) (ty := tyX1 7) (fs := (xfReader ad V17 L7 Z)) (C := RX1) (T := TX1) (N := 9) hx hb hg inX1 tyX1 tyX1_ok nmX1 hown hK hP hD hS 1 xgReader rfl 7 (by decide) (hg _ w311) (fun _ h9 => h9) rfl (tyX1_ok 7 (by decide)) rfl rfl (Nat.le_of_ble_eq_true rfl) dX1_takeTypes_80 (fun H locs hP hD hS => ?_)
                obtain ⟨V44, hV44⟩ : ∃ z, z = up2 V17 1 7 z43 := ⟨_, rfl⟩
                have ew45 : (xw ad kk V17 L7 Z).set 1 ((ad 1), .inr (1, (xfReader ad V17 L7 Z).set 7 (.int z43))) = xw ad kk V44 L7 Z := by rw [hV44]; exact xw_ss (by decide) rfl (xb_si (by decide))
                have hP : va_P D vwCl (xw ad kk V44 L7 Z) H := by rw [← ew45]; exact hP
                have hD : va_D A (xw ad kk V44 L7 Z) := by rw [← ew45]; exact hD
                have hMV44 : rgd bX V44 := hMV17.put hV44 (i_full _)
                have agV44 : agr [(1, 3), (1, 6), (1, 7), (6, 8), (6, 9), (6, 10)] [] V V44 := agV17.up hV44 rfl
                refine lv_aload_n hx hb dX1_takeTypes_83 rfl (lv_at hl 2 rfl) ?_
                refine va_get (D := D) (ci := 1) (v := .ref (ad 6)) (fs := (xfReader ad V44 L7 Z)) (C := RX1) (T := TX1) (N := 9) hx hb hg inX1 hown hK hP 1 xgReader rfl 0 (by decide) (hg _ w304) (fun _ h9 => h9) rfl dX1_takeTypes_84 ?_
                have rl46 : RelC V44 L7 b gT s1 := RelC.ag rl22 (show agr [(1, 7)] [] V17 V44 from (agr.up agr.rf hV44 rfl)) (by decide) (show agL [] L7 L7 from agL.rf) (by decide)
                have l847 := RelC.l8 rl46
                have pq48 : (V44 6 8).toInt = ((V6 6 8)).toInt := congrArg Int32.toInt ((up2_o hV44 (by decide)).trans (ajV17 6 8 rfl))
                have r49 : 0 ≤ ((V6 6 8)).toInt ∧ ((V6 6 8)).toInt ≤ 4000 := hMV6 6 8
                have pq50 : (V44 6 7).toInt = ((V 6 7)).toInt := congrArg Int32.toInt ((up2_o hV44 (by decide)).trans ((ajV17 6 7 rfl).trans ((ajV6 6 7 rfl).trans (up2_o hV2 (by decide)))))
                have r51 : 0 ≤ ((V 6 7)).toInt ∧ ((V 6 7)).toInt ≤ 4000 := hMV 6 7
                have pq52 : (V44 6 9).toInt = ((V6 6 9)).toInt := congrArg Int32.toInt ((up2_o hV44 (by decide)).trans (ajV17 6 9 rfl))
                have lk53 := RelC.lk rl46 (show (V44 6 9).toInt ≠ 0 from by omega)
                refine gA_void (gA_runV (As := []) (rest := []) (ci := 9) (q0 := 6) hx hb hml hown hg hP hD hK hS hA hnw hgk (x_next2 l D ks H.size ad kk V44 L7 Z  hMV44 (show (V44 6 8).toInt ≤ (V44 6 7).toInt from by omega)) w871 w852 w853 w157 w854 rfl xgTape hdV_yX9_next ⟨Nat.le_of_ble_eq_true rfl, Nat.le_of_ble_eq_true rfl⟩ rfl hl.1 rfl (Nat.le_of_ble_eq_true rfl) dX1_takeTypes_87 ⟨Nat.le_of_ble_eq_true rfl, Nat.le_of_ble_eq_true rfl⟩) hP hD hK hS hA (fun u55 H locs w56 hP hD hK hS => ?_)
                obtain ⟨V59, L60⟩ := u55
                obtain ⟨hMV59, ajV59, axL60, t57, t58⟩ := w56
                have alL60 : agL [6] L L60 := agL.tr alL7 axL60 (by decide)
                have hP : va_P D vwCl (xw ad kk V59 L60 Z) H := hP
                have hD : va_D A (xw ad kk V59 L60 Z) := hD
                have hMV59 : rgd bX V59 := hMV59
                have ajV59 : agr [(6, 8), (6, 9), (6, 10)] [] V44 V59 := ajV59
                have agV59 : agr [(1, 3), (1, 6), (1, 7), (6, 8), (6, 9), (6, 10)] [] V V59 := agV44.tr ajV59 (by decide) (by decide)
                have t57 : (V59 6 8).toInt ≤ (V59 6 7).toInt := t57
                have t58 : CUR V59 L60 (Int32.toNatClampNeg (V44 6 8)) := t58
                have r61 : 0 ≤ ((V59 6 8)).toInt ∧ ((V59 6 8)).toInt ≤ 4000 := hMV59 6 8
                have pq62 : (V59 6 7).toInt = ((V 6 7)).toInt := congrArg Int32.toInt ((ajV59 6 7 rfl).trans ((up2_o hV44 (by decide)).trans ((ajV17 6 7 rfl).trans ((ajV6 6 7 rfl).trans (up2_o hV2 (by decide))))))
                have rl63 : RelC V59 L60 b gT (nx s1 1) := RelC.nx1 rl46 ajV59 (by decide) axL60 (by decide) (by rw [← lk53]; exact t58) (ajV59 1 3 rfl)
                refine lv_aload_n hx hb dX1_takeTypes_90 rfl (lv_at hl 2 rfl) ?_
                refine va_get (D := D) (ci := 1) (v := .ref (ad 6)) (fs := (xfReader ad V59 L60 Z)) (C := RX1) (T := TX1) (N := 9) hx hb hg inX1 hown hK hP 1 xgReader rfl 0 (by decide) (hg _ w304) (fun _ h9 => h9) rfl dX1_takeTypes_91 ?_
                refine va_getN (D := D) (ci := 9) (v := .int (V59 6 9)) (fs := (xfTape ad V59 L60 Z)) (C := RX9) (T := TX9) (N := 12) hx hb hg inX9 hown hK hP 6 xgTape rfl 9 (by decide) (hnw.use 262 n262 rfl) (fun _ h9 => h9) rfl dX1_takeTypes_94 ?_
                refine lv_bipush (v := 44) hx hb dX1_takeTypes_97 (by decide) ?_
                refine lv_icmp_eq (tgt := 104) hx hb dX1_takeTypes_99 (by decide) (fun c64 => ?_) (fun c64 => ?_)
                · skip
                  have f65 : ((V59 6 9)).toInt = 44 := b_eq rfl (by decide) c64
                  refine lv_aload_n hx hb dX1_takeTypes_104 rfl (lv_at hl 2 rfl) ?_
                  refine va_get (D := D) (ci := 1) (v := .ref (ad 6)) (fs := (xfReader ad V59 L60 Z)) (C := RX1) (T := TX1) (N := 9) hx hb hg inX1 hown hK hP 1 xgReader rfl 0 (by decide) (hg _ w304) (fun _ h9 => h9) rfl dX1_takeTypes_105 ?_
                  have kd66 : gT.1 ((nx s1 1).1 0) = ((V59 6 9)).toInt := RelC.kd rl63
                  have hr67 : ∀ k, Rc gT (Crun gs (Itypes 0 [] :: k)) (Crun (nx (nx s1 1) 1) (Itypes (y4.toInt.toNat + 1) (fx20 :: sn) :: k)) := fun k => Rc.go1 (hr37 k) (more_y (y4.toInt.toNat + 1) (fx20 :: sn) (kd66.trans f65))
                  have l868 := RelC.l8 rl63
                  have lk69 := RelC.lk rl63 (show (V59 6 9).toInt ≠ 0 from by omega)
                  refine gA_void (gA_runV (As := []) (rest := []) (ci := 9) (q0 := 6) hx hb hml hown hg hP hD hK hS hA hnw hgk (x_next2 l D ks H.size ad kk V59 L60 Z  hMV59 (show (V59 6 8).toInt ≤ (V59 6 7).toInt from by omega)) w871 w852 w853 w157 w854 rfl xgTape hdV_yX9_next ⟨Nat.le_of_ble_eq_true rfl, Nat.le_of_ble_eq_true rfl⟩ rfl hl.1 rfl (Nat.le_of_ble_eq_true rfl) dX1_takeTypes_108 ⟨Nat.le_of_ble_eq_true rfl, Nat.le_of_ble_eq_true rfl⟩) hP hD hK hS hA (fun u71 H locs w72 hP hD hK hS => ?_)
                  obtain ⟨V75, L76⟩ := u71
                  obtain ⟨hMV75, ajV75, axL76, t73, t74⟩ := w72
                  have alL76 : agL [6] L L76 := agL.tr alL60 axL76 (by decide)
                  have hP : va_P D vwCl (xw ad kk V75 L76 Z) H := hP
                  have hD : va_D A (xw ad kk V75 L76 Z) := hD
                  have hMV75 : rgd bX V75 := hMV75
                  have ajV75 : agr [(6, 8), (6, 9), (6, 10)] [] V59 V75 := ajV75
                  have agV75 : agr [(1, 3), (1, 6), (1, 7), (6, 8), (6, 9), (6, 10)] [] V V75 := agV59.tr ajV75 (by decide) (by decide)
                  have t73 : (V75 6 8).toInt ≤ (V75 6 7).toInt := t73
                  have t74 : CUR V75 L76 (Int32.toNatClampNeg (V59 6 8)) := t74
                  have r77 : 0 ≤ ((V75 6 8)).toInt ∧ ((V75 6 8)).toInt ≤ 4000 := hMV75 6 8
                  have pq78 : (V75 6 7).toInt = ((V 6 7)).toInt := congrArg Int32.toInt ((ajV75 6 7 rfl).trans ((ajV59 6 7 rfl).trans ((up2_o hV44 (by decide)).trans ((ajV17 6 7 rfl).trans ((ajV6 6 7 rfl).trans (up2_o hV2 (by decide)))))))
                  have rl79 : RelC V75 L76 b gT (nx (nx s1 1) 1) := RelC.nx1 rl63 ajV75 (by decide) axL76 (by decide) (by rw [← lk69]; exact t74) (ajV75 1 3 rfl)
                  obtain ⟨z80, ez80⟩ : ∃ y : Int32, y = y4 + 1 := ⟨_, rfl⟩
                  have hz80 : z80.toInt = y4.toInt + 1 := i_add ez80 rfl (by decide) (by omega)
                  refine lv_iinc (v := z80) (lv' := [(2, .int z80), (1, .int z39), (0, .ref (ad 1))]) hx hb dX1_takeTypes_111 hl (k := 1) rfl (by rw [ez80]; rfl) (by decide) rfl (fun ls hl => ?_)
                  refine lv_goto (tgt := 9) hx hb dX1_takeTypes_114 (by decide) ?_
                  have pq81 : (V75 1 1).toInt = ((V 1 1)).toInt := congrArg Int32.toInt ((ajV75 1 1 rfl).trans ((ajV59 1 1 rfl).trans ((up2_k hV44 (by decide)).trans ((ajV17 1 1 rfl).trans ((ajV6 1 1 rfl).trans (up2_k hV2 (by decide)))))))
                  exact ihlp8 z80 z39 V75 L76 H locs ls (by omega) ⟨(nx (nx s1 1) 1), (fx20 :: sn), (by rw [show z80.toInt.toNat = (y4.toInt.toNat + 1) from by omega]; exact hr67), rl79, keepS.le (keepS.tr (keepS.tr (keepS.tr (keepS.rf : keepS gs 0 gs) kq) (keepS.n1 1)) (keepS.n1 1)) (by decide), SEEN.add sq ez38 ez39 hf23 hb24⟩ (show (V75 1 1).toInt = (b : Int) from by omega) (by omega) alL76 (agr.tr (agr.tr (agr.up (agr.tr (agr.tr agr.rf ajV6 (by decide) (by decide)) ajV17 (by decide) (by decide)) hV44 rfl) ajV59 (by decide) (by decide)) ajV75 (by decide) (by decide)) hMV75 hP hD hS (lv_sub hl [0, 1, 2] rfl)
                · skip
                  have f82 : ((V59 6 9)).toInt ≠ 44 := b_neq rfl (by decide) c64
                  refine lv_iconst (v := 1) hx hb dX1_takeTypes_102 (by decide) ?_
                  have kd83 : gT.1 ((nx s1 1).1 0) = ((V59 6 9)).toInt := RelC.kd rl63
                  have hr84 : ∀ k, Rc gT (Crun gs (Itypes 0 [] :: k)) (Crun (nx s1 1) (k)) := fun k => Rc.go1 (hr37 k) (more_n (y4.toInt.toNat + 1) (fx20 :: sn) (fun h9 => f82 (kd83.symm.trans h9)))
                  exact W.zret (v := 1) hx hb hr rfl (fun t ht hW => ⟨⟨1, (V59, L60), rfl, ⟨hMV59, agV59, alL60, (by decide), (Or.inl ⟨rfl, (nx s1 1), hr84, rl63, keepS.le (keepS.tr (keepS.tr (keepS.rf : keepS gs 0 gs) kq) (keepS.n1 1)) (by decide)⟩)⟩, by rw [ht]; exact hP, va_K.moved hW.alike hK, hD⟩, hS.F ht⟩) hS.2.2 dX1_takeTypes_103
              · skip
                have f85 : y4.toInt = 6 := b_eq rfl (by decide) c34
                refine lv_aload_n hx hb dX1_takeTypes_47 rfl (lv_at hl 2 rfl) ?_
                refine lv_iconst (v := 5) hx hb dX1_takeTypes_48 (by decide) ?_
                have r86 : Int32.toInt 5 = 5 := by decide
                refine gA_int (gA_runV (As := [.int 5]) (rest := []) (ci := 1) (q0 := 1) hx hb hml hown hg hP hD hK hS hA hnw hgk (x_wrong2 l D ks H.size ad kk V17 L7 Z 5 hMV17 (by decide)) w867 w869 w6 w162 w870 rfl xgReader hdV_yX1_wrong ⟨Nat.le_of_ble_eq_true rfl, Nat.le_of_ble_eq_true rfl⟩ rfl hl.1 rfl (Nat.le_of_ble_eq_true rfl) dX1_takeTypes_49 ⟨Nat.le_of_ble_eq_true rfl, Nat.le_of_ble_eq_true rfl⟩) hP hD hK hS hA (fun z87 u88 H locs w89 hP hD hK hS => ?_)
                obtain ⟨V92, L93⟩ := u88
                obtain ⟨hMV92, ajV92, axL93, rgz87, t90, t91⟩ := w89
                have axL93 : L7 = L93 := Eq.symm axL93
                subst axL93
                have hP : va_P D vwCl (xw ad kk V92 L7 Z) H := hP
                have hD : va_D A (xw ad kk V92 L7 Z) := hD
                have hMV92 : rgd bX V92 := hMV92
                have ajV92 : agr [(1, 3)] [] V17 V92 := ajV92
                have agV92 : agr [(1, 3), (1, 6), (1, 7), (6, 8), (6, 9), (6, 10)] [] V V92 := agV17.tr ajV92 (by decide) (by decide)
                have rgz87 : 0 ≤ z87.toInt ∧ z87.toInt ≤ 0 := rgz87
                have t90 : 1 ≤ (V92 1 3).toInt := t90
                have t91 : (V92 1 3).toInt = (Int32.toInt 5) + 16 * (V17 6 10).toInt := t91
                have pq94 : (V17 6 10).toInt = ((V6 6 10)).toInt := congrArg Int32.toInt (ajV17 6 10 rfl)
                have r95 : 0 ≤ ((V6 6 10)).toInt ∧ ((V6 6 10)).toInt ≤ 4000 := hMV6 6 10
                have hb96 : ∀ k, Rc gT (Crun gs (Itypes 0 [] :: k)) (Cbad (V92 1 3).toInt) := fun k => Rc.go1 (hq k) ((ty_5 h21 (SEEN.no sq ez30 ez31 hf23 hb24 (by omega)) (by omega)).trans (fl_eq (RelC.st rl22) (show (V92 1 3).toInt = 5 + 16 * (V17 6 10).toInt from by omega)))
                exact W.zret (v := z87) hx hb hr (nb_ok (by omega)) (fun t ht hW => ⟨⟨z87, (V92, L7), rfl, ⟨hMV92, agV92, alL7, (show 0 ≤ z87.toInt ∧ z87.toInt ≤ 1 from by omega), (Or.inr ⟨(by omega), hb96⟩)⟩, by rw [ht]; exact hP, va_K.moved hW.alike hK, hD⟩, hS.F ht⟩) hS.2.2 dX1_takeTypes_52
            · skip
              have f97 : z31.toInt ≠ 0 := b_neq rfl (by decide) c32
              refine lv_aload_n hx hb dX1_takeTypes_35 rfl (lv_at hl 2 rfl) ?_
              refine lv_iconst (v := 3) hx hb dX1_takeTypes_36 (by decide) ?_
              have r98 : Int32.toInt 3 = 3 := by decide
              refine gA_int (gA_runV (As := [.int 3]) (rest := []) (ci := 1) (q0 := 1) hx hb hml hown hg hP hD hK hS hA hnw hgk (x_wrong2 l D ks H.size ad kk V17 L7 Z 3 hMV17 (by decide)) w867 w869 w6 w162 w870 rfl xgReader hdV_yX1_wrong ⟨Nat.le_of_ble_eq_true rfl, Nat.le_of_ble_eq_true rfl⟩ rfl hl.1 rfl (Nat.le_of_ble_eq_true rfl) dX1_takeTypes_37 ⟨Nat.le_of_ble_eq_true rfl, Nat.le_of_ble_eq_true rfl⟩) hP hD hK hS hA (fun z99 u100 H locs w101 hP hD hK hS => ?_)
              obtain ⟨V104, L105⟩ := u100
              obtain ⟨hMV104, ajV104, axL105, rgz99, t102, t103⟩ := w101
              have axL105 : L7 = L105 := Eq.symm axL105
              subst axL105
              have hP : va_P D vwCl (xw ad kk V104 L7 Z) H := hP
              have hD : va_D A (xw ad kk V104 L7 Z) := hD
              have hMV104 : rgd bX V104 := hMV104
              have ajV104 : agr [(1, 3)] [] V17 V104 := ajV104
              have agV104 : agr [(1, 3), (1, 6), (1, 7), (6, 8), (6, 9), (6, 10)] [] V V104 := agV17.tr ajV104 (by decide) (by decide)
              have rgz99 : 0 ≤ z99.toInt ∧ z99.toInt ≤ 0 := rgz99
              have t102 : 1 ≤ (V104 1 3).toInt := t102
              have t103 : (V104 1 3).toInt = (Int32.toInt 3) + 16 * (V17 6 10).toInt := t103
              have pq106 : (V17 6 10).toInt = ((V6 6 10)).toInt := congrArg Int32.toInt (ajV17 6 10 rfl)
              have r107 : 0 ≤ ((V6 6 10)).toInt ∧ ((V6 6 10)).toInt ≤ 4000 := hMV6 6 10
              have hb108 : ∀ k, Rc gT (Crun gs (Itypes 0 [] :: k)) (Cbad (V104 1 3).toInt) := fun k => Rc.go1 (hq k) ((ty_3 h21 (SEEN.yes sq ez30 ez31 hf23 hb24 (by omega))).trans (fl_eq (RelC.st rl22) (show (V104 1 3).toInt = 3 + 16 * (V17 6 10).toInt from by omega)))
              exact W.zret (v := z99) hx hb hr (nb_ok (by omega)) (fun t ht hW => ⟨⟨z99, (V104, L7), rfl, ⟨hMV104, agV104, alL7, (show 0 ≤ z99.toInt ∧ z99.toInt ≤ 1 from by omega), (Or.inr ⟨(by omega), hb108⟩)⟩, by rw [ht]; exact hP, va_K.moved hW.alike hK, hD⟩, hS.F ht⟩) hS.2.2 dX1_takeTypes_40
          · skip
            have f109 : z13.toInt = 0 := b_eq rfl (by decide) c27
            exfalso; omega
        · skip
          have hb110 : ∀ k, Rc gT (Crun gs (Itypes 0 [] :: k)) (Cbad (V17 1 3).toInt) := fun k => Rc.go1 (hq k) (ty_b h21)
          refine lv_if_ne (tgt := 24) hx hb dX1_takeTypes_19 (by decide) (fun c111 => ?_) (fun c111 => ?_)
          · skip
            have f112 : z13.toInt ≠ 0 := b_neq rfl (by decide) c111
            exfalso; omega
          · skip
            have f113 : z13.toInt = 0 := b_eq rfl (by decide) c111
            refine lv_iconst (v := 0) hx hb dX1_takeTypes_22 (by decide) ?_
            exact W.zret (v := 0) hx hb hr rfl (fun t ht hW => ⟨⟨0, (V17, L7), rfl, ⟨hMV17, agV17, alL7, (by decide), (Or.inr ⟨rfl, hb110⟩)⟩, by rw [ht]; exact hP, va_K.moved hW.alike hK, hD⟩, hS.F ht⟩) hS.2.2 dX1_takeTypes_23
  have r114 : Int32.toInt 0 = 0 := by decide
  have pq115 : (V2 1 1).toInt = ((V 1 1)).toInt := congrArg Int32.toInt (up2_k hV2 (by decide))
  have rl116 : RelC V2 L b gT gs := RelC.ag rel (show agr [(1, 7)] [] V V2 from (agr.up agr.rf hV2 rfl)) (by decide) (show agL [] L L from agL.rf) (by decide)
  exact lp8 ((7 - (Int32.toInt 0) + 1 : Int).toNat) 0 0 V2 L H locs ls (by decide) ⟨gs, [], (by rw [show (Int32.toInt 0).toNat = 0 from by decide]; exact fun k => Rc.rf), rl116, keepS.rf, SEEN.z⟩ (show (V2 1 1).toInt = (b : Int) from by omega) (by omega) alL agr.rf hMV2 hP hD hS (lv_sub hl [0, 1, 2] rfl)
abbrev r_x_putAlone3 : Room := { frames := 1, cells := 0, slots := 0, locals := 21 }
abbrev q_x_putAlone3 (D : va_G) (ks : KS) (ad : Nat → Nat) (kk : Nat → ClassId) (V : Vf) (L : Lf) (Z : XZ) (p0 : Int32) (b : Nat) (A : Nat → Prop) : Array Value → State → Outcome → State → Prop := va_Qi (fun (r : Int32) (u : Vf × Lf) => rgd bX u.1 ∧ agr [] [42, 48] V u.1 ∧ u.2 = L ∧ (1 ≤ r.toInt ∧ r.toInt ≤ 1)) (fun u t => gq D A (xw ad kk u.1 u.2 Z) (xty kk Z) t) A
set_option maxHeartbeats 4000000 in
set_option maxRecDepth 100000 in
theorem x_putAlone3 (l : Launch) (D : va_G) (ks : KS) (sz : Nat) (ad : Nat → Nat) (kk : Nat → ClassId) (V : Vf) (L : Lf) (Z : XZ) (p0 : Int32) (b : Nat) (hMV : rgd bX V) (hb2 : b < 2) (rbk : (V 1 1).toInt = (b : Int))  : Met l yX1_putAlone (Cond.code yX1_putAlone cX1_putAlone 2 (some .boolean) :: GW) r_x_putAlone3 (va_Pc [.ref (ad 1), .int p0] (gp D ks (xw ad kk V L Z) (xty kk Z) sz)) (q_x_putAlone3 D ks ad kk V L Z p0 b (va_A (xw ad kk V L Z) sz)) 0 0 (va_A (xw ad kk V L Z) sz) := by
  refine g_met (q_x_putAlone3 D ks ad kk V L Z p0 b) (by decide) (Nat.le_of_ble_eq_true rfl) ?_
  intro p e s m below meth c A ls H locs hx hb hr hml hown hg hlocks hin hnw hgk hP hK hD hS hA hl
  have hown : s.vm.findClass RX1 = some m.cls := hown
  have hl : lv_has ls 2 [(0, .ref (ad 1)), (1, .int p0)] := hl
  have hP : va_P D vwCl (xw ad kk V L Z) H := hP
  have hD : va_D A (xw ad kk V L Z) := hD
  have hK : va_K D vwCl (xty kk Z) s := hK
  have agV : agr [] [42, 48] V V := agr.rf
  have r1 : (-1) ≤ ((V 1 1)).toInt ∧ ((V 1 1)).toInt ≤ 1 := hMV 1 1
  refine lv_aload_n hx hb dX1_putAlone_0 rfl (lv_at hl 0 rfl) ?_
  refine va_get (D := D) (ci := 1) (v := rfN ad 38 (V 1 1)) (fs := (xfReader ad V L Z)) (C := RX1) (T := TX1) (N := 9) hx hb hg inX1 hown hK hP 1 xgReader rfl 1 (by decide) (hg _ w305) (fun _ h9 => h9) rfl dX1_putAlone_1 ?_
  refine g_topv (v := .ref (ad (38 + b))) (rfN_r (by omega)) ?_
  refine lv_iload_n hx hb dX1_putAlone_4 rfl (lv_at hl 1 rfl) ?_
  refine gA_void (gA_runV (As := [.int p0]) (rest := []) (ci := 0) (q0 := (38 + b)) hx hb hml hown hg hP hD hK hS hA hnw hgk (x_emit l D ks H.size ad kk V L Z p0 (b) hMV (show b < 2 from by omega)) w971 w972 w973 w167 w974 rfl (xgBook hb2) hdV_yX0_emit ⟨Nat.le_of_ble_eq_true rfl, Nat.le_of_ble_eq_true rfl⟩ rfl hl.1 rfl (Nat.le_of_ble_eq_true rfl) dX1_putAlone_5 ⟨Nat.le_of_ble_eq_true rfl, Nat.le_of_ble_eq_true rfl⟩) hP hD hK hS hA (fun u3 H locs w4 hP hD hK hS => ?_)
  obtain ⟨V6, L7⟩ := u3
  obtain ⟨hMV6, ajV6, axL7, fyV6, t5⟩ := w4
  have axL7 : L = L7 := Eq.symm axL7
  subst axL7
  have hP : va_P D vwCl (xw ad kk V6 L Z) H := hP
  have hD : va_D A (xw ad kk V6 L Z) := hD
  have hMV6 : rgd bX V6 := hMV6
  have ajV6 : agr [] [42, 48] V V6 := ajV6
  have agV6 : agr [] [42, 48] V V6 := agV.tr ajV6 (by decide) (by decide)
  have t5 : emX V V6 b p0 := t5
  refine lv_iconst (v := 1) hx hb dX1_putAlone_8 (by decide) ?_
  exact W.zret (v := 1) hx hb hr rfl (fun t ht hW => ⟨⟨1, (V6, L), rfl, ⟨hMV6, agV6, rfl, (by decide)⟩, by rw [ht]; exact hP, va_K.moved hW.alike hK, hD⟩, hS.F ht⟩) hS.2.2 dX1_putAlone_9
abbrev r_x_put3 : Room := { frames := 1, cells := 0, slots := 0, locals := 21 }
abbrev q_x_put3 (D : va_G) (ks : KS) (ad : Nat → Nat) (kk : Nat → ClassId) (V : Vf) (L : Lf) (Z : XZ) (p0 : Int32) (p1 : Int32) (b : Nat) (A : Nat → Prop) : Array Value → State → Outcome → State → Prop := va_Qi (fun (r : Int32) (u : Vf × Lf) => rgd bX u.1 ∧ agr [] [42, 48] V u.1 ∧ u.2 = L ∧ (1 ≤ r.toInt ∧ r.toInt ≤ 1)) (fun u t => gq D A (xw ad kk u.1 u.2 Z) (xty kk Z) t) A
set_option maxHeartbeats 4000000 in
set_option maxRecDepth 100000 in
theorem x_put3 (l : Launch) (D : va_G) (ks : KS) (sz : Nat) (ad : Nat → Nat) (kk : Nat → ClassId) (V : Vf) (L : Lf) (Z : XZ) (p0 : Int32) (p1 : Int32) (b : Nat) (hMV : rgd bX V) (hb2 : b < 2) (rbk : (V 1 1).toInt = (b : Int))  : Met l yX1_put (Cond.code yX1_put cX1_put 3 (some .boolean) :: GW) r_x_put3 (va_Pc [.ref (ad 1), .int p0, .int p1] (gp D ks (xw ad kk V L Z) (xty kk Z) sz)) (q_x_put3 D ks ad kk V L Z p0 p1 b (va_A (xw ad kk V L Z) sz)) 0 0 (va_A (xw ad kk V L Z) sz) := by
  refine g_met (q_x_put3 D ks ad kk V L Z p0 p1 b) (by decide) (Nat.le_of_ble_eq_true rfl) ?_
  intro p e s m below meth c A ls H locs hx hb hr hml hown hg hlocks hin hnw hgk hP hK hD hS hA hl
  have hown : s.vm.findClass RX1 = some m.cls := hown
  have hl : lv_has ls 3 [(0, .ref (ad 1)), (1, .int p0), (2, .int p1)] := hl
  have hP : va_P D vwCl (xw ad kk V L Z) H := hP
  have hD : va_D A (xw ad kk V L Z) := hD
  have hK : va_K D vwCl (xty kk Z) s := hK
  have agV : agr [] [42, 48] V V := agr.rf
  have r1 : (-1) ≤ ((V 1 1)).toInt ∧ ((V 1 1)).toInt ≤ 1 := hMV 1 1
  refine lv_aload_n hx hb dX1_put_0 rfl (lv_at hl 0 rfl) ?_
  refine va_get (D := D) (ci := 1) (v := rfN ad 38 (V 1 1)) (fs := (xfReader ad V L Z)) (C := RX1) (T := TX1) (N := 9) hx hb hg inX1 hown hK hP 1 xgReader rfl 1 (by decide) (hg _ w305) (fun _ h9 => h9) rfl dX1_put_1 ?_
  refine g_topv (v := .ref (ad (38 + b))) (rfN_r (by omega)) ?_
  refine lv_iload_n hx hb dX1_put_4 rfl (lv_at hl 1 rfl) ?_
  refine gA_void (gA_runV (As := [.int p0]) (rest := []) (ci := 0) (q0 := (38 + b)) hx hb hml hown hg hP hD hK hS hA hnw hgk (x_emit l D ks H.size ad kk V L Z p0 (b) hMV (show b < 2 from by omega)) w971 w972 w973 w167 w974 rfl (xgBook hb2) hdV_yX0_emit ⟨Nat.le_of_ble_eq_true rfl, Nat.le_of_ble_eq_true rfl⟩ rfl hl.1 rfl (Nat.le_of_ble_eq_true rfl) dX1_put_5 ⟨Nat.le_of_ble_eq_true rfl, Nat.le_of_ble_eq_true rfl⟩) hP hD hK hS hA (fun u3 H locs w4 hP hD hK hS => ?_)
  obtain ⟨V6, L7⟩ := u3
  obtain ⟨hMV6, ajV6, axL7, fyV6, t5⟩ := w4
  have axL7 : L = L7 := Eq.symm axL7
  subst axL7
  have hP : va_P D vwCl (xw ad kk V6 L Z) H := hP
  have hD : va_D A (xw ad kk V6 L Z) := hD
  have hMV6 : rgd bX V6 := hMV6
  have ajV6 : agr [] [42, 48] V V6 := ajV6
  have agV6 : agr [] [42, 48] V V6 := agV.tr ajV6 (by decide) (by decide)
  have t5 : emX V V6 b p0 := t5
  refine lv_aload_n hx hb dX1_put_8 rfl (lv_at hl 0 rfl) ?_
  refine va_get (D := D) (ci := 1) (v := rfN ad 38 (V6 1 1)) (fs := (xfReader ad V6 L Z)) (C := RX1) (T := TX1) (N := 9) hx hb hg inX1 hown hK hP 1 xgReader rfl 1 (by decide) (hg _ w305) (fun _ h9 => h9) rfl dX1_put_9 ?_
  have pq8 : (V6 1 1).toInt = ((V 1 1)).toInt := congrArg Int32.toInt (ajV6 1 1 rfl)
  refine g_topv (v := .ref (ad (38 + b))) (rfN_r (by omega)) ?_
  refine lv_iload_n hx hb dX1_put_12 rfl (lv_at hl 2 rfl) ?_
  refine gA_void (gA_runV (As := [.int p1]) (rest := []) (ci := 0) (q0 := (38 + b)) hx hb hml hown hg hP hD hK hS hA hnw hgk (x_emit l D ks H.size ad kk V6 L Z p1 (b) hMV6 (show b < 2 from by omega)) w971 w972 w973 w167 w974 rfl (xgBook hb2) hdV_yX0_emit ⟨Nat.le_of_ble_eq_true rfl, Nat.le_of_ble_eq_true rfl⟩ rfl hl.1 rfl (Nat.le_of_ble_eq_true rfl) dX1_put_13 ⟨Nat.le_of_ble_eq_true rfl, Nat.le_of_ble_eq_true rfl⟩) hP hD hK hS hA (fun u10 H locs w11 hP hD hK hS => ?_)
  obtain ⟨V13, L14⟩ := u10
  obtain ⟨hMV13, ajV13, axL14, fyV13, t12⟩ := w11
  have axL14 : L = L14 := Eq.symm axL14
  subst axL14
  have hP : va_P D vwCl (xw ad kk V13 L Z) H := hP
  have hD : va_D A (xw ad kk V13 L Z) := hD
  have hMV13 : rgd bX V13 := hMV13
  have ajV13 : agr [] [42, 48] V6 V13 := ajV13
  have agV13 : agr [] [42, 48] V V13 := agV6.tr ajV13 (by decide) (by decide)
  have t12 : emX V6 V13 b p1 := t12
  refine lv_iconst (v := 1) hx hb dX1_put_16 (by decide) ?_
  exact W.zret (v := 1) hx hb hr rfl (fun t ht hW => ⟨⟨1, (V13, L), rfl, ⟨hMV13, agV13, rfl, (by decide)⟩, by rw [ht]; exact hP, va_K.moved hW.alike hK, hD⟩, hS.F ht⟩) hS.2.2 dX1_put_17
abbrev r_x_beginsPart3 : Room := { frames := 0, cells := 0, slots := 0, locals := 0 }
abbrev q_x_beginsPart3 (D : va_G) (ks : KS) (ad : Nat → Nat) (kk : Nat → ClassId) (V : Vf) (L : Lf) (Z : XZ) (b : Nat) (gT : Tk) (gs : St) (A : Nat → Prop) : Array Value → State → Outcome → State → Prop := va_Qi (fun (r : Int32) (_ : Unit) => (0 ≤ r.toInt ∧ r.toInt ≤ 1) ∧ ((r.toInt = 1 ∧ bgP gT gs) ∨ (r.toInt = 0 ∧ ¬ bgP gT gs))) (fun _ t => gq D A (xw ad kk V L Z) (xty kk Z) t) A
set_option maxHeartbeats 4000000 in
set_option maxRecDepth 100000 in
theorem x_beginsPart3 (l : Launch) (D : va_G) (ks : KS) (sz : Nat) (ad : Nat → Nat) (kk : Nat → ClassId) (V : Vf) (L : Lf) (Z : XZ) (b : Nat) (gT : Tk) (gs : St) (hMV : rgd bX V) (hb2 : b < 2) (rbk : (V 1 1).toInt = (b : Int)) (rel : RelC V L b gT gs) (wh : (V 1 4).toInt = ((gs.1 4 : Nat) : Int))  : Met l yX1_beginsPart (Cond.code yX1_beginsPart cX1_beginsPart 1 (some .boolean) :: GW) r_x_beginsPart3 (va_Pc [.ref (ad 1)] (gp D ks (xw ad kk V L Z) (xty kk Z) sz)) (q_x_beginsPart3 D ks ad kk V L Z  b gT gs (va_A (xw ad kk V L Z) sz)) 0 0 (va_A (xw ad kk V L Z) sz) := by
  refine g_met (q_x_beginsPart3 D ks ad kk V L Z  b gT gs) (by decide) (Nat.le_of_ble_eq_true rfl) ?_
  intro p e s m below meth c A ls H locs hx hb hr hml hown hg hlocks hin hnw hgk hP hK hD hS hA hl
  have hown : s.vm.findClass RX1 = some m.cls := hown
  have hl : lv_has ls 1 [(0, .ref (ad 1))] := hl
  have hP : va_P D vwCl (xw ad kk V L Z) H := hP
  have hD : va_D A (xw ad kk V L Z) := hD
  have hK : va_K D vwCl (xty kk Z) s := hK
  have r1 : (-1) ≤ ((V 1 1)).toInt ∧ ((V 1 1)).toInt ≤ 1 := hMV 1 1
  refine lv_aload_n hx hb dX1_beginsPart_0 rfl (lv_at hl 0 rfl) ?_
  refine va_get (D := D) (ci := 1) (v := .ref (ad 6)) (fs := (xfReader ad V L Z)) (C := RX1) (T := TX1) (N := 9) hx hb hg inX1 hown hK hP 1 xgReader rfl 0 (by decide) (hg _ w304) (fun _ h9 => h9) rfl dX1_beginsPart_1 ?_
  refine va_getN (D := D) (ci := 9) (v := .int (V 6 9)) (fs := (xfTape ad V L Z)) (C := RX9) (T := TX9) (N := 12) hx hb hg inX9 hown hK hP 6 xgTape rfl 9 (by decide) (hnw.use 262 n262 rfl) (fun _ h9 => h9) rfl dX1_beginsPart_4 ?_
  by_cases q2 : (V 6 9) = 2
  · refine g_top (v := 2) q2 ?_
    have fq2 : ((V 6 9)).toInt = 2 := b_eq rfl (by decide) q2
    refine lv_lookup (x := 2) (off := 81) (tgt := 88) hx hb dX1_beginsPart_7 (by decide) (by decide) (by decide) ?_
    refine lv_iconst (v := 1) hx hb dX1_beginsPart_88 (by decide) ?_
    have kd3 : gT.1 (gs.1 0) = ((V 6 9)).toInt := RelC.kd rel
    have r4 : 0 ≤ ((V 1 4)).toInt ∧ ((V 1 4)).toInt ≤ 2 := hMV 1 4
    exact W.zret (v := 1) hx hb hr rfl (fun t ht hW => ⟨⟨1, (), rfl, ⟨(by decide), (Or.inl ⟨rfl, Or.inl (kd3.trans fq2)⟩)⟩, by rw [ht]; exact hP, va_K.moved hW.alike hK, hD⟩, hS.F ht⟩) hS.2.2 dX1_beginsPart_89
  have gq2 : ((V 6 9)).toInt ≠ 2 := b_neq rfl (by decide) q2
  by_cases q5 : (V 6 9) = 40
  · refine g_top (v := 40) q5 ?_
    have fq5 : ((V 6 9)).toInt = 40 := b_eq rfl (by decide) q5
    refine lv_lookup (x := 40) (off := 81) (tgt := 88) hx hb dX1_beginsPart_7 (by decide) (by decide) (by decide) ?_
    refine lv_iconst (v := 1) hx hb dX1_beginsPart_88 (by decide) ?_
    have kd6 : gT.1 (gs.1 0) = ((V 6 9)).toInt := RelC.kd rel
    have r7 : 0 ≤ ((V 1 4)).toInt ∧ ((V 1 4)).toInt ≤ 2 := hMV 1 4
    exact W.zret (v := 1) hx hb hr rfl (fun t ht hW => ⟨⟨1, (), rfl, ⟨(by decide), (Or.inl ⟨rfl, Or.inr (Or.inr (Or.inl (kd6.trans fq5)))⟩)⟩, by rw [ht]; exact hP, va_K.moved hW.alike hK, hD⟩, hS.F ht⟩) hS.2.2 dX1_beginsPart_89
  have gq5 : ((V 6 9)).toInt ≠ 40 := b_neq rfl (by decide) q5
  by_cases q8 : (V 6 9) = 45
  · refine g_top (v := 45) q8 ?_
    have fq8 : ((V 6 9)).toInt = 45 := b_eq rfl (by decide) q8
    refine lv_lookup (x := 45) (off := 81) (tgt := 88) hx hb dX1_beginsPart_7 (by decide) (by decide) (by decide) ?_
    refine lv_iconst (v := 1) hx hb dX1_beginsPart_88 (by decide) ?_
    have kd9 : gT.1 (gs.1 0) = ((V 6 9)).toInt := RelC.kd rel
    have r10 : 0 ≤ ((V 1 4)).toInt ∧ ((V 1 4)).toInt ≤ 2 := hMV 1 4
    exact W.zret (v := 1) hx hb hr rfl (fun t ht hW => ⟨⟨1, (), rfl, ⟨(by decide), (Or.inl ⟨rfl, Or.inr (Or.inr (Or.inr (Or.inl (kd9.trans fq8))))⟩)⟩, by rw [ht]; exact hP, va_K.moved hW.alike hK, hD⟩, hS.F ht⟩) hS.2.2 dX1_beginsPart_89
  have gq8 : ((V 6 9)).toInt ≠ 45 := b_neq rfl (by decide) q8
  by_cases q11 : (V 6 9) = 130
  · refine g_top (v := 130) q11 ?_
    have fq11 : ((V 6 9)).toInt = 130 := b_eq rfl (by decide) q11
    refine lv_lookup (x := 130) (off := 81) (tgt := 88) hx hb dX1_beginsPart_7 (by decide) (by decide) (by decide) ?_
    refine lv_iconst (v := 1) hx hb dX1_beginsPart_88 (by decide) ?_
    have kd12 : gT.1 (gs.1 0) = ((V 6 9)).toInt := RelC.kd rel
    have r13 : 0 ≤ ((V 1 4)).toInt ∧ ((V 1 4)).toInt ≤ 2 := hMV 1 4
    exact W.zret (v := 1) hx hb hr rfl (fun t ht hW => ⟨⟨1, (), rfl, ⟨(by decide), (Or.inl ⟨rfl, Or.inr (Or.inr (Or.inr (Or.inr (Or.inr (Or.inl (kd12.trans fq11))))))⟩)⟩, by rw [ht]; exact hP, va_K.moved hW.alike hK, hD⟩, hS.F ht⟩) hS.2.2 dX1_beginsPart_89
  have gq11 : ((V 6 9)).toInt ≠ 130 := b_neq rfl (by decide) q11
  by_cases q14 : (V 6 9) = 143
  · refine g_top (v := 143) q14 ?_
    have fq14 : ((V 6 9)).toInt = 143 := b_eq rfl (by decide) q14
    refine lv_lookup (x := 143) (off := 81) (tgt := 88) hx hb dX1_beginsPart_7 (by decide) (by decide) (by decide) ?_
    refine lv_iconst (v := 1) hx hb dX1_beginsPart_88 (by decide) ?_
    have kd15 : gT.1 (gs.1 0) = ((V 6 9)).toInt := RelC.kd rel
    have r16 : 0 ≤ ((V 1 4)).toInt ∧ ((V 1 4)).toInt ≤ 2 := hMV 1 4
    exact W.zret (v := 1) hx hb hr rfl (fun t ht hW => ⟨⟨1, (), rfl, ⟨(by decide), (Or.inl ⟨rfl, Or.inr (Or.inl (kd15.trans fq14))⟩)⟩, by rw [ht]; exact hP, va_K.moved hW.alike hK, hD⟩, hS.F ht⟩) hS.2.2 dX1_beginsPart_89
  have gq14 : ((V 6 9)).toInt ≠ 143 := b_neq rfl (by decide) q14
  by_cases q17 : (V 6 9) = 144
  · refine g_top (v := 144) q17 ?_
    have fq17 : ((V 6 9)).toInt = 144 := b_eq rfl (by decide) q17
    refine lv_lookup (x := 144) (off := 81) (tgt := 88) hx hb dX1_beginsPart_7 (by decide) (by decide) (by decide) ?_
    refine lv_iconst (v := 1) hx hb dX1_beginsPart_88 (by decide) ?_
    have kd18 : gT.1 (gs.1 0) = ((V 6 9)).toInt := RelC.kd rel
    have r19 : 0 ≤ ((V 1 4)).toInt ∧ ((V 1 4)).toInt ≤ 2 := hMV 1 4
    exact W.zret (v := 1) hx hb hr rfl (fun t ht hW => ⟨⟨1, (), rfl, ⟨(by decide), (Or.inl ⟨rfl, Or.inr (Or.inr (Or.inr (Or.inr (Or.inl (kd18.trans fq17)))))⟩)⟩, by rw [ht]; exact hP, va_K.moved hW.alike hK, hD⟩, hS.F ht⟩) hS.2.2 dX1_beginsPart_89
  have gq17 : ((V 6 9)).toInt ≠ 144 := b_neq rfl (by decide) q17
  by_cases q20 : (V 6 9) = 145
  · refine g_top (v := 145) q20 ?_
    have fq20 : ((V 6 9)).toInt = 145 := b_eq rfl (by decide) q20
    refine lv_lookup (x := 145) (off := 81) (tgt := 88) hx hb dX1_beginsPart_7 (by decide) (by decide) (by decide) ?_
    refine lv_iconst (v := 1) hx hb dX1_beginsPart_88 (by decide) ?_
    have kd21 : gT.1 (gs.1 0) = ((V 6 9)).toInt := RelC.kd rel
    have r22 : 0 ≤ ((V 1 4)).toInt ∧ ((V 1 4)).toInt ≤ 2 := hMV 1 4
    exact W.zret (v := 1) hx hb hr rfl (fun t ht hW => ⟨⟨1, (), rfl, ⟨(by decide), (Or.inl ⟨rfl, Or.inr (Or.inr (Or.inr (Or.inr (Or.inr (Or.inr (Or.inl (kd21.trans fq20)))))))⟩)⟩, by rw [ht]; exact hP, va_K.moved hW.alike hK, hD⟩, hS.F ht⟩) hS.2.2 dX1_beginsPart_89
  have gq20 : ((V 6 9)).toInt ≠ 145 := b_neq rfl (by decide) q20
  by_cases q23 : (V 6 9) = 146
  · refine g_top (v := 146) q23 ?_
    have fq23 : ((V 6 9)).toInt = 146 := b_eq rfl (by decide) q23
    refine lv_lookup (x := 146) (off := 83) (tgt := 90) hx hb dX1_beginsPart_7 (by decide) (by decide) (by decide) ?_
    refine lv_aload_n hx hb dX1_beginsPart_90 rfl (lv_at hl 0 rfl) ?_
    refine va_get (D := D) (ci := 1) (v := .int (V 1 4)) (fs := (xfReader ad V L Z)) (C := RX1) (T := TX1) (N := 9) hx hb hg inX1 hown hK hP 1 xgReader rfl 4 (by decide) (hg _ w308) (fun _ h9 => h9) rfl dX1_beginsPart_91 ?_
    have r24 : 0 ≤ ((V 1 4)).toInt ∧ ((V 1 4)).toInt ≤ 2 := hMV 1 4
    refine lv_if_ne (tgt := 101) hx hb dX1_beginsPart_94 (by decide) (fun c25 => ?_) (fun c25 => ?_)
    · skip
      have f26 : ((V 1 4)).toInt ≠ 0 := b_neq rfl (by decide) c25
      refine lv_iconst (v := 0) hx hb dX1_beginsPart_101 (by decide) ?_
      have kd27 : gT.1 (gs.1 0) = ((V 6 9)).toInt := RelC.kd rel
      exact W.zret (v := 0) hx hb hr rfl (fun t ht hW => ⟨⟨0, (), rfl, ⟨(by decide), (Or.inr ⟨rfl, fun h9 => by have h8 := kd27.trans fq23; unfold bgP at h9; omega⟩)⟩, by rw [ht]; exact hP, va_K.moved hW.alike hK, hD⟩, hS.F ht⟩) hS.2.2 dX1_beginsPart_102
    · skip
      have f28 : ((V 1 4)).toInt = 0 := b_eq rfl (by decide) c25
      refine lv_iconst (v := 1) hx hb dX1_beginsPart_97 (by decide) ?_
      refine lv_goto (tgt := 102) hx hb dX1_beginsPart_98 (by decide) ?_
      have kd29 : gT.1 (gs.1 0) = ((V 6 9)).toInt := RelC.kd rel
      exact W.zret (v := 1) hx hb hr rfl (fun t ht hW => ⟨⟨1, (), rfl, ⟨(by decide), (Or.inl ⟨rfl, by have h9 := kd29.trans fq23; unfold bgP; omega⟩)⟩, by rw [ht]; exact hP, va_K.moved hW.alike hK, hD⟩, hS.F ht⟩) hS.2.2 dX1_beginsPart_102
  have gq23 : ((V 6 9)).toInt ≠ 146 := b_neq rfl (by decide) q23
  by_cases q30 : (V 6 9) = 147
  · refine g_top (v := 147) q30 ?_
    have fq30 : ((V 6 9)).toInt = 147 := b_eq rfl (by decide) q30
    refine lv_lookup (x := 147) (off := 96) (tgt := 103) hx hb dX1_beginsPart_7 (by decide) (by decide) (by decide) ?_
    refine lv_aload_n hx hb dX1_beginsPart_103 rfl (lv_at hl 0 rfl) ?_
    refine va_get (D := D) (ci := 1) (v := .int (V 1 4)) (fs := (xfReader ad V L Z)) (C := RX1) (T := TX1) (N := 9) hx hb hg inX1 hown hK hP 1 xgReader rfl 4 (by decide) (hg _ w308) (fun _ h9 => h9) rfl dX1_beginsPart_104 ?_
    have r31 : 0 ≤ ((V 1 4)).toInt ∧ ((V 1 4)).toInt ≤ 2 := hMV 1 4
    refine lv_iconst (v := 2) hx hb dX1_beginsPart_107 (by decide) ?_
    refine lv_icmp_ne (tgt := 115) hx hb dX1_beginsPart_108 (by decide) (fun c32 => ?_) (fun c32 => ?_)
    · skip
      have f33 : ((V 1 4)).toInt ≠ 2 := b_neq rfl (by decide) c32
      refine lv_iconst (v := 0) hx hb dX1_beginsPart_115 (by decide) ?_
      have kd34 : gT.1 (gs.1 0) = ((V 6 9)).toInt := RelC.kd rel
      exact W.zret (v := 0) hx hb hr rfl (fun t ht hW => ⟨⟨0, (), rfl, ⟨(by decide), (Or.inr ⟨rfl, fun h9 => by have h8 := kd34.trans fq30; unfold bgP at h9; omega⟩)⟩, by rw [ht]; exact hP, va_K.moved hW.alike hK, hD⟩, hS.F ht⟩) hS.2.2 dX1_beginsPart_116
    · skip
      have f35 : ((V 1 4)).toInt = 2 := b_eq rfl (by decide) c32
      refine lv_iconst (v := 1) hx hb dX1_beginsPart_111 (by decide) ?_
      refine lv_goto (tgt := 116) hx hb dX1_beginsPart_112 (by decide) ?_
      have kd36 : gT.1 (gs.1 0) = ((V 6 9)).toInt := RelC.kd rel
      exact W.zret (v := 1) hx hb hr rfl (fun t ht hW => ⟨⟨1, (), rfl, ⟨(by decide), (Or.inl ⟨rfl, by have h9 := kd36.trans fq30; unfold bgP; omega⟩)⟩, by rw [ht]; exact hP, va_K.moved hW.alike hK, hD⟩, hS.F ht⟩) hS.2.2 dX1_beginsPart_116
  have gq30 : ((V 6 9)).toInt ≠ 147 := b_neq rfl (by decide) q30
  refine lv_lookup (x := (V 6 9)) (off := 110) (tgt := 117) hx hb dX1_beginsPart_7 (by decide) ((lv_osw q2 (by decide)).trans ((lv_osw q5 (by decide)).trans ((lv_osw q8 (by decide)).trans ((lv_osw q11 (by decide)).trans ((lv_osw q14 (by decide)).trans ((lv_osw q17 (by decide)).trans ((lv_osw q20 (by decide)).trans ((lv_osw q23 (by decide)).trans ((lv_osw q30 (by decide)).trans rfl))))))))) (by decide) ?_
  refine lv_iconst (v := 0) hx hb dX1_beginsPart_117 (by decide) ?_
  have kd37 : gT.1 (gs.1 0) = ((V 6 9)).toInt := RelC.kd rel
  have r38 : 0 ≤ ((V 1 4)).toInt ∧ ((V 1 4)).toInt ≤ 2 := hMV 1 4
  exact W.zret (v := 0) hx hb hr rfl (fun t ht hW => ⟨⟨0, (), rfl, ⟨(by decide), (Or.inr ⟨rfl, fun h9 => by unfold bgP at h9; omega⟩)⟩, by rw [ht]; exact hP, va_K.moved hW.alike hK, hD⟩, hS.F ht⟩) hS.2.2 dX1_beginsPart_118
abbrev q_x_readExpression3 (D : va_G) (ks : KS) (ad : Nat → Nat) (kk : Nat → ClassId) (V : Vf) (L : Lf) (Z : XZ) (p0 : Int32) (b : Nat) (gT : Tk) (gs : St) (gd : Nat) (A : Nat → Prop) : Array Value → State → Outcome → State → Prop := va_Qi (fun (r : Int32) (u : Vf × Lf) => rgd bX u.1 ∧ agr [(1, 3), (1, 6), (1, 8), (6, 8), (6, 9), (6, 10)] [42, 43, 44, 48] V u.1 ∧ agL [6, 44] L u.2 ∧ (0 ≤ r.toInt ∧ r.toInt ≤ 1) ∧ (Rd gT gs (fun k => Iexpr gd :: k) (fun k => k) r.toInt (u.1 1 3).toInt (fun s9 => RelC u.1 u.2 b gT s9 ∧ keepS gs 1 s9))) (fun u t => gq D A (xw ad kk u.1 u.2 Z) (xty kk Z) t) A
def K_x_readExpression3 (l : Launch) (D : va_G) (ks : KS) (dd : Nat) : Prop := ∀ (sz : Nat) (ad : Nat → Nat) (kk : Nat → ClassId) (V : Vf) (L : Lf) (Z : XZ) (p0 : Int32) (b : Nat) (gT : Tk) (gs : St) (gd : Nat) (hMV : rgd bX V) (rg_p0 : 0 ≤ p0.toInt ∧ p0.toInt ≤ 8) (hb2 : b < 2) (rbk : (V 1 1).toInt = (b : Int)) (rel : RelC V L b gT gs) (yd : p0.toInt = (gd : Int)) (wh : (V 1 4).toInt = ((gs.1 4 : Nat) : Int)) (ow : ((V 1 4).toInt = 0 → 0 ≤ (V 1 2).toInt)) (y1 : 8 - p0.toInt ≤ (dd : Int)) , Met l yX1_readExpression (Cond.code yX1_readExpression cX1_readExpression 3 (some .boolean) :: GW) (rK 9 240 dd) (va_Pc [.ref (ad 1), .int p0] (gp D ks (xw ad kk V L Z) (xty kk Z) sz)) (q_x_readExpression3 D ks ad kk V L Z p0 b gT gs gd (va_A (xw ad kk V L Z) sz)) 0 0 (va_A (xw ad kk V L Z) sz)
abbrev q_x_readSum3 (D : va_G) (ks : KS) (ad : Nat → Nat) (kk : Nat → ClassId) (V : Vf) (L : Lf) (Z : XZ) (p0 : Int32) (b : Nat) (gT : Tk) (gs : St) (gd : Nat) (A : Nat → Prop) : Array Value → State → Outcome → State → Prop := va_Qi (fun (r : Int32) (u : Vf × Lf) => rgd bX u.1 ∧ agr [(1, 3), (1, 6), (1, 8), (6, 8), (6, 9), (6, 10)] [42, 43, 44, 48] V u.1 ∧ agL [6, 44] L u.2 ∧ (0 ≤ r.toInt ∧ r.toInt ≤ 1) ∧ (Rd gT gs (fun k => Isum gd :: k) (fun k => k) r.toInt (u.1 1 3).toInt (fun s9 => RelC u.1 u.2 b gT s9 ∧ keepS gs 1 s9))) (fun u t => gq D A (xw ad kk u.1 u.2 Z) (xty kk Z) t) A
def K_x_readSum3 (l : Launch) (D : va_G) (ks : KS) (dd : Nat) : Prop := ∀ (sz : Nat) (ad : Nat → Nat) (kk : Nat → ClassId) (V : Vf) (L : Lf) (Z : XZ) (p0 : Int32) (b : Nat) (gT : Tk) (gs : St) (gd : Nat) (hMV : rgd bX V) (rg_p0 : 0 ≤ p0.toInt ∧ p0.toInt ≤ 8) (hb2 : b < 2) (rbk : (V 1 1).toInt = (b : Int)) (rel : RelC V L b gT gs) (yd : p0.toInt = (gd : Int)) (wh : (V 1 4).toInt = ((gs.1 4 : Nat) : Int)) (ow : ((V 1 4).toInt = 0 → 0 ≤ (V 1 2).toInt)) (y1 : 8 - p0.toInt ≤ (dd : Int)) , Met l yX1_readSum (Cond.code yX1_readSum cX1_readSum 4 (some .boolean) :: GW) (rK 8 210 dd) (va_Pc [.ref (ad 1), .int p0] (gp D ks (xw ad kk V L Z) (xty kk Z) sz)) (q_x_readSum3 D ks ad kk V L Z p0 b gT gs gd (va_A (xw ad kk V L Z) sz)) 0 0 (va_A (xw ad kk V L Z) sz)
abbrev q_x_readProduct3 (D : va_G) (ks : KS) (ad : Nat → Nat) (kk : Nat → ClassId) (V : Vf) (L : Lf) (Z : XZ) (p0 : Int32) (b : Nat) (gT : Tk) (gs : St) (gd : Nat) (A : Nat → Prop) : Array Value → State → Outcome → State → Prop := va_Qi (fun (r : Int32) (u : Vf × Lf) => rgd bX u.1 ∧ agr [(1, 3), (1, 6), (1, 8), (6, 8), (6, 9), (6, 10)] [42, 43, 44, 48] V u.1 ∧ agL [6, 44] L u.2 ∧ (0 ≤ r.toInt ∧ r.toInt ≤ 1) ∧ (Rd gT gs (fun k => Iprod gd :: k) (fun k => k) r.toInt (u.1 1 3).toInt (fun s9 => RelC u.1 u.2 b gT s9 ∧ keepS gs 1 s9))) (fun u t => gq D A (xw ad kk u.1 u.2 Z) (xty kk Z) t) A
def K_x_readProduct3 (l : Launch) (D : va_G) (ks : KS) (dd : Nat) : Prop := ∀ (sz : Nat) (ad : Nat → Nat) (kk : Nat → ClassId) (V : Vf) (L : Lf) (Z : XZ) (p0 : Int32) (b : Nat) (gT : Tk) (gs : St) (gd : Nat) (hMV : rgd bX V) (rg_p0 : 0 ≤ p0.toInt ∧ p0.toInt ≤ 8) (hb2 : b < 2) (rbk : (V 1 1).toInt = (b : Int)) (rel : RelC V L b gT gs) (yd : p0.toInt = (gd : Int)) (wh : (V 1 4).toInt = ((gs.1 4 : Nat) : Int)) (ow : ((V 1 4).toInt = 0 → 0 ≤ (V 1 2).toInt)) (y1 : 8 - p0.toInt ≤ (dd : Int)) , Met l yX1_readProduct (Cond.code yX1_readProduct cX1_readProduct 3 (some .boolean) :: GW) (rK 7 180 dd) (va_Pc [.ref (ad 1), .int p0] (gp D ks (xw ad kk V L Z) (xty kk Z) sz)) (q_x_readProduct3 D ks ad kk V L Z p0 b gT gs gd (va_A (xw ad kk V L Z) sz)) 0 0 (va_A (xw ad kk V L Z) sz)
abbrev q_x_readPart3 (D : va_G) (ks : KS) (ad : Nat → Nat) (kk : Nat → ClassId) (V : Vf) (L : Lf) (Z : XZ) (p0 : Int32) (b : Nat) (gT : Tk) (gs : St) (gd : Nat) (A : Nat → Prop) : Array Value → State → Outcome → State → Prop := va_Qi (fun (r : Int32) (u : Vf × Lf) => rgd bX u.1 ∧ agr [(1, 3), (1, 6), (1, 8), (6, 8), (6, 9), (6, 10)] [42, 43, 44, 48] V u.1 ∧ agL [6, 44] L u.2 ∧ (0 ≤ r.toInt ∧ r.toInt ≤ 1) ∧ (Rd gT gs (fun k => Ipart gd :: k) (fun k => k) r.toInt (u.1 1 3).toInt (fun s9 => RelC u.1 u.2 b gT s9 ∧ keepS gs 1 s9))) (fun u t => gq D A (xw ad kk u.1 u.2 Z) (xty kk Z) t) A
def K_x_readPart3 (l : Launch) (D : va_G) (ks : KS) (dd : Nat) : Prop := ∀ (sz : Nat) (ad : Nat → Nat) (kk : Nat → ClassId) (V : Vf) (L : Lf) (Z : XZ) (p0 : Int32) (b : Nat) (gT : Tk) (gs : St) (gd : Nat) (hMV : rgd bX V) (rg_p0 : 0 ≤ p0.toInt ∧ p0.toInt ≤ 8) (hb2 : b < 2) (rbk : (V 1 1).toInt = (b : Int)) (rel : RelC V L b gT gs) (yd : p0.toInt = (gd : Int)) (wh : (V 1 4).toInt = ((gs.1 4 : Nat) : Int)) (ow : ((V 1 4).toInt = 0 → 0 ≤ (V 1 2).toInt)) (y1 : 8 - p0.toInt ≤ (dd : Int)) , Met l yX1_readPart (Cond.code yX1_readPart cX1_readPart 5 (some .boolean) :: GW) (rK 6 150 dd) (va_Pc [.ref (ad 1), .int p0] (gp D ks (xw ad kk V L Z) (xty kk Z) sz)) (q_x_readPart3 D ks ad kk V L Z p0 b gT gs gd (va_A (xw ad kk V L Z) sz)) 0 0 (va_A (xw ad kk V L Z) sz)
abbrev q_x_readWithin3 (D : va_G) (ks : KS) (ad : Nat → Nat) (kk : Nat → ClassId) (V : Vf) (L : Lf) (Z : XZ) (p0 : Int32) (b : Nat) (gT : Tk) (gs : St) (gd : Nat) (A : Nat → Prop) : Array Value → State → Outcome → State → Prop := va_Qi (fun (r : Int32) (u : Vf × Lf) => rgd bX u.1 ∧ agr [(1, 3), (1, 6), (1, 8), (6, 8), (6, 9), (6, 10)] [42, 43, 44, 48] V u.1 ∧ agL [6, 44] L u.2 ∧ (0 ≤ r.toInt ∧ r.toInt ≤ 1) ∧ (Rd gT gs (fun k => Itake 40 :: Iexpr (gd + 1) :: Itake 41 :: k) (fun k => k) r.toInt (u.1 1 3).toInt (fun s9 => RelC u.1 u.2 b gT s9 ∧ keepS gs 1 s9))) (fun u t => gq D A (xw ad kk u.1 u.2 Z) (xty kk Z) t) A
def K_x_readWithin3 (l : Launch) (D : va_G) (ks : KS) (dd : Nat) : Prop := ∀ (sz : Nat) (ad : Nat → Nat) (kk : Nat → ClassId) (V : Vf) (L : Lf) (Z : XZ) (p0 : Int32) (b : Nat) (gT : Tk) (gs : St) (gd : Nat) (hMV : rgd bX V) (rg_p0 : 0 ≤ p0.toInt ∧ p0.toInt ≤ 7) (hb2 : b < 2) (rbk : (V 1 1).toInt = (b : Int)) (rel : RelC V L b gT gs) (yd : p0.toInt = (gd : Int)) (wh : (V 1 4).toInt = ((gs.1 4 : Nat) : Int)) (ow : ((V 1 4).toInt = 0 → 0 ≤ (V 1 2).toInt)) (y1 : 7 - p0.toInt ≤ (dd : Int)) , Met l yX1_readWithin (Cond.code yX1_readWithin cX1_readWithin 2 (some .boolean) :: GW) (rK 10 265 dd) (va_Pc [.ref (ad 1), .int p0] (gp D ks (xw ad kk V L Z) (xty kk Z) sz)) (q_x_readWithin3 D ks ad kk V L Z p0 b gT gs gd (va_A (xw ad kk V L Z) sz)) 0 0 (va_A (xw ad kk V L Z) sz)
abbrev q_x_readPick3 (D : va_G) (ks : KS) (ad : Nat → Nat) (kk : Nat → ClassId) (V : Vf) (L : Lf) (Z : XZ) (p0 : Int32) (b : Nat) (gT : Tk) (gs : St) (gd : Nat) (A : Nat → Prop) : Array Value → State → Outcome → State → Prop := va_Qi (fun (r : Int32) (u : Vf × Lf) => rgd bX u.1 ∧ agr [(1, 3), (1, 6), (1, 8), (6, 8), (6, 9), (6, 10)] [42, 43, 44, 48] V u.1 ∧ agL [6, 44] L u.2 ∧ (0 ≤ r.toInt ∧ r.toInt ≤ 1) ∧ (Rd gT gs (fun k => Itake 40 :: Iexpr (gd + 1) :: Itake 44 :: Iexpr (gd + 1) :: Itake 44 :: Iexpr (gd + 1) :: Itake 41 :: k) (fun k => k) r.toInt (u.1 1 3).toInt (fun s9 => RelC u.1 u.2 b gT s9 ∧ keepS gs 1 s9))) (fun u t => gq D A (xw ad kk u.1 u.2 Z) (xty kk Z) t) A
def K_x_readPick3 (l : Launch) (D : va_G) (ks : KS) (dd : Nat) : Prop := ∀ (sz : Nat) (ad : Nat → Nat) (kk : Nat → ClassId) (V : Vf) (L : Lf) (Z : XZ) (p0 : Int32) (b : Nat) (gT : Tk) (gs : St) (gd : Nat) (hMV : rgd bX V) (rg_p0 : 0 ≤ p0.toInt ∧ p0.toInt ≤ 7) (hb2 : b < 2) (rbk : (V 1 1).toInt = (b : Int)) (rel : RelC V L b gT gs) (yd : p0.toInt = (gd : Int)) (wh : (V 1 4).toInt = ((gs.1 4 : Nat) : Int)) (ow : ((V 1 4).toInt = 0 → 0 ≤ (V 1 2).toInt)) (y1 : 7 - p0.toInt ≤ (dd : Int)) , Met l yX1_readPick (Cond.code yX1_readPick cX1_readPick 4 (some .boolean) :: GW) (rK 10 265 dd) (va_Pc [.ref (ad 1), .int p0] (gp D ks (xw ad kk V L Z) (xty kk Z) sz)) (q_x_readPick3 D ks ad kk V L Z p0 b gT gs gd (va_A (xw ad kk V L Z) sz)) 0 0 (va_A (xw ad kk V L Z) sz)
abbrev q_x_readOf3 (D : va_G) (ks : KS) (ad : Nat → Nat) (kk : Nat → ClassId) (V : Vf) (L : Lf) (Z : XZ) (p0 : Int32) (b : Nat) (gT : Tk) (gs : St) (gd : Nat) (A : Nat → Prop) : Array Value → State → Outcome → State → Prop := va_Qi (fun (r : Int32) (u : Vf × Lf) => rgd bX u.1 ∧ agr [(1, 3), (1, 6), (1, 8), (6, 8), (6, 9), (6, 10)] [42, 43, 44, 48] V u.1 ∧ agL [6, 44] L u.2 ∧ (0 ≤ r.toInt ∧ r.toInt ≤ 1) ∧ (Rd gT gs (fun k => Inum 0 (((gs.1 1 : Nat) : Int) - 1) :: Itake 46 :: Imeth :: Itake 40 :: Iexpr (gd + 1) :: Itake 41 :: k) (fun k => k) r.toInt (u.1 1 3).toInt (fun s9 => RelC u.1 u.2 b gT s9 ∧ keepS gs 1 s9))) (fun u t => gq D A (xw ad kk u.1 u.2 Z) (xty kk Z) t) A
def K_x_readOf3 (l : Launch) (D : va_G) (ks : KS) (dd : Nat) : Prop := ∀ (sz : Nat) (ad : Nat → Nat) (kk : Nat → ClassId) (V : Vf) (L : Lf) (Z : XZ) (p0 : Int32) (b : Nat) (gT : Tk) (gs : St) (gd : Nat) (hMV : rgd bX V) (rg_p0 : 0 ≤ p0.toInt ∧ p0.toInt ≤ 7) (hb2 : b < 2) (rbk : (V 1 1).toInt = (b : Int)) (rel : RelC V L b gT gs) (yd : p0.toInt = (gd : Int)) (wh : (V 1 4).toInt = ((gs.1 4 : Nat) : Int)) (ow : ((V 1 4).toInt = 0 → 0 ≤ (V 1 2).toInt)) (y1 : 7 - p0.toInt ≤ (dd : Int)) (owz : 0 ≤ (V 1 2).toInt) , Met l yX1_readOf (Cond.code yX1_readOf cX1_readOf 4 (some .boolean) :: GW) (rK 11 290 dd) (va_Pc [.ref (ad 1), .int p0] (gp D ks (xw ad kk V L Z) (xty kk Z) sz)) (q_x_readOf3 D ks ad kk V L Z p0 b gT gs gd (va_A (xw ad kk V L Z) sz)) 0 0 (va_A (xw ad kk V L Z) sz)
set_option maxHeartbeats 4000000 in
set_option maxRecDepth 100000 in
theorem x_readExpression3 {l : Launch} {D : va_G} {ks : KS} {dd : Nat} (hk_x_readSum3 : K_x_readSum3 l D ks dd) : K_x_readExpression3 l D ks dd := by
  intro sz ad kk V L Z p0 b gT gs gd hMV rg_p0 hb2 rbk rel yd wh ow y1
  refine g_met (q_x_readExpression3 D ks ad kk V L Z p0 b gT gs gd) (by decide) (Nat.le_of_ble_eq_true rfl) ?_
  intro p e s m below meth c A ls H locs hx hb hr hml hown hg hlocks hin hnw hgk hP hK hD hS hA hl
  have hown : s.vm.findClass RX1 = some m.cls := hown
  have hl : lv_has ls 3 [(0, .ref (ad 1)), (1, .int p0)] := hl
  have hP : va_P D vwCl (xw ad kk V L Z) H := hP
  have hD : va_D A (xw ad kk V L Z) := hD
  have hK : va_K D vwCl (xty kk Z) s := hK
  have agV : agr [(1, 3), (1, 6), (1, 8), (6, 8), (6, 9), (6, 10)] [42, 43, 44, 48] V V := agr.rf
  have alL : agL [6, 44] L L := agL.rf
  have rf_p0 := i_full p0
  have r1 : (-1) ≤ ((V 1 1)).toInt ∧ ((V 1 1)).toInt ≤ 1 := hMV 1 1
  refine lv_aload_n hx hb dX1_readExpression_0 rfl (lv_at hl 0 rfl) ?_
  refine lv_iload_n hx hb dX1_readExpression_1 rfl (lv_at hl 1 rfl) ?_
  have hr2 : ∀ k, Rc gT (Crun gs (Iexpr gd :: k)) (Crun gs (Iexpr gd :: k)) := fun k => Rc.rf
  have hr3 : ∀ k, Rc gT (Crun gs (Iexpr gd :: k)) (Crun gs (Isum gd :: Icmp gd :: k)) := fun k => Rc.go1 (hr2 k) (m_expr gd)
  refine gA_int (gA_runV (As := [.int p0]) (rest := []) (ci := 1) (q0 := 1) hx hb hml hown hg hP hD hK hS hA hnw hgk (hk_x_readSum3 H.size ad kk V L Z p0 (b) (gT) (gs) (gd) hMV (by omega) (show b < 2 from by omega) (show (V 1 1).toInt = (b : Int) from by omega) rel (show p0.toInt = (gd : Int) from by omega) wh (fun h9 => by exact ow (h9)) (show 8 - p0.toInt ≤ (dd : Int) from by omega)) w955 w957 w22 w162 w958 rfl xgReader hdV_yX1_readSum ⟨(by show 10 * dd + 8 + 1 ≤ 10 * dd + 9; omega), (by show 8 + (4 + 11) + (300 * dd + 210) ≤ 300 * dd + 240; omega)⟩ rfl hl.1 rfl (Nat.le_of_ble_eq_true rfl) dX1_readExpression_2 ⟨Nat.le_of_ble_eq_true rfl, Nat.le_of_ble_eq_true rfl⟩) hP hD hK hS hA (fun z4 u5 H locs w6 hP hD hK hS => ?_)
  obtain ⟨V8, L9⟩ := u5
  obtain ⟨hMV8, ajV8, axL9, rgz4, t7⟩ := w6
  have alL9 : agL [6, 44] L L9 := agL.tr alL axL9 (by decide)
  have hP : va_P D vwCl (xw ad kk V8 L9 Z) H := hP
  have hD : va_D A (xw ad kk V8 L9 Z) := hD
  have hMV8 : rgd bX V8 := hMV8
  have ajV8 : agr [(1, 3), (1, 6), (1, 8), (6, 8), (6, 9), (6, 10)] [42, 43, 44, 48] V V8 := ajV8
  have agV8 : agr [(1, 3), (1, 6), (1, 8), (6, 8), (6, 9), (6, 10)] [42, 43, 44, 48] V V8 := agV.tr ajV8 (by decide) (by decide)
  have rgz4 : 0 ≤ z4.toInt ∧ z4.toInt ≤ 1 := rgz4
  have t7 : Rd gT gs (fun k => Isum gd :: k) (fun k => k) z4.toInt (V8 1 3).toInt (fun s9 => RelC V8 L9 b gT s9 ∧ keepS gs 1 s9) := t7
  rcases t7 with ⟨q10, sx11, h12, rl13, kp14⟩ | ⟨q10, h12⟩
  · skip
    have hr15 : ∀ k, Rc gT (Crun gs (Iexpr gd :: k)) (Crun sx11 (Icmp gd :: k)) := fun k => (hr3 k).tr (h12 (Icmp gd :: k))
    refine lv_if_ne (tgt := 10) hx hb dX1_readExpression_5 (by decide) (fun c16 => ?_) (fun c16 => ?_)
    · skip
      have f17 : z4.toInt ≠ 0 := b_neq rfl (by decide) c16
      refine lv_aload_n hx hb dX1_readExpression_10 rfl (lv_at hl 0 rfl) ?_
      refine va_get (D := D) (ci := 1) (v := .ref (ad 6)) (fs := (xfReader ad V8 L9 Z)) (C := RX1) (T := TX1) (N := 9) hx hb hg inX1 hown hK hP 1 xgReader rfl 0 (by decide) (hg _ w304) (fun _ h9 => h9) rfl dX1_readExpression_11 ?_
      refine va_getN (D := D) (ci := 9) (v := .int (V8 6 9)) (fs := (xfTape ad V8 L9 Z)) (C := RX9) (T := TX9) (N := 12) hx hb hg inX9 hown hK hP 6 xgTape rfl 9 (by decide) (hnw.use 262 n262 rfl) (fun _ h9 => h9) rfl dX1_readExpression_14 ?_
      refine lv_istore_n (lv' := [(2, .int (V8 6 9)), (0, .ref (ad 1)), (1, .int p0)]) hx hb dX1_readExpression_17 rfl hl (by decide) rfl (fun ls hl => ?_)
      refine lv_iload_n hx hb dX1_readExpression_18 rfl (lv_at hl 0 rfl) ?_
      refine lv_bipush (v := 60) hx hb dX1_readExpression_19 (by decide) ?_
      refine lv_icmp_eq (tgt := 32) hx hb dX1_readExpression_21 (by decide) (fun c18 => ?_) (fun c18 => ?_)
      · skip
        have f19 : ((V8 6 9)).toInt = 60 := b_eq rfl (by decide) c18
        refine lv_aload_n hx hb dX1_readExpression_32 rfl (lv_at hl 1 rfl) ?_
        refine va_get (D := D) (ci := 1) (v := .ref (ad 6)) (fs := (xfReader ad V8 L9 Z)) (C := RX1) (T := TX1) (N := 9) hx hb hg inX1 hown hK hP 1 xgReader rfl 0 (by decide) (hg _ w304) (fun _ h9 => h9) rfl dX1_readExpression_33 ?_
        have kd20 : gT.1 (sx11.1 0) = ((V8 6 9)).toInt := RelC.kd rl13
        have hr21 : ∀ k, Rc gT (Crun gs (Iexpr gd :: k)) (Crun (nx sx11 1) (Isum gd :: k)) := fun k => Rc.go1 (hr15 k) (cmp_y gd (Or.inl (kd20.trans f19)))
        have l822 := RelC.l8 rl13
        have r23 : 0 ≤ ((V8 6 8)).toInt ∧ ((V8 6 8)).toInt ≤ 4000 := hMV8 6 8
        have pq24 : (V8 6 7).toInt = ((V 6 7)).toInt := congrArg Int32.toInt (ajV8 6 7 rfl)
        have r25 : 0 ≤ ((V 6 7)).toInt ∧ ((V 6 7)).toInt ≤ 4000 := hMV 6 7
        have lk26 := RelC.lk rl13 (show (V8 6 9).toInt ≠ 0 from by omega)
        refine gA_void (gA_runV (As := []) (rest := []) (ci := 9) (q0 := 6) hx hb hml hown hg hP hD hK hS hA hnw hgk (x_next2 l D ks H.size ad kk V8 L9 Z  hMV8 (show (V8 6 8).toInt ≤ (V8 6 7).toInt from by omega)) w871 w852 w853 w157 w854 rfl xgTape hdV_yX9_next ⟨(by show 0 + 1 ≤ 10 * dd + 9; omega), (by show 8 + (1 + 11) + (0) ≤ 300 * dd + 240; omega)⟩ rfl hl.1 rfl (Nat.le_of_ble_eq_true rfl) dX1_readExpression_36 ⟨Nat.le_of_ble_eq_true rfl, Nat.le_of_ble_eq_true rfl⟩) hP hD hK hS hA (fun u28 H locs w29 hP hD hK hS => ?_)
        obtain ⟨V32, L33⟩ := u28
        obtain ⟨hMV32, ajV32, axL33, t30, t31⟩ := w29
        have alL33 : agL [6, 44] L L33 := agL.tr alL9 axL33 (by decide)
        have hP : va_P D vwCl (xw ad kk V32 L33 Z) H := hP
        have hD : va_D A (xw ad kk V32 L33 Z) := hD
        have hMV32 : rgd bX V32 := hMV32
        have ajV32 : agr [(6, 8), (6, 9), (6, 10)] [] V8 V32 := ajV32
        have agV32 : agr [(1, 3), (1, 6), (1, 8), (6, 8), (6, 9), (6, 10)] [42, 43, 44, 48] V V32 := agV8.tr ajV32 (by decide) (by decide)
        have t30 : (V32 6 8).toInt ≤ (V32 6 7).toInt := t30
        have t31 : CUR V32 L33 (Int32.toNatClampNeg (V8 6 8)) := t31
        have r34 : 0 ≤ ((V32 6 8)).toInt ∧ ((V32 6 8)).toInt ≤ 4000 := hMV32 6 8
        have pq35 : (V32 6 7).toInt = ((V 6 7)).toInt := congrArg Int32.toInt ((ajV32 6 7 rfl).trans (ajV8 6 7 rfl))
        have rl36 : RelC V32 L33 b gT (nx sx11 1) := RelC.nx1 rl13 ajV32 (by decide) axL33 (by decide) (by rw [← lk26]; exact t31) (ajV32 1 3 rfl)
        refine lv_aload_n hx hb dX1_readExpression_39 rfl (lv_at hl 1 rfl) ?_
        refine lv_iload_n hx hb dX1_readExpression_40 rfl (lv_at hl 2 rfl) ?_
        have pq37 : (V32 1 1).toInt = ((V 1 1)).toInt := congrArg Int32.toInt ((ajV32 1 1 rfl).trans (ajV8 1 1 rfl))
        refine gA_int (gA_runV (As := [.int p0]) (rest := []) (ci := 1) (q0 := 1) hx hb hml hown hg hP hD hK hS hA hnw hgk (hk_x_readSum3 H.size ad kk V32 L33 Z p0 (b) (gT) ((nx sx11 1)) (gd) hMV32 (by omega) (show b < 2 from by omega) (show (V32 1 1).toInt = (b : Int) from by omega) rl36 (show p0.toInt = (gd : Int) from by omega) (((congrArg Int32.toInt ((ajV32 1 4 rfl).trans (ajV8 1 4 rfl))).trans wh).trans (congrArg (fun n9 : Nat => (n9 : Int)) (((keepS.tr (keepS.tr (keepS.rf : keepS gs 0 gs) kp14) (keepS.n1 1))).2.1 4 (by decide)).symm)) (fun h9 => by rw [((ajV32 1 2 rfl).trans (ajV8 1 2 rfl))]; exact ow ((congrArg Int32.toInt ((ajV32 1 4 rfl).trans (ajV8 1 4 rfl))).symm.trans h9)) (show 8 - p0.toInt ≤ (dd : Int) from by omega)) w955 w957 w22 w162 w958 rfl xgReader hdV_yX1_readSum ⟨(by show 10 * dd + 8 + 1 ≤ 10 * dd + 9; omega), (by show 8 + (4 + 11) + (300 * dd + 210) ≤ 300 * dd + 240; omega)⟩ rfl hl.1 rfl (Nat.le_of_ble_eq_true rfl) dX1_readExpression_41 ⟨Nat.le_of_ble_eq_true rfl, Nat.le_of_ble_eq_true rfl⟩) hP hD hK hS hA (fun z38 u39 H locs w40 hP hD hK hS => ?_)
        obtain ⟨V42, L43⟩ := u39
        obtain ⟨hMV42, ajV42, axL43, rgz38, t41⟩ := w40
        have alL43 : agL [6, 44] L L43 := agL.tr alL33 axL43 (by decide)
        have hP : va_P D vwCl (xw ad kk V42 L43 Z) H := hP
        have hD : va_D A (xw ad kk V42 L43 Z) := hD
        have hMV42 : rgd bX V42 := hMV42
        have ajV42 : agr [(1, 3), (1, 6), (1, 8), (6, 8), (6, 9), (6, 10)] [42, 43, 44, 48] V32 V42 := ajV42
        have agV42 : agr [(1, 3), (1, 6), (1, 8), (6, 8), (6, 9), (6, 10)] [42, 43, 44, 48] V V42 := agV32.tr ajV42 (by decide) (by decide)
        have rgz38 : 0 ≤ z38.toInt ∧ z38.toInt ≤ 1 := rgz38
        have t41 : Rd gT (nx sx11 1) (fun k => Isum gd :: k) (fun k => k) z38.toInt (V42 1 3).toInt (fun s9 => RelC V42 L43 b gT s9 ∧ keepS (nx sx11 1) 1 s9) := t41
        rcases t41 with ⟨q44, sx45, h46, rl47, kp48⟩ | ⟨q44, h46⟩
        · skip
          have hr49 : ∀ k, Rc gT (Crun gs (Iexpr gd :: k)) (Crun sx45 (k)) := fun k => (hr21 k).tr (h46 (k))
          refine lv_if_ne (tgt := 49) hx hb dX1_readExpression_44 (by decide) (fun c50 => ?_) (fun c50 => ?_)
          · skip
            have f51 : z38.toInt ≠ 0 := b_neq rfl (by decide) c50
            refine lv_aload_n hx hb dX1_readExpression_49 rfl (lv_at hl 1 rfl) ?_
            refine va_get (D := D) (ci := 1) (v := rfN ad 38 (V42 1 1)) (fs := (xfReader ad V42 L43 Z)) (C := RX1) (T := TX1) (N := 9) hx hb hg inX1 hown hK hP 1 xgReader rfl 1 (by decide) (hg _ w305) (fun _ h9 => h9) rfl dX1_readExpression_50 ?_
            have pq52 : (V42 1 1).toInt = ((V 1 1)).toInt := congrArg Int32.toInt ((ajV42 1 1 rfl).trans ((ajV32 1 1 rfl).trans (ajV8 1 1 rfl)))
            refine g_topv (v := .ref (ad (38 + b))) (rfN_r (by omega)) ?_
            refine lv_iload_n hx hb dX1_readExpression_53 rfl (lv_at hl 0 rfl) ?_
            refine lv_bipush (v := 60) hx hb dX1_readExpression_54 (by decide) ?_
            refine lv_icmp_ne (tgt := 64) hx hb dX1_readExpression_56 (by decide) (fun c53 => ?_) (fun c53 => ?_)
            · skip
              have f54 : ((V8 6 9)).toInt ≠ 60 := b_neq rfl (by decide) c53
              exfalso; omega
            · skip
              have f55 : ((V8 6 9)).toInt = 60 := b_eq rfl (by decide) c53
              refine lv_bipush (v := 8) hx hb dX1_readExpression_59 (by decide) ?_
              refine lv_goto (tgt := 66) hx hb dX1_readExpression_61 (by decide) ?_
              have r56 : Int32.toInt 8 = 8 := by decide
              refine gA_void (gA_runV (As := [.int 8]) (rest := []) (ci := 0) (q0 := (38 + b)) hx hb hml hown hg hP hD hK hS hA hnw hgk (x_emit l D ks H.size ad kk V42 L43 Z 8 (b) hMV42 (show b < 2 from by omega)) w971 w972 w973 w167 w974 rfl (xgBook hb2) hdV_yX0_emit ⟨(by show 0 + 1 ≤ 10 * dd + 9; omega), (by show 8 + (2 + 11) + (0) ≤ 300 * dd + 240; omega)⟩ rfl hl.1 rfl (Nat.le_of_ble_eq_true rfl) dX1_readExpression_66 ⟨Nat.le_of_ble_eq_true rfl, Nat.le_of_ble_eq_true rfl⟩) hP hD hK hS hA (fun u58 H locs w59 hP hD hK hS => ?_)
              obtain ⟨V61, L62⟩ := u58
              obtain ⟨hMV61, ajV61, axL62, fyV61, t60⟩ := w59
              have axL62 : L43 = L62 := Eq.symm axL62
              subst axL62
              have hP : va_P D vwCl (xw ad kk V61 L43 Z) H := hP
              have hD : va_D A (xw ad kk V61 L43 Z) := hD
              have hMV61 : rgd bX V61 := hMV61
              have ajV61 : agr [] [42, 48] V42 V61 := ajV61
              have agV61 : agr [(1, 3), (1, 6), (1, 8), (6, 8), (6, 9), (6, 10)] [42, 43, 44, 48] V V61 := agV42.tr ajV61 (by decide) (by decide)
              have t60 : emX V42 V61 b 8 := t60
              refine lv_iconst (v := 1) hx hb dX1_readExpression_69 (by decide) ?_
              have rl63 : RelC V61 L43 b gT sx45 := RelC.ag rl47 (show agr [] [42, 48] V42 V61 from (agr.tr agr.rf ajV61 (by decide) (by decide))) (by decide) (show agL [] L43 L43 from agL.rf) (by decide)
              exact W.zret (v := 1) hx hb hr rfl (fun t ht hW => ⟨⟨1, (V61, L43), rfl, ⟨hMV61, agV61, alL43, (by decide), (Or.inl ⟨rfl, sx45, hr49, rl63, keepS.le (keepS.tr (keepS.tr (keepS.tr (keepS.rf : keepS gs 0 gs) kp14) (keepS.n1 1)) kp48) (by decide)⟩)⟩, by rw [ht]; exact hP, va_K.moved hW.alike hK, hD⟩, hS.F ht⟩) hS.2.2 dX1_readExpression_70
          · skip
            have f64 : z38.toInt = 0 := b_eq rfl (by decide) c50
            exfalso; omega
        · skip
          have hb65 : ∀ k, Rc gT (Crun gs (Iexpr gd :: k)) (Cbad (V42 1 3).toInt) := fun k => (hr21 k).tr (h46 (k))
          refine lv_if_ne (tgt := 49) hx hb dX1_readExpression_44 (by decide) (fun c66 => ?_) (fun c66 => ?_)
          · skip
            have f67 : z38.toInt ≠ 0 := b_neq rfl (by decide) c66
            exfalso; omega
          · skip
            have f68 : z38.toInt = 0 := b_eq rfl (by decide) c66
            refine lv_iconst (v := 0) hx hb dX1_readExpression_47 (by decide) ?_
            exact W.zret (v := 0) hx hb hr rfl (fun t ht hW => ⟨⟨0, (V42, L43), rfl, ⟨hMV42, agV42, alL43, (by decide), (Or.inr ⟨rfl, hb65⟩)⟩, by rw [ht]; exact hP, va_K.moved hW.alike hK, hD⟩, hS.F ht⟩) hS.2.2 dX1_readExpression_48
      · skip
        have f69 : ((V8 6 9)).toInt ≠ 60 := b_neq rfl (by decide) c18
        refine lv_iload_n hx hb dX1_readExpression_24 rfl (lv_at hl 0 rfl) ?_
        refine lv_bipush (v := 61) hx hb dX1_readExpression_25 (by decide) ?_
        refine lv_icmp_eq (tgt := 32) hx hb dX1_readExpression_27 (by decide) (fun c70 => ?_) (fun c70 => ?_)
        · skip
          have f71 : ((V8 6 9)).toInt = 61 := b_eq rfl (by decide) c70
          refine lv_aload_n hx hb dX1_readExpression_32 rfl (lv_at hl 1 rfl) ?_
          refine va_get (D := D) (ci := 1) (v := .ref (ad 6)) (fs := (xfReader ad V8 L9 Z)) (C := RX1) (T := TX1) (N := 9) hx hb hg inX1 hown hK hP 1 xgReader rfl 0 (by decide) (hg _ w304) (fun _ h9 => h9) rfl dX1_readExpression_33 ?_
          have kd72 : gT.1 (sx11.1 0) = ((V8 6 9)).toInt := RelC.kd rl13
          have hr73 : ∀ k, Rc gT (Crun gs (Iexpr gd :: k)) (Crun (nx sx11 1) (Isum gd :: k)) := fun k => Rc.go1 (hr15 k) (cmp_y gd (Or.inr (kd72.trans f71)))
          have l874 := RelC.l8 rl13
          have r75 : 0 ≤ ((V8 6 8)).toInt ∧ ((V8 6 8)).toInt ≤ 4000 := hMV8 6 8
          have pq76 : (V8 6 7).toInt = ((V 6 7)).toInt := congrArg Int32.toInt (ajV8 6 7 rfl)
          have r77 : 0 ≤ ((V 6 7)).toInt ∧ ((V 6 7)).toInt ≤ 4000 := hMV 6 7
          have lk78 := RelC.lk rl13 (show (V8 6 9).toInt ≠ 0 from by omega)
          refine gA_void (gA_runV (As := []) (rest := []) (ci := 9) (q0 := 6) hx hb hml hown hg hP hD hK hS hA hnw hgk (x_next2 l D ks H.size ad kk V8 L9 Z  hMV8 (show (V8 6 8).toInt ≤ (V8 6 7).toInt from by omega)) w871 w852 w853 w157 w854 rfl xgTape hdV_yX9_next ⟨(by show 0 + 1 ≤ 10 * dd + 9; omega), (by show 8 + (1 + 11) + (0) ≤ 300 * dd + 240; omega)⟩ rfl hl.1 rfl (Nat.le_of_ble_eq_true rfl) dX1_readExpression_36 ⟨Nat.le_of_ble_eq_true rfl, Nat.le_of_ble_eq_true rfl⟩) hP hD hK hS hA (fun u80 H locs w81 hP hD hK hS => ?_)
          obtain ⟨V84, L85⟩ := u80
          obtain ⟨hMV84, ajV84, axL85, t82, t83⟩ := w81
          have alL85 : agL [6, 44] L L85 := agL.tr alL9 axL85 (by decide)
          have hP : va_P D vwCl (xw ad kk V84 L85 Z) H := hP
          have hD : va_D A (xw ad kk V84 L85 Z) := hD
          have hMV84 : rgd bX V84 := hMV84
          have ajV84 : agr [(6, 8), (6, 9), (6, 10)] [] V8 V84 := ajV84
          have agV84 : agr [(1, 3), (1, 6), (1, 8), (6, 8), (6, 9), (6, 10)] [42, 43, 44, 48] V V84 := agV8.tr ajV84 (by decide) (by decide)
          have t82 : (V84 6 8).toInt ≤ (V84 6 7).toInt := t82
          have t83 : CUR V84 L85 (Int32.toNatClampNeg (V8 6 8)) := t83
          have r86 : 0 ≤ ((V84 6 8)).toInt ∧ ((V84 6 8)).toInt ≤ 4000 := hMV84 6 8
          have pq87 : (V84 6 7).toInt = ((V 6 7)).toInt := congrArg Int32.toInt ((ajV84 6 7 rfl).trans (ajV8 6 7 rfl))
          have rl88 : RelC V84 L85 b gT (nx sx11 1) := RelC.nx1 rl13 ajV84 (by decide) axL85 (by decide) (by rw [← lk78]; exact t83) (ajV84 1 3 rfl)
          refine lv_aload_n hx hb dX1_readExpression_39 rfl (lv_at hl 1 rfl) ?_
          refine lv_iload_n hx hb dX1_readExpression_40 rfl (lv_at hl 2 rfl) ?_
          have pq89 : (V84 1 1).toInt = ((V 1 1)).toInt := congrArg Int32.toInt ((ajV84 1 1 rfl).trans (ajV8 1 1 rfl))
          refine gA_int (gA_runV (As := [.int p0]) (rest := []) (ci := 1) (q0 := 1) hx hb hml hown hg hP hD hK hS hA hnw hgk (hk_x_readSum3 H.size ad kk V84 L85 Z p0 (b) (gT) ((nx sx11 1)) (gd) hMV84 (by omega) (show b < 2 from by omega) (show (V84 1 1).toInt = (b : Int) from by omega) rl88 (show p0.toInt = (gd : Int) from by omega) (((congrArg Int32.toInt ((ajV84 1 4 rfl).trans (ajV8 1 4 rfl))).trans wh).trans (congrArg (fun n9 : Nat => (n9 : Int)) (((keepS.tr (keepS.tr (keepS.rf : keepS gs 0 gs) kp14) (keepS.n1 1))).2.1 4 (by decide)).symm)) (fun h9 => by rw [((ajV84 1 2 rfl).trans (ajV8 1 2 rfl))]; exact ow ((congrArg Int32.toInt ((ajV84 1 4 rfl).trans (ajV8 1 4 rfl))).symm.trans h9)) (show 8 - p0.toInt ≤ (dd : Int) from by omega)) w955 w957 w22 w162 w958 rfl xgReader hdV_yX1_readSum ⟨(by show 10 * dd + 8 + 1 ≤ 10 * dd + 9; omega), (by show 8 + (4 + 11) + (300 * dd + 210) ≤ 300 * dd + 240; omega)⟩ rfl hl.1 rfl (Nat.le_of_ble_eq_true rfl) dX1_readExpression_41 ⟨Nat.le_of_ble_eq_true rfl, Nat.le_of_ble_eq_true rfl⟩) hP hD hK hS hA (fun z90 u91 H locs w92 hP hD hK hS => ?_)
          obtain ⟨V94, L95⟩ := u91
          obtain ⟨hMV94, ajV94, axL95, rgz90, t93⟩ := w92
          have alL95 : agL [6, 44] L L95 := agL.tr alL85 axL95 (by decide)
          have hP : va_P D vwCl (xw ad kk V94 L95 Z) H := hP
          have hD : va_D A (xw ad kk V94 L95 Z) := hD
          have hMV94 : rgd bX V94 := hMV94
          have ajV94 : agr [(1, 3), (1, 6), (1, 8), (6, 8), (6, 9), (6, 10)] [42, 43, 44, 48] V84 V94 := ajV94
          have agV94 : agr [(1, 3), (1, 6), (1, 8), (6, 8), (6, 9), (6, 10)] [42, 43, 44, 48] V V94 := agV84.tr ajV94 (by decide) (by decide)
          have rgz90 : 0 ≤ z90.toInt ∧ z90.toInt ≤ 1 := rgz90
          have t93 : Rd gT (nx sx11 1) (fun k => Isum gd :: k) (fun k => k) z90.toInt (V94 1 3).toInt (fun s9 => RelC V94 L95 b gT s9 ∧ keepS (nx sx11 1) 1 s9) := t93
          rcases t93 with ⟨q96, sx97, h98, rl99, kp100⟩ | ⟨q96, h98⟩
          · skip
            have hr101 : ∀ k, Rc gT (Crun gs (Iexpr gd :: k)) (Crun sx97 (k)) := fun k => (hr73 k).tr (h98 (k))
            refine lv_if_ne (tgt := 49) hx hb dX1_readExpression_44 (by decide) (fun c102 => ?_) (fun c102 => ?_)
            · skip
              have f103 : z90.toInt ≠ 0 := b_neq rfl (by decide) c102
              refine lv_aload_n hx hb dX1_readExpression_49 rfl (lv_at hl 1 rfl) ?_
              refine va_get (D := D) (ci := 1) (v := rfN ad 38 (V94 1 1)) (fs := (xfReader ad V94 L95 Z)) (C := RX1) (T := TX1) (N := 9) hx hb hg inX1 hown hK hP 1 xgReader rfl 1 (by decide) (hg _ w305) (fun _ h9 => h9) rfl dX1_readExpression_50 ?_
              have pq104 : (V94 1 1).toInt = ((V 1 1)).toInt := congrArg Int32.toInt ((ajV94 1 1 rfl).trans ((ajV84 1 1 rfl).trans (ajV8 1 1 rfl)))
              refine g_topv (v := .ref (ad (38 + b))) (rfN_r (by omega)) ?_
              refine lv_iload_n hx hb dX1_readExpression_53 rfl (lv_at hl 0 rfl) ?_
              refine lv_bipush (v := 60) hx hb dX1_readExpression_54 (by decide) ?_
              refine lv_icmp_ne (tgt := 64) hx hb dX1_readExpression_56 (by decide) (fun c105 => ?_) (fun c105 => ?_)
              · skip
                have f106 : ((V8 6 9)).toInt ≠ 60 := b_neq rfl (by decide) c105
                refine lv_bipush (v := 9) hx hb dX1_readExpression_64 (by decide) ?_
                have r107 : Int32.toInt 9 = 9 := by decide
                refine gA_void (gA_runV (As := [.int 9]) (rest := []) (ci := 0) (q0 := (38 + b)) hx hb hml hown hg hP hD hK hS hA hnw hgk (x_emit l D ks H.size ad kk V94 L95 Z 9 (b) hMV94 (show b < 2 from by omega)) w971 w972 w973 w167 w974 rfl (xgBook hb2) hdV_yX0_emit ⟨(by show 0 + 1 ≤ 10 * dd + 9; omega), (by show 8 + (2 + 11) + (0) ≤ 300 * dd + 240; omega)⟩ rfl hl.1 rfl (Nat.le_of_ble_eq_true rfl) dX1_readExpression_66 ⟨Nat.le_of_ble_eq_true rfl, Nat.le_of_ble_eq_true rfl⟩) hP hD hK hS hA (fun u109 H locs w110 hP hD hK hS => ?_)
                obtain ⟨V112, L113⟩ := u109
                obtain ⟨hMV112, ajV112, axL113, fyV112, t111⟩ := w110
                have axL113 : L95 = L113 := Eq.symm axL113
                subst axL113
                have hP : va_P D vwCl (xw ad kk V112 L95 Z) H := hP
                have hD : va_D A (xw ad kk V112 L95 Z) := hD
                have hMV112 : rgd bX V112 := hMV112
                have ajV112 : agr [] [42, 48] V94 V112 := ajV112
                have agV112 : agr [(1, 3), (1, 6), (1, 8), (6, 8), (6, 9), (6, 10)] [42, 43, 44, 48] V V112 := agV94.tr ajV112 (by decide) (by decide)
                have t111 : emX V94 V112 b 9 := t111
                refine lv_iconst (v := 1) hx hb dX1_readExpression_69 (by decide) ?_
                have rl114 : RelC V112 L95 b gT sx97 := RelC.ag rl99 (show agr [] [42, 48] V94 V112 from (agr.tr agr.rf ajV112 (by decide) (by decide))) (by decide) (show agL [] L95 L95 from agL.rf) (by decide)
                exact W.zret (v := 1) hx hb hr rfl (fun t ht hW => ⟨⟨1, (V112, L95), rfl, ⟨hMV112, agV112, alL95, (by decide), (Or.inl ⟨rfl, sx97, hr101, rl114, keepS.le (keepS.tr (keepS.tr (keepS.tr (keepS.rf : keepS gs 0 gs) kp14) (keepS.n1 1)) kp100) (by decide)⟩)⟩, by rw [ht]; exact hP, va_K.moved hW.alike hK, hD⟩, hS.F ht⟩) hS.2.2 dX1_readExpression_70
              · skip
                have f115 : ((V8 6 9)).toInt = 60 := b_eq rfl (by decide) c105
                exfalso; omega
            · skip
              have f116 : z90.toInt = 0 := b_eq rfl (by decide) c102
              exfalso; omega
          · skip
            have hb117 : ∀ k, Rc gT (Crun gs (Iexpr gd :: k)) (Cbad (V94 1 3).toInt) := fun k => (hr73 k).tr (h98 (k))
            refine lv_if_ne (tgt := 49) hx hb dX1_readExpression_44 (by decide) (fun c118 => ?_) (fun c118 => ?_)
            · skip
              have f119 : z90.toInt ≠ 0 := b_neq rfl (by decide) c118
              exfalso; omega
            · skip
              have f120 : z90.toInt = 0 := b_eq rfl (by decide) c118
              refine lv_iconst (v := 0) hx hb dX1_readExpression_47 (by decide) ?_
              exact W.zret (v := 0) hx hb hr rfl (fun t ht hW => ⟨⟨0, (V94, L95), rfl, ⟨hMV94, agV94, alL95, (by decide), (Or.inr ⟨rfl, hb117⟩)⟩, by rw [ht]; exact hP, va_K.moved hW.alike hK, hD⟩, hS.F ht⟩) hS.2.2 dX1_readExpression_48
        · skip
          have f121 : ((V8 6 9)).toInt ≠ 61 := b_neq rfl (by decide) c70
          refine lv_iconst (v := 1) hx hb dX1_readExpression_30 (by decide) ?_
          have kd122 : gT.1 (sx11.1 0) = ((V8 6 9)).toInt := RelC.kd rl13
          have hr123 : ∀ k, Rc gT (Crun gs (Iexpr gd :: k)) (Crun sx11 (k)) := fun k => Rc.go1 (hr15 k) (cmp_n gd (fun h9 => f69 (kd122.symm.trans h9)) (fun h9 => f121 (kd122.symm.trans h9)))
          exact W.zret (v := 1) hx hb hr rfl (fun t ht hW => ⟨⟨1, (V8, L9), rfl, ⟨hMV8, agV8, alL9, (by decide), (Or.inl ⟨rfl, sx11, hr123, rl13, keepS.le (keepS.tr (keepS.rf : keepS gs 0 gs) kp14) (by decide)⟩)⟩, by rw [ht]; exact hP, va_K.moved hW.alike hK, hD⟩, hS.F ht⟩) hS.2.2 dX1_readExpression_31
    · skip
      have f124 : z4.toInt = 0 := b_eq rfl (by decide) c16
      exfalso; omega
  · skip
    have hb125 : ∀ k, Rc gT (Crun gs (Iexpr gd :: k)) (Cbad (V8 1 3).toInt) := fun k => (hr3 k).tr (h12 (Icmp gd :: k))
    refine lv_if_ne (tgt := 10) hx hb dX1_readExpression_5 (by decide) (fun c126 => ?_) (fun c126 => ?_)
    · skip
      have f127 : z4.toInt ≠ 0 := b_neq rfl (by decide) c126
      exfalso; omega
    · skip
      have f128 : z4.toInt = 0 := b_eq rfl (by decide) c126
      refine lv_iconst (v := 0) hx hb dX1_readExpression_8 (by decide) ?_
      exact W.zret (v := 0) hx hb hr rfl (fun t ht hW => ⟨⟨0, (V8, L9), rfl, ⟨hMV8, agV8, alL9, (by decide), (Or.inr ⟨rfl, hb125⟩)⟩, by rw [ht]; exact hP, va_K.moved hW.alike hK, hD⟩, hS.F ht⟩) hS.2.2 dX1_readExpression_9
set_option maxHeartbeats 4000000 in
set_option maxRecDepth 100000 in
theorem x_readSum3 {l : Launch} {D : va_G} {ks : KS} {dd : Nat} (hk_x_readProduct3 : K_x_readProduct3 l D ks dd) : K_x_readSum3 l D ks dd := by
  intro sz ad kk V L Z p0 b gT gs gd hMV rg_p0 hb2 rbk rel yd wh ow y1
  refine g_met (q_x_readSum3 D ks ad kk V L Z p0 b gT gs gd) (by decide) (Nat.le_of_ble_eq_true rfl) ?_
  intro p e s m below meth c A ls H locs hx hb hr hml hown hg hlocks hin hnw hgk hP hK hD hS hA hl
  have hown : s.vm.findClass RX1 = some m.cls := hown
  have hl : lv_has ls 4 [(0, .ref (ad 1)), (1, .int p0)] := hl
  have hP : va_P D vwCl (xw ad kk V L Z) H := hP
  have hD : va_D A (xw ad kk V L Z) := hD
  have hK : va_K D vwCl (xty kk Z) s := hK
  have agV : agr [(1, 3), (1, 6), (1, 8), (6, 8), (6, 9), (6, 10)] [42, 43, 44, 48] V V := agr.rf
  have alL : agL [6, 44] L L := agL.rf
  have rf_p0 := i_full p0
  have r1 : (-1) ≤ ((V 1 1)).toInt ∧ ((V 1 1)).toInt ≤ 1 := hMV 1 1
  refine lv_aload_n hx hb dX1_readSum_0 rfl (lv_at hl 0 rfl) ?_
  refine lv_iload_n hx hb dX1_readSum_1 rfl (lv_at hl 1 rfl) ?_
  have hr2 : ∀ k, Rc gT (Crun gs (Isum gd :: k)) (Crun gs (Isum gd :: k)) := fun k => Rc.rf
  have hr3 : ∀ k, Rc gT (Crun gs (Isum gd :: k)) (Crun gs (Iprod gd :: IsumR gd :: k)) := fun k => Rc.go1 (hr2 k) (m_sum gd)
  refine gA_int (gA_runV (As := [.int p0]) (rest := []) (ci := 1) (q0 := 1) hx hb hml hown hg hP hD hK hS hA hnw hgk (hk_x_readProduct3 H.size ad kk V L Z p0 (b) (gT) (gs) (gd) hMV (by omega) (show b < 2 from by omega) (show (V 1 1).toInt = (b : Int) from by omega) rel (show p0.toInt = (gd : Int) from by omega) wh (fun h9 => by exact ow (h9)) (show 8 - p0.toInt ≤ (dd : Int) from by omega)) w959 w961 w23 w162 w962 rfl xgReader hdV_yX1_readProduct ⟨(by show 10 * dd + 7 + 1 ≤ 10 * dd + 8; omega), (by show 8 + (3 + 11) + (300 * dd + 180) ≤ 300 * dd + 210; omega)⟩ rfl hl.1 rfl (Nat.le_of_ble_eq_true rfl) dX1_readSum_2 ⟨Nat.le_of_ble_eq_true rfl, Nat.le_of_ble_eq_true rfl⟩) hP hD hK hS hA (fun z4 u5 H locs w6 hP hD hK hS => ?_)
  obtain ⟨V8, L9⟩ := u5
  obtain ⟨hMV8, ajV8, axL9, rgz4, t7⟩ := w6
  have alL9 : agL [6, 44] L L9 := agL.tr alL axL9 (by decide)
  have hP : va_P D vwCl (xw ad kk V8 L9 Z) H := hP
  have hD : va_D A (xw ad kk V8 L9 Z) := hD
  have hMV8 : rgd bX V8 := hMV8
  have ajV8 : agr [(1, 3), (1, 6), (1, 8), (6, 8), (6, 9), (6, 10)] [42, 43, 44, 48] V V8 := ajV8
  have agV8 : agr [(1, 3), (1, 6), (1, 8), (6, 8), (6, 9), (6, 10)] [42, 43, 44, 48] V V8 := agV.tr ajV8 (by decide) (by decide)
  have rgz4 : 0 ≤ z4.toInt ∧ z4.toInt ≤ 1 := rgz4
  have t7 : Rd gT gs (fun k => Iprod gd :: k) (fun k => k) z4.toInt (V8 1 3).toInt (fun s9 => RelC V8 L9 b gT s9 ∧ keepS gs 1 s9) := t7
  rcases t7 with ⟨q10, sx11, h12, rl13, kp14⟩ | ⟨q10, h12⟩
  · skip
    have hr15 : ∀ k, Rc gT (Crun gs (Isum gd :: k)) (Crun sx11 (IsumR gd :: k)) := fun k => (hr3 k).tr (h12 (IsumR gd :: k))
    refine lv_if_ne (tgt := 10) hx hb dX1_readSum_5 (by decide) (fun c16 => ?_) (fun c16 => ?_)
    · skip
      have f17 : z4.toInt ≠ 0 := b_neq rfl (by decide) c16
      refine lv_iconst (v := 0) hx hb dX1_readSum_10 (by decide) ?_
      refine lv_istore_n (lv' := [(2, .int 0), (0, .ref (ad 1)), (1, .int p0)]) hx hb dX1_readSum_11 rfl hl (by decide) rfl (fun ls hl => ?_)
      have lp21 : ∀ (fulp21 : Nat) (y18 : Int32) (V19 : Vf) (L20 : Lf) (H : Heap) (locs : List Loc) (ls : Array Slot), 0 ≤ y18.toInt ∧ y18.toInt ≤ 4000 → (∃ s1 : St, (∀ k, Rc gT (Crun gs (Isum gd :: k)) (Crun s1 (IsumR gd :: k))) ∧ RelC V19 L20 b gT s1 ∧ keepS gs 1 s1 ∧ y18.toInt ≤ ((s1.1 0 : Nat) : Int)) → (V19 1 1).toInt = (b : Int) → 4000 - y18.toInt < (fulp21 : Int) → agL [6, 44] L L20 → agr [(1, 3), (1, 6), (1, 8), (6, 8), (6, 9), (6, 10)] [42, 43, 44, 48] V8 V19 → rgd bX V19 → va_P D vwCl (xw ad kk V19 L20 Z) H → va_D A (xw ad kk V19 L20 Z) → va_S A s.heap H locs → lv_has ls 4 [(2, .int y18), (0, .ref (ad 1)), (1, .int p0)] → W p l e (rK 8 210 dd) s m ([.ref (ad 1), .int p0] : List Value).toArray below meth c H locs 0 0 (MQ below (q_x_readSum3 D ks ad kk V L Z p0 b gT gs gd A) ([.ref (ad 1), .int p0] : List Value).toArray s 0 0 A) (F0 m 12 ls []) := by
        intro fulp21
        induction fulp21 with
        | zero =>
          intro y18 V19 L20 H locs ls klp21_0 xlp21_0 xlp21_1 hn alL20 ajV19 hMV19 hP hD hS hl
          exfalso; omega
        | succ fulp21 ihlp21 =>
          intro y18 V19 L20 H locs ls klp21_0 xlp21_0 xlp21_1 hn alL20 ajV19 hMV19 hP hD hS hl
          have agV19 : agr [(1, 3), (1, 6), (1, 8), (6, 8), (6, 9), (6, 10)] [42, 43, 44, 48] V V19 := agV8.tr ajV19 (by decide) (by decide)
          have pq22 : (V19 1 1).toInt = ((V 1 1)).toInt := congrArg Int32.toInt ((ajV19 1 1 rfl).trans (ajV8 1 1 rfl))
          refine lv_iload_n hx hb dX1_readSum_12 rfl (lv_at hl 0 rfl) ?_
          obtain ⟨s1, hq, rq, kq, iq⟩ := xlp21_0
          refine lv_sipush (v := 4000) hx hb dX1_readSum_13 (by decide) ?_
          refine lv_icmp_ge (tgt := 93) hx hb dX1_readSum_16 (by decide) (fun c23 => ?_) (fun c23 => ?_)
          · skip
            have f24 : 4000 ≤ y18.toInt := b_le (by decide) rfl c23
            refine lv_iconst (v := 1) hx hb dX1_readSum_93 (by decide) ?_
            have kd25 : gT.1 (s1.1 0) = ((V19 6 9)).toInt := RelC.kd rq
            have kz26 : gT.1 (s1.1 0) = 0 := RelC.e4 rq (show 0 ≤ (V19 6 7).toInt ∧ (V19 6 7).toInt ≤ 4000 from hMV19 6 7).2 (by omega)
            have hr27 : ∀ k, Rc gT (Crun gs (Isum gd :: k)) (Crun s1 (k)) := fun k => Rc.go1 (hq k) (sumR_n gd (fun h9 => absurd (h9.symm.trans kz26) (by decide)) (fun h9 => absurd (h9.symm.trans kz26) (by decide)))
            exact W.zret (v := 1) hx hb hr rfl (fun t ht hW => ⟨⟨1, (V19, L20), rfl, ⟨hMV19, agV19, alL20, (by decide), (Or.inl ⟨rfl, s1, hr27, rq, keepS.le (keepS.tr (keepS.rf : keepS gs 0 gs) kq) (by decide)⟩)⟩, by rw [ht]; exact hP, va_K.moved hW.alike hK, hD⟩, hS.F ht⟩) hS.2.2 dX1_readSum_94
          · skip
            have f28 : y18.toInt < 4000 := b_nle (by decide) rfl c23
            refine lv_aload_n hx hb dX1_readSum_19 rfl (lv_at hl 1 rfl) ?_
            refine va_get (D := D) (ci := 1) (v := .ref (ad 6)) (fs := (xfReader ad V19 L20 Z)) (C := RX1) (T := TX1) (N := 9) hx hb hg inX1 hown hK hP 1 xgReader rfl 0 (by decide) (hg _ w304) (fun _ h9 => h9) rfl dX1_readSum_20 ?_
            refine va_getN (D := D) (ci := 9) (v := .int (V19 6 9)) (fs := (xfTape ad V19 L20 Z)) (C := RX9) (T := TX9) (N := 12) hx hb hg inX9 hown hK hP 6 xgTape rfl 9 (by decide) (hnw.use 262 n262 rfl) (fun _ h9 => h9) rfl dX1_readSum_23 ?_
            refine lv_bipush (v := 43) hx hb dX1_readSum_26 (by decide) ?_
            refine lv_icmp_eq (tgt := 43) hx hb dX1_readSum_28 (by decide) (fun c29 => ?_) (fun c29 => ?_)
            · skip
              have f30 : ((V19 6 9)).toInt = 43 := b_eq rfl (by decide) c29
              refine lv_aload_n hx hb dX1_readSum_43 rfl (lv_at hl 1 rfl) ?_
              refine va_get (D := D) (ci := 1) (v := .ref (ad 6)) (fs := (xfReader ad V19 L20 Z)) (C := RX1) (T := TX1) (N := 9) hx hb hg inX1 hown hK hP 1 xgReader rfl 0 (by decide) (hg _ w304) (fun _ h9 => h9) rfl dX1_readSum_44 ?_
              refine va_getN (D := D) (ci := 9) (v := .int (V19 6 9)) (fs := (xfTape ad V19 L20 Z)) (C := RX9) (T := TX9) (N := 12) hx hb hg inX9 hown hK hP 6 xgTape rfl 9 (by decide) (hnw.use 262 n262 rfl) (fun _ h9 => h9) rfl dX1_readSum_47 ?_
              refine lv_bipush (v := 43) hx hb dX1_readSum_50 (by decide) ?_
              refine lv_icmp_ne (tgt := 59) hx hb dX1_readSum_52 (by decide) (fun c31 => ?_) (fun c31 => ?_)
              · skip
                have f32 : ((V19 6 9)).toInt ≠ 43 := b_neq rfl (by decide) c31
                exfalso; omega
              · skip
                have f33 : ((V19 6 9)).toInt = 43 := b_eq rfl (by decide) c31
                refine lv_iconst (v := 5) hx hb dX1_readSum_55 (by decide) ?_
                refine lv_goto (tgt := 61) hx hb dX1_readSum_56 (by decide) ?_
                refine lv_istore_n (lv' := [(3, .int 5), (2, .int y18), (0, .ref (ad 1)), (1, .int p0)]) hx hb dX1_readSum_61 rfl hl (by decide) rfl (fun ls hl => ?_)
                refine lv_aload_n hx hb dX1_readSum_62 rfl (lv_at hl 2 rfl) ?_
                refine va_get (D := D) (ci := 1) (v := .ref (ad 6)) (fs := (xfReader ad V19 L20 Z)) (C := RX1) (T := TX1) (N := 9) hx hb hg inX1 hown hK hP 1 xgReader rfl 0 (by decide) (hg _ w304) (fun _ h9 => h9) rfl dX1_readSum_63 ?_
                have kd34 : gT.1 (s1.1 0) = ((V19 6 9)).toInt := RelC.kd rq
                have hr35 : ∀ k, Rc gT (Crun gs (Isum gd :: k)) (Crun (nx s1 1) (Iprod gd :: IsumR gd :: k)) := fun k => Rc.go1 (hq k) (sumR_y gd (Or.inl (kd34.trans f33)))
                have l836 := RelC.l8 rq
                have r37 : 0 ≤ ((V19 6 8)).toInt ∧ ((V19 6 8)).toInt ≤ 4000 := hMV19 6 8
                have pq38 : (V19 6 7).toInt = ((V 6 7)).toInt := congrArg Int32.toInt ((ajV19 6 7 rfl).trans (ajV8 6 7 rfl))
                have r39 : 0 ≤ ((V 6 7)).toInt ∧ ((V 6 7)).toInt ≤ 4000 := hMV 6 7
                have lk40 := RelC.lk rq (show (V19 6 9).toInt ≠ 0 from by omega)
                refine gA_void (gA_runV (As := []) (rest := []) (ci := 9) (q0 := 6) hx hb hml hown hg hP hD hK hS hA hnw hgk (x_next2 l D ks H.size ad kk V19 L20 Z  hMV19 (show (V19 6 8).toInt ≤ (V19 6 7).toInt from by omega)) w871 w852 w853 w157 w854 rfl xgTape hdV_yX9_next ⟨(by show 0 + 1 ≤ 10 * dd + 8; omega), (by show 8 + (1 + 11) + (0) ≤ 300 * dd + 210; omega)⟩ rfl hl.1 rfl (Nat.le_of_ble_eq_true rfl) dX1_readSum_66 ⟨Nat.le_of_ble_eq_true rfl, Nat.le_of_ble_eq_true rfl⟩) hP hD hK hS hA (fun u42 H locs w43 hP hD hK hS => ?_)
                obtain ⟨V46, L47⟩ := u42
                obtain ⟨hMV46, ajV46, axL47, t44, t45⟩ := w43
                have alL47 : agL [6, 44] L L47 := agL.tr alL20 axL47 (by decide)
                have hP : va_P D vwCl (xw ad kk V46 L47 Z) H := hP
                have hD : va_D A (xw ad kk V46 L47 Z) := hD
                have hMV46 : rgd bX V46 := hMV46
                have ajV46 : agr [(6, 8), (6, 9), (6, 10)] [] V19 V46 := ajV46
                have agV46 : agr [(1, 3), (1, 6), (1, 8), (6, 8), (6, 9), (6, 10)] [42, 43, 44, 48] V V46 := agV19.tr ajV46 (by decide) (by decide)
                have t44 : (V46 6 8).toInt ≤ (V46 6 7).toInt := t44
                have t45 : CUR V46 L47 (Int32.toNatClampNeg (V19 6 8)) := t45
                have r48 : 0 ≤ ((V46 6 8)).toInt ∧ ((V46 6 8)).toInt ≤ 4000 := hMV46 6 8
                have pq49 : (V46 6 7).toInt = ((V 6 7)).toInt := congrArg Int32.toInt ((ajV46 6 7 rfl).trans ((ajV19 6 7 rfl).trans (ajV8 6 7 rfl)))
                have rl50 : RelC V46 L47 b gT (nx s1 1) := RelC.nx1 rq ajV46 (by decide) axL47 (by decide) (by rw [← lk40]; exact t45) (ajV46 1 3 rfl)
                refine lv_aload_n hx hb dX1_readSum_69 rfl (lv_at hl 2 rfl) ?_
                refine lv_iload_n hx hb dX1_readSum_70 rfl (lv_at hl 3 rfl) ?_
                have pq51 : (V46 1 1).toInt = ((V 1 1)).toInt := congrArg Int32.toInt ((ajV46 1 1 rfl).trans ((ajV19 1 1 rfl).trans (ajV8 1 1 rfl)))
                refine gA_int (gA_runV (As := [.int p0]) (rest := []) (ci := 1) (q0 := 1) hx hb hml hown hg hP hD hK hS hA hnw hgk (hk_x_readProduct3 H.size ad kk V46 L47 Z p0 (b) (gT) ((nx s1 1)) (gd) hMV46 (by omega) (show b < 2 from by omega) (show (V46 1 1).toInt = (b : Int) from by omega) rl50 (show p0.toInt = (gd : Int) from by omega) (((congrArg Int32.toInt ((ajV46 1 4 rfl).trans ((ajV19 1 4 rfl).trans (ajV8 1 4 rfl)))).trans wh).trans (congrArg (fun n9 : Nat => (n9 : Int)) (((keepS.tr (keepS.tr (keepS.rf : keepS gs 0 gs) kq) (keepS.n1 1))).2.1 4 (by decide)).symm)) (fun h9 => by rw [((ajV46 1 2 rfl).trans ((ajV19 1 2 rfl).trans (ajV8 1 2 rfl)))]; exact ow ((congrArg Int32.toInt ((ajV46 1 4 rfl).trans ((ajV19 1 4 rfl).trans (ajV8 1 4 rfl)))).symm.trans h9)) (show 8 - p0.toInt ≤ (dd : Int) from by omega)) w959 w961 w23 w162 w962 rfl xgReader hdV_yX1_readProduct ⟨(by show 10 * dd + 7 + 1 ≤ 10 * dd + 8; omega), (by show 8 + (3 + 11) + (300 * dd + 180) ≤ 300 * dd + 210; omega)⟩ rfl hl.1 rfl (Nat.le_of_ble_eq_true rfl) dX1_readSum_71 ⟨Nat.le_of_ble_eq_true rfl, Nat.le_of_ble_eq_true rfl⟩) hP hD hK hS hA (fun z52 u53 H locs w54 hP hD hK hS => ?_)
                obtain ⟨V56, L57⟩ := u53
                obtain ⟨hMV56, ajV56, axL57, rgz52, t55⟩ := w54
                have alL57 : agL [6, 44] L L57 := agL.tr alL47 axL57 (by decide)
                have hP : va_P D vwCl (xw ad kk V56 L57 Z) H := hP
                have hD : va_D A (xw ad kk V56 L57 Z) := hD
                have hMV56 : rgd bX V56 := hMV56
                have ajV56 : agr [(1, 3), (1, 6), (1, 8), (6, 8), (6, 9), (6, 10)] [42, 43, 44, 48] V46 V56 := ajV56
                have agV56 : agr [(1, 3), (1, 6), (1, 8), (6, 8), (6, 9), (6, 10)] [42, 43, 44, 48] V V56 := agV46.tr ajV56 (by decide) (by decide)
                have rgz52 : 0 ≤ z52.toInt ∧ z52.toInt ≤ 1 := rgz52
                have t55 : Rd gT (nx s1 1) (fun k => Iprod gd :: k) (fun k => k) z52.toInt (V56 1 3).toInt (fun s9 => RelC V56 L57 b gT s9 ∧ keepS (nx s1 1) 1 s9) := t55
                rcases t55 with ⟨q58, sx59, h60, rl61, kp62⟩ | ⟨q58, h60⟩
                · skip
                  have hr63 : ∀ k, Rc gT (Crun gs (Isum gd :: k)) (Crun sx59 (IsumR gd :: k)) := fun k => (hr35 k).tr (h60 (IsumR gd :: k))
                  refine lv_if_ne (tgt := 79) hx hb dX1_readSum_74 (by decide) (fun c64 => ?_) (fun c64 => ?_)
                  · skip
                    have f65 : z52.toInt ≠ 0 := b_neq rfl (by decide) c64
                    refine lv_aload_n hx hb dX1_readSum_79 rfl (lv_at hl 2 rfl) ?_
                    refine va_get (D := D) (ci := 1) (v := rfN ad 38 (V56 1 1)) (fs := (xfReader ad V56 L57 Z)) (C := RX1) (T := TX1) (N := 9) hx hb hg inX1 hown hK hP 1 xgReader rfl 1 (by decide) (hg _ w305) (fun _ h9 => h9) rfl dX1_readSum_80 ?_
                    have pq66 : (V56 1 1).toInt = ((V 1 1)).toInt := congrArg Int32.toInt ((ajV56 1 1 rfl).trans ((ajV46 1 1 rfl).trans ((ajV19 1 1 rfl).trans (ajV8 1 1 rfl))))
                    refine g_topv (v := .ref (ad (38 + b))) (rfN_r (by omega)) ?_
                    refine lv_iload_n hx hb dX1_readSum_83 rfl (lv_at hl 0 rfl) ?_
                    have r67 : Int32.toInt 5 = 5 := by decide
                    refine gA_void (gA_runV (As := [.int 5]) (rest := []) (ci := 0) (q0 := (38 + b)) hx hb hml hown hg hP hD hK hS hA hnw hgk (x_emit l D ks H.size ad kk V56 L57 Z 5 (b) hMV56 (show b < 2 from by omega)) w971 w972 w973 w167 w974 rfl (xgBook hb2) hdV_yX0_emit ⟨(by show 0 + 1 ≤ 10 * dd + 8; omega), (by show 8 + (2 + 11) + (0) ≤ 300 * dd + 210; omega)⟩ rfl hl.1 rfl (Nat.le_of_ble_eq_true rfl) dX1_readSum_84 ⟨Nat.le_of_ble_eq_true rfl, Nat.le_of_ble_eq_true rfl⟩) hP hD hK hS hA (fun u69 H locs w70 hP hD hK hS => ?_)
                    obtain ⟨V72, L73⟩ := u69
                    obtain ⟨hMV72, ajV72, axL73, fyV72, t71⟩ := w70
                    have axL73 : L57 = L73 := Eq.symm axL73
                    subst axL73
                    have hP : va_P D vwCl (xw ad kk V72 L57 Z) H := hP
                    have hD : va_D A (xw ad kk V72 L57 Z) := hD
                    have hMV72 : rgd bX V72 := hMV72
                    have ajV72 : agr [] [42, 48] V56 V72 := ajV72
                    have agV72 : agr [(1, 3), (1, 6), (1, 8), (6, 8), (6, 9), (6, 10)] [42, 43, 44, 48] V V72 := agV56.tr ajV72 (by decide) (by decide)
                    have t71 : emX V56 V72 b 5 := t71
                    obtain ⟨z74, ez74⟩ : ∃ y : Int32, y = y18 + 1 := ⟨_, rfl⟩
                    have hz74 : z74.toInt = y18.toInt + 1 := i_add ez74 rfl (by decide) (by omega)
                    refine lv_iinc (v := z74) (lv' := [(2, .int z74), (3, .int 5), (0, .ref (ad 1)), (1, .int p0)]) hx hb dX1_readSum_87 hl (k := 1) rfl (by rw [ez74]; rfl) (by decide) rfl (fun ls hl => ?_)
                    refine lv_goto (tgt := 12) hx hb dX1_readSum_90 (by decide) ?_
                    have pq75 : (V72 1 1).toInt = ((V 1 1)).toInt := congrArg Int32.toInt ((ajV72 1 1 rfl).trans ((ajV56 1 1 rfl).trans ((ajV46 1 1 rfl).trans ((ajV19 1 1 rfl).trans (ajV8 1 1 rfl)))))
                    have rl76 : RelC V72 L57 b gT sx59 := RelC.ag rl61 (show agr [] [42, 48] V56 V72 from (agr.tr agr.rf ajV72 (by decide) (by decide))) (by decide) (show agL [] L57 L57 from agL.rf) (by decide)
                    exact ihlp21 z74 V72 L57 H locs ls (by omega) ⟨sx59, hr63, rl76, keepS.le (keepS.tr (keepS.tr (keepS.tr (keepS.rf : keepS gs 0 gs) kq) (keepS.n1 1)) kp62) (by decide), (by have h9 := ((keepS.tr (keepS.tr (keepS.rf : keepS s1 0 s1) (keepS.n1 1)) kp62)).1; omega)⟩ (show (V72 1 1).toInt = (b : Int) from by omega) (by omega) alL57 (agr.tr (agr.tr (agr.tr (agr.tr agr.rf ajV19 (by decide) (by decide)) ajV46 (by decide) (by decide)) ajV56 (by decide) (by decide)) ajV72 (by decide) (by decide)) hMV72 hP hD hS (lv_sub hl [0, 2, 3] rfl)
                  · skip
                    have f77 : z52.toInt = 0 := b_eq rfl (by decide) c64
                    exfalso; omega
                · skip
                  have hb78 : ∀ k, Rc gT (Crun gs (Isum gd :: k)) (Cbad (V56 1 3).toInt) := fun k => (hr35 k).tr (h60 (IsumR gd :: k))
                  refine lv_if_ne (tgt := 79) hx hb dX1_readSum_74 (by decide) (fun c79 => ?_) (fun c79 => ?_)
                  · skip
                    have f80 : z52.toInt ≠ 0 := b_neq rfl (by decide) c79
                    exfalso; omega
                  · skip
                    have f81 : z52.toInt = 0 := b_eq rfl (by decide) c79
                    refine lv_iconst (v := 0) hx hb dX1_readSum_77 (by decide) ?_
                    exact W.zret (v := 0) hx hb hr rfl (fun t ht hW => ⟨⟨0, (V56, L57), rfl, ⟨hMV56, agV56, alL57, (by decide), (Or.inr ⟨rfl, hb78⟩)⟩, by rw [ht]; exact hP, va_K.moved hW.alike hK, hD⟩, hS.F ht⟩) hS.2.2 dX1_readSum_78
            · skip
              have f82 : ((V19 6 9)).toInt ≠ 43 := b_neq rfl (by decide) c29
              refine lv_aload_n hx hb dX1_readSum_31 rfl (lv_at hl 1 rfl) ?_
              refine va_get (D := D) (ci := 1) (v := .ref (ad 6)) (fs := (xfReader ad V19 L20 Z)) (C := RX1) (T := TX1) (N := 9) hx hb hg inX1 hown hK hP 1 xgReader rfl 0 (by decide) (hg _ w304) (fun _ h9 => h9) rfl dX1_readSum_32 ?_
              refine va_getN (D := D) (ci := 9) (v := .int (V19 6 9)) (fs := (xfTape ad V19 L20 Z)) (C := RX9) (T := TX9) (N := 12) hx hb hg inX9 hown hK hP 6 xgTape rfl 9 (by decide) (hnw.use 262 n262 rfl) (fun _ h9 => h9) rfl dX1_readSum_35 ?_
              refine lv_bipush (v := 45) hx hb dX1_readSum_38 (by decide) ?_
              refine lv_icmp_ne (tgt := 93) hx hb dX1_readSum_40 (by decide) (fun c83 => ?_) (fun c83 => ?_)
              · skip
                have f84 : ((V19 6 9)).toInt ≠ 45 := b_neq rfl (by decide) c83
                refine lv_iconst (v := 1) hx hb dX1_readSum_93 (by decide) ?_
                have kd85 : gT.1 (s1.1 0) = ((V19 6 9)).toInt := RelC.kd rq
                have hr86 : ∀ k, Rc gT (Crun gs (Isum gd :: k)) (Crun s1 (k)) := fun k => Rc.go1 (hq k) (sumR_n gd (fun h9 => f82 (kd85.symm.trans h9)) (fun h9 => f84 (kd85.symm.trans h9)))
                exact W.zret (v := 1) hx hb hr rfl (fun t ht hW => ⟨⟨1, (V19, L20), rfl, ⟨hMV19, agV19, alL20, (by decide), (Or.inl ⟨rfl, s1, hr86, rq, keepS.le (keepS.tr (keepS.rf : keepS gs 0 gs) kq) (by decide)⟩)⟩, by rw [ht]; exact hP, va_K.moved hW.alike hK, hD⟩, hS.F ht⟩) hS.2.2 dX1_readSum_94
              · skip
                have f87 : ((V19 6 9)).toInt = 45 := b_eq rfl (by decide) c83
                refine lv_aload_n hx hb dX1_readSum_43 rfl (lv_at hl 1 rfl) ?_
                refine va_get (D := D) (ci := 1) (v := .ref (ad 6)) (fs := (xfReader ad V19 L20 Z)) (C := RX1) (T := TX1) (N := 9) hx hb hg inX1 hown hK hP 1 xgReader rfl 0 (by decide) (hg _ w304) (fun _ h9 => h9) rfl dX1_readSum_44 ?_
                refine va_getN (D := D) (ci := 9) (v := .int (V19 6 9)) (fs := (xfTape ad V19 L20 Z)) (C := RX9) (T := TX9) (N := 12) hx hb hg inX9 hown hK hP 6 xgTape rfl 9 (by decide) (hnw.use 262 n262 rfl) (fun _ h9 => h9) rfl dX1_readSum_47 ?_
                refine lv_bipush (v := 43) hx hb dX1_readSum_50 (by decide) ?_
                refine lv_icmp_ne (tgt := 59) hx hb dX1_readSum_52 (by decide) (fun c88 => ?_) (fun c88 => ?_)
                · skip
                  have f89 : ((V19 6 9)).toInt ≠ 43 := b_neq rfl (by decide) c88
                  refine lv_bipush (v := 6) hx hb dX1_readSum_59 (by decide) ?_
                  refine lv_istore_n (lv' := [(3, .int 6), (2, .int y18), (0, .ref (ad 1)), (1, .int p0)]) hx hb dX1_readSum_61 rfl hl (by decide) rfl (fun ls hl => ?_)
                  refine lv_aload_n hx hb dX1_readSum_62 rfl (lv_at hl 2 rfl) ?_
                  refine va_get (D := D) (ci := 1) (v := .ref (ad 6)) (fs := (xfReader ad V19 L20 Z)) (C := RX1) (T := TX1) (N := 9) hx hb hg inX1 hown hK hP 1 xgReader rfl 0 (by decide) (hg _ w304) (fun _ h9 => h9) rfl dX1_readSum_63 ?_
                  have kd90 : gT.1 (s1.1 0) = ((V19 6 9)).toInt := RelC.kd rq
                  have hr91 : ∀ k, Rc gT (Crun gs (Isum gd :: k)) (Crun (nx s1 1) (Iprod gd :: IsumR gd :: k)) := fun k => Rc.go1 (hq k) (sumR_y gd (Or.inr (kd90.trans f87)))
                  have l892 := RelC.l8 rq
                  have r93 : 0 ≤ ((V19 6 8)).toInt ∧ ((V19 6 8)).toInt ≤ 4000 := hMV19 6 8
                  have pq94 : (V19 6 7).toInt = ((V 6 7)).toInt := congrArg Int32.toInt ((ajV19 6 7 rfl).trans (ajV8 6 7 rfl))
                  have r95 : 0 ≤ ((V 6 7)).toInt ∧ ((V 6 7)).toInt ≤ 4000 := hMV 6 7
                  have lk96 := RelC.lk rq (show (V19 6 9).toInt ≠ 0 from by omega)
                  refine gA_void (gA_runV (As := []) (rest := []) (ci := 9) (q0 := 6) hx hb hml hown hg hP hD hK hS hA hnw hgk (x_next2 l D ks H.size ad kk V19 L20 Z  hMV19 (show (V19 6 8).toInt ≤ (V19 6 7).toInt from by omega)) w871 w852 w853 w157 w854 rfl xgTape hdV_yX9_next ⟨(by show 0 + 1 ≤ 10 * dd + 8; omega), (by show 8 + (1 + 11) + (0) ≤ 300 * dd + 210; omega)⟩ rfl hl.1 rfl (Nat.le_of_ble_eq_true rfl) dX1_readSum_66 ⟨Nat.le_of_ble_eq_true rfl, Nat.le_of_ble_eq_true rfl⟩) hP hD hK hS hA (fun u98 H locs w99 hP hD hK hS => ?_)
                  obtain ⟨V102, L103⟩ := u98
                  obtain ⟨hMV102, ajV102, axL103, t100, t101⟩ := w99
                  have alL103 : agL [6, 44] L L103 := agL.tr alL20 axL103 (by decide)
                  have hP : va_P D vwCl (xw ad kk V102 L103 Z) H := hP
                  have hD : va_D A (xw ad kk V102 L103 Z) := hD
                  have hMV102 : rgd bX V102 := hMV102
                  have ajV102 : agr [(6, 8), (6, 9), (6, 10)] [] V19 V102 := ajV102
                  have agV102 : agr [(1, 3), (1, 6), (1, 8), (6, 8), (6, 9), (6, 10)] [42, 43, 44, 48] V V102 := agV19.tr ajV102 (by decide) (by decide)
                  have t100 : (V102 6 8).toInt ≤ (V102 6 7).toInt := t100
                  have t101 : CUR V102 L103 (Int32.toNatClampNeg (V19 6 8)) := t101
                  have r104 : 0 ≤ ((V102 6 8)).toInt ∧ ((V102 6 8)).toInt ≤ 4000 := hMV102 6 8
                  have pq105 : (V102 6 7).toInt = ((V 6 7)).toInt := congrArg Int32.toInt ((ajV102 6 7 rfl).trans ((ajV19 6 7 rfl).trans (ajV8 6 7 rfl)))
                  have rl106 : RelC V102 L103 b gT (nx s1 1) := RelC.nx1 rq ajV102 (by decide) axL103 (by decide) (by rw [← lk96]; exact t101) (ajV102 1 3 rfl)
                  refine lv_aload_n hx hb dX1_readSum_69 rfl (lv_at hl 2 rfl) ?_
                  refine lv_iload_n hx hb dX1_readSum_70 rfl (lv_at hl 3 rfl) ?_
                  have pq107 : (V102 1 1).toInt = ((V 1 1)).toInt := congrArg Int32.toInt ((ajV102 1 1 rfl).trans ((ajV19 1 1 rfl).trans (ajV8 1 1 rfl)))
                  refine gA_int (gA_runV (As := [.int p0]) (rest := []) (ci := 1) (q0 := 1) hx hb hml hown hg hP hD hK hS hA hnw hgk (hk_x_readProduct3 H.size ad kk V102 L103 Z p0 (b) (gT) ((nx s1 1)) (gd) hMV102 (by omega) (show b < 2 from by omega) (show (V102 1 1).toInt = (b : Int) from by omega) rl106 (show p0.toInt = (gd : Int) from by omega) (((congrArg Int32.toInt ((ajV102 1 4 rfl).trans ((ajV19 1 4 rfl).trans (ajV8 1 4 rfl)))).trans wh).trans (congrArg (fun n9 : Nat => (n9 : Int)) (((keepS.tr (keepS.tr (keepS.rf : keepS gs 0 gs) kq) (keepS.n1 1))).2.1 4 (by decide)).symm)) (fun h9 => by rw [((ajV102 1 2 rfl).trans ((ajV19 1 2 rfl).trans (ajV8 1 2 rfl)))]; exact ow ((congrArg Int32.toInt ((ajV102 1 4 rfl).trans ((ajV19 1 4 rfl).trans (ajV8 1 4 rfl)))).symm.trans h9)) (show 8 - p0.toInt ≤ (dd : Int) from by omega)) w959 w961 w23 w162 w962 rfl xgReader hdV_yX1_readProduct ⟨(by show 10 * dd + 7 + 1 ≤ 10 * dd + 8; omega), (by show 8 + (3 + 11) + (300 * dd + 180) ≤ 300 * dd + 210; omega)⟩ rfl hl.1 rfl (Nat.le_of_ble_eq_true rfl) dX1_readSum_71 ⟨Nat.le_of_ble_eq_true rfl, Nat.le_of_ble_eq_true rfl⟩) hP hD hK hS hA (fun z108 u109 H locs w110 hP hD hK hS => ?_)
                  obtain ⟨V112, L113⟩ := u109
                  obtain ⟨hMV112, ajV112, axL113, rgz108, t111⟩ := w110
                  have alL113 : agL [6, 44] L L113 := agL.tr alL103 axL113 (by decide)
                  have hP : va_P D vwCl (xw ad kk V112 L113 Z) H := hP
                  have hD : va_D A (xw ad kk V112 L113 Z) := hD
                  have hMV112 : rgd bX V112 := hMV112
                  have ajV112 : agr [(1, 3), (1, 6), (1, 8), (6, 8), (6, 9), (6, 10)] [42, 43, 44, 48] V102 V112 := ajV112
                  have agV112 : agr [(1, 3), (1, 6), (1, 8), (6, 8), (6, 9), (6, 10)] [42, 43, 44, 48] V V112 := agV102.tr ajV112 (by decide) (by decide)
                  have rgz108 : 0 ≤ z108.toInt ∧ z108.toInt ≤ 1 := rgz108
                  have t111 : Rd gT (nx s1 1) (fun k => Iprod gd :: k) (fun k => k) z108.toInt (V112 1 3).toInt (fun s9 => RelC V112 L113 b gT s9 ∧ keepS (nx s1 1) 1 s9) := t111
                  rcases t111 with ⟨q114, sx115, h116, rl117, kp118⟩ | ⟨q114, h116⟩
                  · skip
                    have hr119 : ∀ k, Rc gT (Crun gs (Isum gd :: k)) (Crun sx115 (IsumR gd :: k)) := fun k => (hr91 k).tr (h116 (IsumR gd :: k))
                    refine lv_if_ne (tgt := 79) hx hb dX1_readSum_74 (by decide) (fun c120 => ?_) (fun c120 => ?_)
                    · skip
                      have f121 : z108.toInt ≠ 0 := b_neq rfl (by decide) c120
                      refine lv_aload_n hx hb dX1_readSum_79 rfl (lv_at hl 2 rfl) ?_
                      refine va_get (D := D) (ci := 1) (v := rfN ad 38 (V112 1 1)) (fs := (xfReader ad V112 L113 Z)) (C := RX1) (T := TX1) (N := 9) hx hb hg inX1 hown hK hP 1 xgReader rfl 1 (by decide) (hg _ w305) (fun _ h9 => h9) rfl dX1_readSum_80 ?_
                      have pq122 : (V112 1 1).toInt = ((V 1 1)).toInt := congrArg Int32.toInt ((ajV112 1 1 rfl).trans ((ajV102 1 1 rfl).trans ((ajV19 1 1 rfl).trans (ajV8 1 1 rfl))))
                      refine g_topv (v := .ref (ad (38 + b))) (rfN_r (by omega)) ?_
                      refine lv_iload_n hx hb dX1_readSum_83 rfl (lv_at hl 0 rfl) ?_
                      have r123 : Int32.toInt 6 = 6 := by decide
                      refine gA_void (gA_runV (As := [.int 6]) (rest := []) (ci := 0) (q0 := (38 + b)) hx hb hml hown hg hP hD hK hS hA hnw hgk (x_emit l D ks H.size ad kk V112 L113 Z 6 (b) hMV112 (show b < 2 from by omega)) w971 w972 w973 w167 w974 rfl (xgBook hb2) hdV_yX0_emit ⟨(by show 0 + 1 ≤ 10 * dd + 8; omega), (by show 8 + (2 + 11) + (0) ≤ 300 * dd + 210; omega)⟩ rfl hl.1 rfl (Nat.le_of_ble_eq_true rfl) dX1_readSum_84 ⟨Nat.le_of_ble_eq_true rfl, Nat.le_of_ble_eq_true rfl⟩) hP hD hK hS hA (fun u125 H locs w126 hP hD hK hS => ?_)
                      obtain ⟨V128, L129⟩ := u125
                      obtain ⟨hMV128, ajV128, axL129, fyV128, t127⟩ := w126
                      have axL129 : L113 = L129 := Eq.symm axL129
                      subst axL129
                      have hP : va_P D vwCl (xw ad kk V128 L113 Z) H := hP
                      have hD : va_D A (xw ad kk V128 L113 Z) := hD
                      have hMV128 : rgd bX V128 := hMV128
                      have ajV128 : agr [] [42, 48] V112 V128 := ajV128
                      have agV128 : agr [(1, 3), (1, 6), (1, 8), (6, 8), (6, 9), (6, 10)] [42, 43, 44, 48] V V128 := agV112.tr ajV128 (by decide) (by decide)
                      have t127 : emX V112 V128 b 6 := t127
                      obtain ⟨z130, ez130⟩ : ∃ y : Int32, y = y18 + 1 := ⟨_, rfl⟩
                      have hz130 : z130.toInt = y18.toInt + 1 := i_add ez130 rfl (by decide) (by omega)
                      refine lv_iinc (v := z130) (lv' := [(2, .int z130), (3, .int 6), (0, .ref (ad 1)), (1, .int p0)]) hx hb dX1_readSum_87 hl (k := 1) rfl (by rw [ez130]; rfl) (by decide) rfl (fun ls hl => ?_)
                      refine lv_goto (tgt := 12) hx hb dX1_readSum_90 (by decide) ?_
                      have pq131 : (V128 1 1).toInt = ((V 1 1)).toInt := congrArg Int32.toInt ((ajV128 1 1 rfl).trans ((ajV112 1 1 rfl).trans ((ajV102 1 1 rfl).trans ((ajV19 1 1 rfl).trans (ajV8 1 1 rfl)))))
                      have rl132 : RelC V128 L113 b gT sx115 := RelC.ag rl117 (show agr [] [42, 48] V112 V128 from (agr.tr agr.rf ajV128 (by decide) (by decide))) (by decide) (show agL [] L113 L113 from agL.rf) (by decide)
                      exact ihlp21 z130 V128 L113 H locs ls (by omega) ⟨sx115, hr119, rl132, keepS.le (keepS.tr (keepS.tr (keepS.tr (keepS.rf : keepS gs 0 gs) kq) (keepS.n1 1)) kp118) (by decide), (by have h9 := ((keepS.tr (keepS.tr (keepS.rf : keepS s1 0 s1) (keepS.n1 1)) kp118)).1; omega)⟩ (show (V128 1 1).toInt = (b : Int) from by omega) (by omega) alL113 (agr.tr (agr.tr (agr.tr (agr.tr agr.rf ajV19 (by decide) (by decide)) ajV102 (by decide) (by decide)) ajV112 (by decide) (by decide)) ajV128 (by decide) (by decide)) hMV128 hP hD hS (lv_sub hl [0, 2, 3] rfl)
                    · skip
                      have f133 : z108.toInt = 0 := b_eq rfl (by decide) c120
                      exfalso; omega
                  · skip
                    have hb134 : ∀ k, Rc gT (Crun gs (Isum gd :: k)) (Cbad (V112 1 3).toInt) := fun k => (hr91 k).tr (h116 (IsumR gd :: k))
                    refine lv_if_ne (tgt := 79) hx hb dX1_readSum_74 (by decide) (fun c135 => ?_) (fun c135 => ?_)
                    · skip
                      have f136 : z108.toInt ≠ 0 := b_neq rfl (by decide) c135
                      exfalso; omega
                    · skip
                      have f137 : z108.toInt = 0 := b_eq rfl (by decide) c135
                      refine lv_iconst (v := 0) hx hb dX1_readSum_77 (by decide) ?_
                      exact W.zret (v := 0) hx hb hr rfl (fun t ht hW => ⟨⟨0, (V112, L113), rfl, ⟨hMV112, agV112, alL113, (by decide), (Or.inr ⟨rfl, hb134⟩)⟩, by rw [ht]; exact hP, va_K.moved hW.alike hK, hD⟩, hS.F ht⟩) hS.2.2 dX1_readSum_78
                · skip
                  have f138 : ((V19 6 9)).toInt = 43 := b_eq rfl (by decide) c88
                  exfalso; omega
      have r139 : Int32.toInt 0 = 0 := by decide
      have pq140 : (V8 1 1).toInt = ((V 1 1)).toInt := congrArg Int32.toInt (ajV8 1 1 rfl)
      exact lp21 ((4000 - (Int32.toInt 0) + 1 : Int).toNat) 0 V8 L9 H locs ls (by decide) ⟨sx11, hr15, rl13, keepS.le (keepS.tr (keepS.rf : keepS gs 0 gs) kp14) (by decide), (by omega)⟩ (show (V8 1 1).toInt = (b : Int) from by omega) (by omega) alL9 agr.rf hMV8 hP hD hS (lv_sub hl [0, 1, 2] rfl)
    · skip
      have f141 : z4.toInt = 0 := b_eq rfl (by decide) c16
      exfalso; omega
  · skip
    have hb142 : ∀ k, Rc gT (Crun gs (Isum gd :: k)) (Cbad (V8 1 3).toInt) := fun k => (hr3 k).tr (h12 (IsumR gd :: k))
    refine lv_if_ne (tgt := 10) hx hb dX1_readSum_5 (by decide) (fun c143 => ?_) (fun c143 => ?_)
    · skip
      have f144 : z4.toInt ≠ 0 := b_neq rfl (by decide) c143
      exfalso; omega
    · skip
      have f145 : z4.toInt = 0 := b_eq rfl (by decide) c143
      refine lv_iconst (v := 0) hx hb dX1_readSum_8 (by decide) ?_
      exact W.zret (v := 0) hx hb hr rfl (fun t ht hW => ⟨⟨0, (V8, L9), rfl, ⟨hMV8, agV8, alL9, (by decide), (Or.inr ⟨rfl, hb142⟩)⟩, by rw [ht]; exact hP, va_K.moved hW.alike hK, hD⟩, hS.F ht⟩) hS.2.2 dX1_readSum_9
set_option maxHeartbeats 4000000 in
set_option maxRecDepth 100000 in
theorem x_readProduct3 {l : Launch} {D : va_G} {ks : KS} {dd : Nat} (hk_x_readPart3 : K_x_readPart3 l D ks dd) : K_x_readProduct3 l D ks dd := by
  intro sz ad kk V L Z p0 b gT gs gd hMV rg_p0 hb2 rbk rel yd wh ow y1
  refine g_met (q_x_readProduct3 D ks ad kk V L Z p0 b gT gs gd) (by decide) (Nat.le_of_ble_eq_true rfl) ?_
  intro p e s m below meth c A ls H locs hx hb hr hml hown hg hlocks hin hnw hgk hP hK hD hS hA hl
  have hown : s.vm.findClass RX1 = some m.cls := hown
  have hl : lv_has ls 3 [(0, .ref (ad 1)), (1, .int p0)] := hl
  have hP : va_P D vwCl (xw ad kk V L Z) H := hP
  have hD : va_D A (xw ad kk V L Z) := hD
  have hK : va_K D vwCl (xty kk Z) s := hK
  have agV : agr [(1, 3), (1, 6), (1, 8), (6, 8), (6, 9), (6, 10)] [42, 43, 44, 48] V V := agr.rf
  have alL : agL [6, 44] L L := agL.rf
  have rf_p0 := i_full p0
  have r1 : (-1) ≤ ((V 1 1)).toInt ∧ ((V 1 1)).toInt ≤ 1 := hMV 1 1
  refine lv_aload_n hx hb dX1_readProduct_0 rfl (lv_at hl 0 rfl) ?_
  refine lv_iload_n hx hb dX1_readProduct_1 rfl (lv_at hl 1 rfl) ?_
  have hr2 : ∀ k, Rc gT (Crun gs (Iprod gd :: k)) (Crun gs (Iprod gd :: k)) := fun k => Rc.rf
  have hr3 : ∀ k, Rc gT (Crun gs (Iprod gd :: k)) (Crun gs (Ipart gd :: IprodR gd :: k)) := fun k => Rc.go1 (hr2 k) (m_prod gd)
  refine gA_int (gA_runV (As := [.int p0]) (rest := []) (ci := 1) (q0 := 1) hx hb hml hown hg hP hD hK hS hA hnw hgk (hk_x_readPart3 H.size ad kk V L Z p0 (b) (gT) (gs) (gd) hMV (by omega) (show b < 2 from by omega) (show (V 1 1).toInt = (b : Int) from by omega) rel (show p0.toInt = (gd : Int) from by omega) wh (fun h9 => by exact ow (h9)) (show 8 - p0.toInt ≤ (dd : Int) from by omega)) w963 w965 w24 w162 w966 rfl xgReader hdV_yX1_readPart ⟨(by show 10 * dd + 6 + 1 ≤ 10 * dd + 7; omega), (by show 8 + (5 + 11) + (300 * dd + 150) ≤ 300 * dd + 180; omega)⟩ rfl hl.1 rfl (Nat.le_of_ble_eq_true rfl) dX1_readProduct_2 ⟨Nat.le_of_ble_eq_true rfl, Nat.le_of_ble_eq_true rfl⟩) hP hD hK hS hA (fun z4 u5 H locs w6 hP hD hK hS => ?_)
  obtain ⟨V8, L9⟩ := u5
  obtain ⟨hMV8, ajV8, axL9, rgz4, t7⟩ := w6
  have alL9 : agL [6, 44] L L9 := agL.tr alL axL9 (by decide)
  have hP : va_P D vwCl (xw ad kk V8 L9 Z) H := hP
  have hD : va_D A (xw ad kk V8 L9 Z) := hD
  have hMV8 : rgd bX V8 := hMV8
  have ajV8 : agr [(1, 3), (1, 6), (1, 8), (6, 8), (6, 9), (6, 10)] [42, 43, 44, 48] V V8 := ajV8
  have agV8 : agr [(1, 3), (1, 6), (1, 8), (6, 8), (6, 9), (6, 10)] [42, 43, 44, 48] V V8 := agV.tr ajV8 (by decide) (by decide)
  have rgz4 : 0 ≤ z4.toInt ∧ z4.toInt ≤ 1 := rgz4
  have t7 : Rd gT gs (fun k => Ipart gd :: k) (fun k => k) z4.toInt (V8 1 3).toInt (fun s9 => RelC V8 L9 b gT s9 ∧ keepS gs 1 s9) := t7
  rcases t7 with ⟨q10, sx11, h12, rl13, kp14⟩ | ⟨q10, h12⟩
  · skip
    have hr15 : ∀ k, Rc gT (Crun gs (Iprod gd :: k)) (Crun sx11 (IprodR gd :: k)) := fun k => (hr3 k).tr (h12 (IprodR gd :: k))
    refine lv_if_ne (tgt := 10) hx hb dX1_readProduct_5 (by decide) (fun c16 => ?_) (fun c16 => ?_)
    · skip
      have f17 : z4.toInt ≠ 0 := b_neq rfl (by decide) c16
      refine lv_iconst (v := 0) hx hb dX1_readProduct_10 (by decide) ?_
      refine lv_istore_n (lv' := [(2, .int 0), (0, .ref (ad 1)), (1, .int p0)]) hx hb dX1_readProduct_11 rfl hl (by decide) rfl (fun ls hl => ?_)
      have lp21 : ∀ (fulp21 : Nat) (y18 : Int32) (V19 : Vf) (L20 : Lf) (H : Heap) (locs : List Loc) (ls : Array Slot), 0 ≤ y18.toInt ∧ y18.toInt ≤ 4000 → (∃ s1 : St, (∀ k, Rc gT (Crun gs (Iprod gd :: k)) (Crun s1 (IprodR gd :: k))) ∧ RelC V19 L20 b gT s1 ∧ keepS gs 1 s1 ∧ y18.toInt ≤ ((s1.1 0 : Nat) : Int)) → (V19 1 1).toInt = (b : Int) → 4000 - y18.toInt < (fulp21 : Int) → agL [6, 44] L L20 → agr [(1, 3), (1, 6), (1, 8), (6, 8), (6, 9), (6, 10)] [42, 43, 44, 48] V8 V19 → rgd bX V19 → va_P D vwCl (xw ad kk V19 L20 Z) H → va_D A (xw ad kk V19 L20 Z) → va_S A s.heap H locs → lv_has ls 3 [(2, .int y18), (0, .ref (ad 1)), (1, .int p0)] → W p l e (rK 7 180 dd) s m ([.ref (ad 1), .int p0] : List Value).toArray below meth c H locs 0 0 (MQ below (q_x_readProduct3 D ks ad kk V L Z p0 b gT gs gd A) ([.ref (ad 1), .int p0] : List Value).toArray s 0 0 A) (F0 m 12 ls []) := by
        intro fulp21
        induction fulp21 with
        | zero =>
          intro y18 V19 L20 H locs ls klp21_0 xlp21_0 xlp21_1 hn alL20 ajV19 hMV19 hP hD hS hl
          exfalso; omega
        | succ fulp21 ihlp21 =>
          intro y18 V19 L20 H locs ls klp21_0 xlp21_0 xlp21_1 hn alL20 ajV19 hMV19 hP hD hS hl
          have agV19 : agr [(1, 3), (1, 6), (1, 8), (6, 8), (6, 9), (6, 10)] [42, 43, 44, 48] V V19 := agV8.tr ajV19 (by decide) (by decide)
          have pq22 : (V19 1 1).toInt = ((V 1 1)).toInt := congrArg Int32.toInt ((ajV19 1 1 rfl).trans (ajV8 1 1 rfl))
          refine lv_iload_n hx hb dX1_readProduct_12 rfl (lv_at hl 0 rfl) ?_
          obtain ⟨s1, hq, rq, kq, iq⟩ := xlp21_0
          refine lv_sipush (v := 4000) hx hb dX1_readProduct_13 (by decide) ?_
          refine lv_icmp_ge (tgt := 63) hx hb dX1_readProduct_16 (by decide) (fun c23 => ?_) (fun c23 => ?_)
          · skip
            have f24 : 4000 ≤ y18.toInt := b_le (by decide) rfl c23
            refine lv_iconst (v := 1) hx hb dX1_readProduct_63 (by decide) ?_
            have kd25 : gT.1 (s1.1 0) = ((V19 6 9)).toInt := RelC.kd rq
            have kz26 : gT.1 (s1.1 0) = 0 := RelC.e4 rq (show 0 ≤ (V19 6 7).toInt ∧ (V19 6 7).toInt ≤ 4000 from hMV19 6 7).2 (by omega)
            have hr27 : ∀ k, Rc gT (Crun gs (Iprod gd :: k)) (Crun s1 (k)) := fun k => Rc.go1 (hq k) (prodR_n gd (fun h9 => absurd (h9.symm.trans kz26) (by decide)))
            exact W.zret (v := 1) hx hb hr rfl (fun t ht hW => ⟨⟨1, (V19, L20), rfl, ⟨hMV19, agV19, alL20, (by decide), (Or.inl ⟨rfl, s1, hr27, rq, keepS.le (keepS.tr (keepS.rf : keepS gs 0 gs) kq) (by decide)⟩)⟩, by rw [ht]; exact hP, va_K.moved hW.alike hK, hD⟩, hS.F ht⟩) hS.2.2 dX1_readProduct_64
          · skip
            have f28 : y18.toInt < 4000 := b_nle (by decide) rfl c23
            refine lv_aload_n hx hb dX1_readProduct_19 rfl (lv_at hl 1 rfl) ?_
            refine va_get (D := D) (ci := 1) (v := .ref (ad 6)) (fs := (xfReader ad V19 L20 Z)) (C := RX1) (T := TX1) (N := 9) hx hb hg inX1 hown hK hP 1 xgReader rfl 0 (by decide) (hg _ w304) (fun _ h9 => h9) rfl dX1_readProduct_20 ?_
            refine va_getN (D := D) (ci := 9) (v := .int (V19 6 9)) (fs := (xfTape ad V19 L20 Z)) (C := RX9) (T := TX9) (N := 12) hx hb hg inX9 hown hK hP 6 xgTape rfl 9 (by decide) (hnw.use 262 n262 rfl) (fun _ h9 => h9) rfl dX1_readProduct_23 ?_
            refine lv_bipush (v := 42) hx hb dX1_readProduct_26 (by decide) ?_
            refine lv_icmp_ne (tgt := 63) hx hb dX1_readProduct_28 (by decide) (fun c29 => ?_) (fun c29 => ?_)
            · skip
              have f30 : ((V19 6 9)).toInt ≠ 42 := b_neq rfl (by decide) c29
              refine lv_iconst (v := 1) hx hb dX1_readProduct_63 (by decide) ?_
              have kd31 : gT.1 (s1.1 0) = ((V19 6 9)).toInt := RelC.kd rq
              have hr32 : ∀ k, Rc gT (Crun gs (Iprod gd :: k)) (Crun s1 (k)) := fun k => Rc.go1 (hq k) (prodR_n gd (fun h9 => f30 (kd31.symm.trans h9)))
              exact W.zret (v := 1) hx hb hr rfl (fun t ht hW => ⟨⟨1, (V19, L20), rfl, ⟨hMV19, agV19, alL20, (by decide), (Or.inl ⟨rfl, s1, hr32, rq, keepS.le (keepS.tr (keepS.rf : keepS gs 0 gs) kq) (by decide)⟩)⟩, by rw [ht]; exact hP, va_K.moved hW.alike hK, hD⟩, hS.F ht⟩) hS.2.2 dX1_readProduct_64
            · skip
              have f33 : ((V19 6 9)).toInt = 42 := b_eq rfl (by decide) c29
              refine lv_aload_n hx hb dX1_readProduct_31 rfl (lv_at hl 1 rfl) ?_
              refine va_get (D := D) (ci := 1) (v := .ref (ad 6)) (fs := (xfReader ad V19 L20 Z)) (C := RX1) (T := TX1) (N := 9) hx hb hg inX1 hown hK hP 1 xgReader rfl 0 (by decide) (hg _ w304) (fun _ h9 => h9) rfl dX1_readProduct_32 ?_
              have kd34 : gT.1 (s1.1 0) = ((V19 6 9)).toInt := RelC.kd rq
              have hr35 : ∀ k, Rc gT (Crun gs (Iprod gd :: k)) (Crun (nx s1 1) (Ipart gd :: IprodR gd :: k)) := fun k => Rc.go1 (hq k) (prodR_y gd (kd34.trans f33))
              have l836 := RelC.l8 rq
              have r37 : 0 ≤ ((V19 6 8)).toInt ∧ ((V19 6 8)).toInt ≤ 4000 := hMV19 6 8
              have pq38 : (V19 6 7).toInt = ((V 6 7)).toInt := congrArg Int32.toInt ((ajV19 6 7 rfl).trans (ajV8 6 7 rfl))
              have r39 : 0 ≤ ((V 6 7)).toInt ∧ ((V 6 7)).toInt ≤ 4000 := hMV 6 7
              have lk40 := RelC.lk rq (show (V19 6 9).toInt ≠ 0 from by omega)
              refine gA_void (gA_runV (As := []) (rest := []) (ci := 9) (q0 := 6) hx hb hml hown hg hP hD hK hS hA hnw hgk (x_next2 l D ks H.size ad kk V19 L20 Z  hMV19 (show (V19 6 8).toInt ≤ (V19 6 7).toInt from by omega)) w871 w852 w853 w157 w854 rfl xgTape hdV_yX9_next ⟨(by show 0 + 1 ≤ 10 * dd + 7; omega), (by show 8 + (1 + 11) + (0) ≤ 300 * dd + 180; omega)⟩ rfl hl.1 rfl (Nat.le_of_ble_eq_true rfl) dX1_readProduct_35 ⟨Nat.le_of_ble_eq_true rfl, Nat.le_of_ble_eq_true rfl⟩) hP hD hK hS hA (fun u42 H locs w43 hP hD hK hS => ?_)
              obtain ⟨V46, L47⟩ := u42
              obtain ⟨hMV46, ajV46, axL47, t44, t45⟩ := w43
              have alL47 : agL [6, 44] L L47 := agL.tr alL20 axL47 (by decide)
              have hP : va_P D vwCl (xw ad kk V46 L47 Z) H := hP
              have hD : va_D A (xw ad kk V46 L47 Z) := hD
              have hMV46 : rgd bX V46 := hMV46
              have ajV46 : agr [(6, 8), (6, 9), (6, 10)] [] V19 V46 := ajV46
              have agV46 : agr [(1, 3), (1, 6), (1, 8), (6, 8), (6, 9), (6, 10)] [42, 43, 44, 48] V V46 := agV19.tr ajV46 (by decide) (by decide)
              have t44 : (V46 6 8).toInt ≤ (V46 6 7).toInt := t44
              have t45 : CUR V46 L47 (Int32.toNatClampNeg (V19 6 8)) := t45
              have r48 : 0 ≤ ((V46 6 8)).toInt ∧ ((V46 6 8)).toInt ≤ 4000 := hMV46 6 8
              have pq49 : (V46 6 7).toInt = ((V 6 7)).toInt := congrArg Int32.toInt ((ajV46 6 7 rfl).trans ((ajV19 6 7 rfl).trans (ajV8 6 7 rfl)))
              have rl50 : RelC V46 L47 b gT (nx s1 1) := RelC.nx1 rq ajV46 (by decide) axL47 (by decide) (by rw [← lk40]; exact t45) (ajV46 1 3 rfl)
              refine lv_aload_n hx hb dX1_readProduct_38 rfl (lv_at hl 1 rfl) ?_
              refine lv_iload_n hx hb dX1_readProduct_39 rfl (lv_at hl 2 rfl) ?_
              have pq51 : (V46 1 1).toInt = ((V 1 1)).toInt := congrArg Int32.toInt ((ajV46 1 1 rfl).trans ((ajV19 1 1 rfl).trans (ajV8 1 1 rfl)))
              refine gA_int (gA_runV (As := [.int p0]) (rest := []) (ci := 1) (q0 := 1) hx hb hml hown hg hP hD hK hS hA hnw hgk (hk_x_readPart3 H.size ad kk V46 L47 Z p0 (b) (gT) ((nx s1 1)) (gd) hMV46 (by omega) (show b < 2 from by omega) (show (V46 1 1).toInt = (b : Int) from by omega) rl50 (show p0.toInt = (gd : Int) from by omega) (((congrArg Int32.toInt ((ajV46 1 4 rfl).trans ((ajV19 1 4 rfl).trans (ajV8 1 4 rfl)))).trans wh).trans (congrArg (fun n9 : Nat => (n9 : Int)) (((keepS.tr (keepS.tr (keepS.rf : keepS gs 0 gs) kq) (keepS.n1 1))).2.1 4 (by decide)).symm)) (fun h9 => by rw [((ajV46 1 2 rfl).trans ((ajV19 1 2 rfl).trans (ajV8 1 2 rfl)))]; exact ow ((congrArg Int32.toInt ((ajV46 1 4 rfl).trans ((ajV19 1 4 rfl).trans (ajV8 1 4 rfl)))).symm.trans h9)) (show 8 - p0.toInt ≤ (dd : Int) from by omega)) w963 w965 w24 w162 w966 rfl xgReader hdV_yX1_readPart ⟨(by show 10 * dd + 6 + 1 ≤ 10 * dd + 7; omega), (by show 8 + (5 + 11) + (300 * dd + 150) ≤ 300 * dd + 180; omega)⟩ rfl hl.1 rfl (Nat.le_of_ble_eq_true rfl) dX1_readProduct_40 ⟨Nat.le_of_ble_eq_true rfl, Nat.le_of_ble_eq_true rfl⟩) hP hD hK hS hA (fun z52 u53 H locs w54 hP hD hK hS => ?_)
              obtain ⟨V56, L57⟩ := u53
              obtain ⟨hMV56, ajV56, axL57, rgz52, t55⟩ := w54
              have alL57 : agL [6, 44] L L57 := agL.tr alL47 axL57 (by decide)
              have hP : va_P D vwCl (xw ad kk V56 L57 Z) H := hP
              have hD : va_D A (xw ad kk V56 L57 Z) := hD
              have hMV56 : rgd bX V56 := hMV56
              have ajV56 : agr [(1, 3), (1, 6), (1, 8), (6, 8), (6, 9), (6, 10)] [42, 43, 44, 48] V46 V56 := ajV56
              have agV56 : agr [(1, 3), (1, 6), (1, 8), (6, 8), (6, 9), (6, 10)] [42, 43, 44, 48] V V56 := agV46.tr ajV56 (by decide) (by decide)
              have rgz52 : 0 ≤ z52.toInt ∧ z52.toInt ≤ 1 := rgz52
              have t55 : Rd gT (nx s1 1) (fun k => Ipart gd :: k) (fun k => k) z52.toInt (V56 1 3).toInt (fun s9 => RelC V56 L57 b gT s9 ∧ keepS (nx s1 1) 1 s9) := t55
              rcases t55 with ⟨q58, sx59, h60, rl61, kp62⟩ | ⟨q58, h60⟩
              · skip
                have hr63 : ∀ k, Rc gT (Crun gs (Iprod gd :: k)) (Crun sx59 (IprodR gd :: k)) := fun k => (hr35 k).tr (h60 (IprodR gd :: k))
                refine lv_if_ne (tgt := 48) hx hb dX1_readProduct_43 (by decide) (fun c64 => ?_) (fun c64 => ?_)
                · skip
                  have f65 : z52.toInt ≠ 0 := b_neq rfl (by decide) c64
                  refine lv_aload_n hx hb dX1_readProduct_48 rfl (lv_at hl 1 rfl) ?_
                  refine va_get (D := D) (ci := 1) (v := rfN ad 38 (V56 1 1)) (fs := (xfReader ad V56 L57 Z)) (C := RX1) (T := TX1) (N := 9) hx hb hg inX1 hown hK hP 1 xgReader rfl 1 (by decide) (hg _ w305) (fun _ h9 => h9) rfl dX1_readProduct_49 ?_
                  have pq66 : (V56 1 1).toInt = ((V 1 1)).toInt := congrArg Int32.toInt ((ajV56 1 1 rfl).trans ((ajV46 1 1 rfl).trans ((ajV19 1 1 rfl).trans (ajV8 1 1 rfl))))
                  refine g_topv (v := .ref (ad (38 + b))) (rfN_r (by omega)) ?_
                  refine lv_bipush (v := 7) hx hb dX1_readProduct_52 (by decide) ?_
                  have r67 : Int32.toInt 7 = 7 := by decide
                  refine gA_void (gA_runV (As := [.int 7]) (rest := []) (ci := 0) (q0 := (38 + b)) hx hb hml hown hg hP hD hK hS hA hnw hgk (x_emit l D ks H.size ad kk V56 L57 Z 7 (b) hMV56 (show b < 2 from by omega)) w971 w972 w973 w167 w974 rfl (xgBook hb2) hdV_yX0_emit ⟨(by show 0 + 1 ≤ 10 * dd + 7; omega), (by show 8 + (2 + 11) + (0) ≤ 300 * dd + 180; omega)⟩ rfl hl.1 rfl (Nat.le_of_ble_eq_true rfl) dX1_readProduct_54 ⟨Nat.le_of_ble_eq_true rfl, Nat.le_of_ble_eq_true rfl⟩) hP hD hK hS hA (fun u69 H locs w70 hP hD hK hS => ?_)
                  obtain ⟨V72, L73⟩ := u69
                  obtain ⟨hMV72, ajV72, axL73, fyV72, t71⟩ := w70
                  have axL73 : L57 = L73 := Eq.symm axL73
                  subst axL73
                  have hP : va_P D vwCl (xw ad kk V72 L57 Z) H := hP
                  have hD : va_D A (xw ad kk V72 L57 Z) := hD
                  have hMV72 : rgd bX V72 := hMV72
                  have ajV72 : agr [] [42, 48] V56 V72 := ajV72
                  have agV72 : agr [(1, 3), (1, 6), (1, 8), (6, 8), (6, 9), (6, 10)] [42, 43, 44, 48] V V72 := agV56.tr ajV72 (by decide) (by decide)
                  have t71 : emX V56 V72 b 7 := t71
                  obtain ⟨z74, ez74⟩ : ∃ y : Int32, y = y18 + 1 := ⟨_, rfl⟩
                  have hz74 : z74.toInt = y18.toInt + 1 := i_add ez74 rfl (by decide) (by omega)
                  refine lv_iinc (v := z74) (lv' := [(2, .int z74), (0, .ref (ad 1)), (1, .int p0)]) hx hb dX1_readProduct_57 hl (k := 0) rfl (by rw [ez74]; rfl) (by decide) rfl (fun ls hl => ?_)
                  refine lv_goto (tgt := 12) hx hb dX1_readProduct_60 (by decide) ?_
                  have pq75 : (V72 1 1).toInt = ((V 1 1)).toInt := congrArg Int32.toInt ((ajV72 1 1 rfl).trans ((ajV56 1 1 rfl).trans ((ajV46 1 1 rfl).trans ((ajV19 1 1 rfl).trans (ajV8 1 1 rfl)))))
                  have rl76 : RelC V72 L57 b gT sx59 := RelC.ag rl61 (show agr [] [42, 48] V56 V72 from (agr.tr agr.rf ajV72 (by decide) (by decide))) (by decide) (show agL [] L57 L57 from agL.rf) (by decide)
                  exact ihlp21 z74 V72 L57 H locs ls (by omega) ⟨sx59, hr63, rl76, keepS.le (keepS.tr (keepS.tr (keepS.tr (keepS.rf : keepS gs 0 gs) kq) (keepS.n1 1)) kp62) (by decide), (by have h9 := ((keepS.tr (keepS.tr (keepS.rf : keepS s1 0 s1) (keepS.n1 1)) kp62)).1; omega)⟩ (show (V72 1 1).toInt = (b : Int) from by omega) (by omega) alL57 (agr.tr (agr.tr (agr.tr (agr.tr agr.rf ajV19 (by decide) (by decide)) ajV46 (by decide) (by decide)) ajV56 (by decide) (by decide)) ajV72 (by decide) (by decide)) hMV72 hP hD hS (lv_sub hl [0, 1, 2] rfl)
                · skip
                  have f77 : z52.toInt = 0 := b_eq rfl (by decide) c64
                  exfalso; omega
              · skip
                have hb78 : ∀ k, Rc gT (Crun gs (Iprod gd :: k)) (Cbad (V56 1 3).toInt) := fun k => (hr35 k).tr (h60 (IprodR gd :: k))
                refine lv_if_ne (tgt := 48) hx hb dX1_readProduct_43 (by decide) (fun c79 => ?_) (fun c79 => ?_)
                · skip
                  have f80 : z52.toInt ≠ 0 := b_neq rfl (by decide) c79
                  exfalso; omega
                · skip
                  have f81 : z52.toInt = 0 := b_eq rfl (by decide) c79
                  refine lv_iconst (v := 0) hx hb dX1_readProduct_46 (by decide) ?_
                  exact W.zret (v := 0) hx hb hr rfl (fun t ht hW => ⟨⟨0, (V56, L57), rfl, ⟨hMV56, agV56, alL57, (by decide), (Or.inr ⟨rfl, hb78⟩)⟩, by rw [ht]; exact hP, va_K.moved hW.alike hK, hD⟩, hS.F ht⟩) hS.2.2 dX1_readProduct_47
      have r82 : Int32.toInt 0 = 0 := by decide
      have pq83 : (V8 1 1).toInt = ((V 1 1)).toInt := congrArg Int32.toInt (ajV8 1 1 rfl)
      exact lp21 ((4000 - (Int32.toInt 0) + 1 : Int).toNat) 0 V8 L9 H locs ls (by decide) ⟨sx11, hr15, rl13, keepS.le (keepS.tr (keepS.rf : keepS gs 0 gs) kp14) (by decide), (by omega)⟩ (show (V8 1 1).toInt = (b : Int) from by omega) (by omega) alL9 agr.rf hMV8 hP hD hS (lv_sub hl [0, 1, 2] rfl)
    · skip
      have f84 : z4.toInt = 0 := b_eq rfl (by decide) c16
      exfalso; omega
  · skip
    have hb85 : ∀ k, Rc gT (Crun gs (Iprod gd :: k)) (Cbad (V8 1 3).toInt) := fun k => (hr3 k).tr (h12 (IprodR gd :: k))
    refine lv_if_ne (tgt := 10) hx hb dX1_readProduct_5 (by decide) (fun c86 => ?_) (fun c86 => ?_)
    · skip
      have f87 : z4.toInt ≠ 0 := b_neq rfl (by decide) c86
      exfalso; omega
    · skip
      have f88 : z4.toInt = 0 := b_eq rfl (by decide) c86
      refine lv_iconst (v := 0) hx hb dX1_readProduct_8 (by decide) ?_
      exact W.zret (v := 0) hx hb hr rfl (fun t ht hW => ⟨⟨0, (V8, L9), rfl, ⟨hMV8, agV8, alL9, (by decide), (Or.inr ⟨rfl, hb85⟩)⟩, by rw [ht]; exact hP, va_K.moved hW.alike hK, hD⟩, hS.F ht⟩) hS.2.2 dX1_readProduct_9
set_option maxHeartbeats 4000000 in
set_option maxRecDepth 100000 in
theorem x_readWithin3 {l : Launch} {D : va_G} {ks : KS} {dd : Nat} (hk_x_readExpression3 : K_x_readExpression3 l D ks dd) : K_x_readWithin3 l D ks dd := by
  intro sz ad kk V L Z p0 b gT gs gd hMV rg_p0 hb2 rbk rel yd wh ow y1
  refine g_met (q_x_readWithin3 D ks ad kk V L Z p0 b gT gs gd) (by decide) (Nat.le_of_ble_eq_true rfl) ?_
  intro p e s m below meth c A ls H locs hx hb hr hml hown hg hlocks hin hnw hgk hP hK hD hS hA hl
  have hown : s.vm.findClass RX1 = some m.cls := hown
  have hl : lv_has ls 2 [(0, .ref (ad 1)), (1, .int p0)] := hl
  have hP : va_P D vwCl (xw ad kk V L Z) H := hP
  have hD : va_D A (xw ad kk V L Z) := hD
  have hK : va_K D vwCl (xty kk Z) s := hK
  have agV : agr [(1, 3), (1, 6), (1, 8), (6, 8), (6, 9), (6, 10)] [42, 43, 44, 48] V V := agr.rf
  have alL : agL [6, 44] L L := agL.rf
  have rf_p0 := i_full p0
  have r1 : (-1) ≤ ((V 1 1)).toInt ∧ ((V 1 1)).toInt ≤ 1 := hMV 1 1
  refine lv_aload_n hx hb dX1_readWithin_0 rfl (lv_at hl 0 rfl) ?_
  refine lv_bipush (v := 40) hx hb dX1_readWithin_1 (by decide) ?_
  have hr2 : ∀ k, Rc gT (Crun gs (Itake 40 :: Iexpr (gd + 1) :: Itake 41 :: k)) (Crun gs (Itake 40 :: Iexpr (gd + 1) :: Itake 41 :: k)) := fun k => Rc.rf
  have r3 : Int32.toInt 40 = 40 := by decide
  refine gA_int (gA_runV (As := [.int 40]) (rest := []) (ci := 1) (q0 := 1) hx hb hml hown hg hP hD hK hS hA hnw hgk (x_take2 l D ks H.size ad kk V L Z 40 ((gs.1 0)) hMV (rel).1 (rel).2.1.1 (show 1 ≤ (Int32.toInt 40) from by omega)) w893 w895 w10 w162 w896 rfl xgReader hdV_yX1_take ⟨(by show 1 + 1 ≤ 10 * dd + 10; omega), (by show 8 + (2 + 11) + (21) ≤ 300 * dd + 265; omega)⟩ rfl hl.1 rfl (Nat.le_of_ble_eq_true rfl) dX1_readWithin_3 ⟨Nat.le_of_ble_eq_true rfl, Nat.le_of_ble_eq_true rfl⟩) hP hD hK hS hA (fun z4 u5 H locs w6 hP hD hK hS => ?_)
  obtain ⟨V9, L10⟩ := u5
  obtain ⟨hMV9, ajV9, axL10, rgz4, t7, t8⟩ := w6
  have alL10 : agL [6, 44] L L10 := agL.tr alL axL10 (by decide)
  have hP : va_P D vwCl (xw ad kk V9 L10 Z) H := hP
  have hD : va_D A (xw ad kk V9 L10 Z) := hD
  have hMV9 : rgd bX V9 := hMV9
  have ajV9 : agr [(1, 3), (6, 8), (6, 9), (6, 10)] [] V V9 := ajV9
  have agV9 : agr [(1, 3), (1, 6), (1, 8), (6, 8), (6, 9), (6, 10)] [42, 43, 44, 48] V V9 := agV.tr ajV9 (by decide) (by decide)
  have rgz4 : 0 ≤ z4.toInt ∧ z4.toInt ≤ 1 := rgz4
  have t7 : Imp (z4.toInt = 0) (1 ≤ (V9 1 3).toInt) := t7
  have t8 : (z4.toInt = 1 ∧ (V 12 (gs.1 0)).toInt = (Int32.toInt 40) ∧ CUR V9 L10 ((gs.1 0) + 1) ∧ V9 1 3 = V 1 3) ∨ (z4.toInt = 0 ∧ (V 12 (gs.1 0)).toInt ≠ (Int32.toInt 40) ∧ (V9 1 3).toInt = 1 + 16 * (V 13 (gs.1 0)).toInt) := t8
  rcases t8 with ⟨q11, h12, k13, k14⟩ | ⟨q11, h12, k13⟩
  · skip
    have rl15 : RelC V9 L10 b gT (nx gs 1) := RelC.nx1 rel ajV9 (by decide) axL10 (by decide) k13 k14
    have hr16 : ∀ k, Rc gT (Crun gs (Itake 40 :: Iexpr (gd + 1) :: Itake 41 :: k)) (Crun (nx gs 1) (Iexpr (gd + 1) :: Itake 41 :: k)) := fun k => Rc.go1 (hr2 k) (tk_y (rel.tok.1.trans (h12.trans (by decide))))
    refine lv_if_eq (tgt := 32) hx hb dX1_readWithin_6 (by decide) (fun c17 => ?_) (fun c17 => ?_)
    · skip
      have f18 : z4.toInt = 0 := b_eq rfl (by decide) c17
      exfalso; first | omega | ((try (have i_t7 := Imp.go t7 (by omega))); omega)
    · skip
      have f19 : z4.toInt ≠ 0 := b_neq rfl (by decide) c17
      refine lv_aload_n hx hb dX1_readWithin_9 rfl (lv_at hl 0 rfl) ?_
      refine lv_iload_n hx hb dX1_readWithin_10 rfl (lv_at hl 1 rfl) ?_
      refine lv_iconst (v := 1) hx hb dX1_readWithin_11 (by decide) ?_
      refine lv_iadd hx hb dX1_readWithin_12 ?_
      refine lv_topi (fun z20 ez20 => ?_)
      have hz20 : z20.toInt = p0.toInt + 1 := i_add ez20 rfl (by decide) (by omega)
      have pq21 : (V9 1 1).toInt = ((V 1 1)).toInt := congrArg Int32.toInt (ajV9 1 1 rfl)
      refine gA_int (gA_runV (As := [.int z20]) (rest := []) (ci := 1) (q0 := 1) hx hb hml hown hg hP hD hK hS hA hnw hgk (hk_x_readExpression3 H.size ad kk V9 L10 Z z20 (b) (gT) ((nx gs 1)) ((gd + 1)) hMV9 (by first | omega | ((try (have i_t7 := Imp.go t7 (by omega))); omega)) (show b < 2 from by first | omega | ((try (have i_t7 := Imp.go t7 (by omega))); omega)) (show (V9 1 1).toInt = (b : Int) from by first | omega | ((try (have i_t7 := Imp.go t7 (by omega))); omega)) rl15 (show z20.toInt = ((gd + 1) : Int) from by first | omega | ((try (have i_t7 := Imp.go t7 (by omega))); omega)) (((congrArg Int32.toInt (ajV9 1 4 rfl)).trans wh).trans (congrArg (fun n9 : Nat => (n9 : Int)) (((keepS.tr (keepS.rf : keepS gs 0 gs) (keepS.n1 1))).2.1 4 (by decide)).symm)) (fun h9 => by rw [(ajV9 1 2 rfl)]; exact ow ((congrArg Int32.toInt (ajV9 1 4 rfl)).symm.trans h9)) (show 8 - z20.toInt ≤ (dd : Int) from by first | omega | ((try (have i_t7 := Imp.go t7 (by omega))); omega))) w951 w953 w21 w162 w954 rfl xgReader hdV_yX1_readExpression ⟨(by show 10 * dd + 9 + 1 ≤ 10 * dd + 10; omega), (by show 8 + (3 + 11) + (300 * dd + 240) ≤ 300 * dd + 265; omega)⟩ rfl hl.1 rfl (Nat.le_of_ble_eq_true rfl) dX1_readWithin_13 ⟨Nat.le_of_ble_eq_true rfl, Nat.le_of_ble_eq_true rfl⟩) hP hD hK hS hA (fun z22 u23 H locs w24 hP hD hK hS => ?_)
      obtain ⟨V26, L27⟩ := u23
      obtain ⟨hMV26, ajV26, axL27, rgz22, t25⟩ := w24
      have alL27 : agL [6, 44] L L27 := agL.tr alL10 axL27 (by decide)
      have hP : va_P D vwCl (xw ad kk V26 L27 Z) H := hP
      have hD : va_D A (xw ad kk V26 L27 Z) := hD
      have hMV26 : rgd bX V26 := hMV26
      have ajV26 : agr [(1, 3), (1, 6), (1, 8), (6, 8), (6, 9), (6, 10)] [42, 43, 44, 48] V9 V26 := ajV26
      have agV26 : agr [(1, 3), (1, 6), (1, 8), (6, 8), (6, 9), (6, 10)] [42, 43, 44, 48] V V26 := agV9.tr ajV26 (by decide) (by decide)
      have rgz22 : 0 ≤ z22.toInt ∧ z22.toInt ≤ 1 := rgz22
      have t25 : Rd gT (nx gs 1) (fun k => Iexpr (gd + 1) :: k) (fun k => k) z22.toInt (V26 1 3).toInt (fun s9 => RelC V26 L27 b gT s9 ∧ keepS (nx gs 1) 1 s9) := t25
      rcases t25 with ⟨q28, sx29, h30, rl31, kp32⟩ | ⟨q28, h30⟩
      · skip
        have hr33 : ∀ k, Rc gT (Crun gs (Itake 40 :: Iexpr (gd + 1) :: Itake 41 :: k)) (Crun sx29 (Itake 41 :: k)) := fun k => (hr16 k).tr (h30 (Itake 41 :: k))
        refine lv_if_eq (tgt := 32) hx hb dX1_readWithin_16 (by decide) (fun c34 => ?_) (fun c34 => ?_)
        · skip
          have f35 : z22.toInt = 0 := b_eq rfl (by decide) c34
          exfalso; first | omega | ((try (have i_t7 := Imp.go t7 (by omega))); omega)
        · skip
          have f36 : z22.toInt ≠ 0 := b_neq rfl (by decide) c34
          refine lv_aload_n hx hb dX1_readWithin_19 rfl (lv_at hl 0 rfl) ?_
          refine lv_bipush (v := 41) hx hb dX1_readWithin_20 (by decide) ?_
          have r37 : Int32.toInt 41 = 41 := by decide
          refine gA_int (gA_runV (As := [.int 41]) (rest := []) (ci := 1) (q0 := 1) hx hb hml hown hg hP hD hK hS hA hnw hgk (x_take2 l D ks H.size ad kk V26 L27 Z 41 ((sx29.1 0)) hMV26 (rl31).1 (rl31).2.1.1 (show 1 ≤ (Int32.toInt 41) from by first | omega | ((try (have i_t7 := Imp.go t7 (by omega))); omega))) w893 w895 w10 w162 w896 rfl xgReader hdV_yX1_take ⟨(by show 1 + 1 ≤ 10 * dd + 10; omega), (by show 8 + (2 + 11) + (21) ≤ 300 * dd + 265; omega)⟩ rfl hl.1 rfl (Nat.le_of_ble_eq_true rfl) dX1_readWithin_22 ⟨Nat.le_of_ble_eq_true rfl, Nat.le_of_ble_eq_true rfl⟩) hP hD hK hS hA (fun z38 u39 H locs w40 hP hD hK hS => ?_)
          obtain ⟨V43, L44⟩ := u39
          obtain ⟨hMV43, ajV43, axL44, rgz38, t41, t42⟩ := w40
          have alL44 : agL [6, 44] L L44 := agL.tr alL27 axL44 (by decide)
          have hP : va_P D vwCl (xw ad kk V43 L44 Z) H := hP
          have hD : va_D A (xw ad kk V43 L44 Z) := hD
          have hMV43 : rgd bX V43 := hMV43
          have ajV43 : agr [(1, 3), (6, 8), (6, 9), (6, 10)] [] V26 V43 := ajV43
          have agV43 : agr [(1, 3), (1, 6), (1, 8), (6, 8), (6, 9), (6, 10)] [42, 43, 44, 48] V V43 := agV26.tr ajV43 (by decide) (by decide)
          have rgz38 : 0 ≤ z38.toInt ∧ z38.toInt ≤ 1 := rgz38
          have t41 : Imp (z38.toInt = 0) (1 ≤ (V43 1 3).toInt) := t41
          have t42 : (z38.toInt = 1 ∧ (V26 12 (sx29.1 0)).toInt = (Int32.toInt 41) ∧ CUR V43 L44 ((sx29.1 0) + 1) ∧ V43 1 3 = V26 1 3) ∨ (z38.toInt = 0 ∧ (V26 12 (sx29.1 0)).toInt ≠ (Int32.toInt 41) ∧ (V43 1 3).toInt = 1 + 16 * (V26 13 (sx29.1 0)).toInt) := t42
          rcases t42 with ⟨q45, h46, k47, k48⟩ | ⟨q45, h46, k47⟩
          · skip
            have rl49 : RelC V43 L44 b gT (nx sx29 1) := RelC.nx1 rl31 ajV43 (by decide) axL44 (by decide) k47 k48
            have hr50 : ∀ k, Rc gT (Crun gs (Itake 40 :: Iexpr (gd + 1) :: Itake 41 :: k)) (Crun (nx sx29 1) (k)) := fun k => Rc.go1 (hr33 k) (tk_y (rl31.tok.1.trans (h46.trans (by decide))))
            refine lv_if_eq (tgt := 32) hx hb dX1_readWithin_25 (by decide) (fun c51 => ?_) (fun c51 => ?_)
            · skip
              have f52 : z38.toInt = 0 := b_eq rfl (by decide) c51
              exfalso; first | omega | ((try (have i_t41 := Imp.go t41 (by omega))); (try (have i_t7 := Imp.go t7 (by omega))); (try (have i_t7 := Imp.go t7 (by omega))); (try (have i_t41 := Imp.go t41 (by omega))); omega)
            · skip
              have f53 : z38.toInt ≠ 0 := b_neq rfl (by decide) c51
              refine lv_iconst (v := 1) hx hb dX1_readWithin_28 (by decide) ?_
              refine lv_goto (tgt := 33) hx hb dX1_readWithin_29 (by decide) ?_
              exact W.zret (v := 1) hx hb hr rfl (fun t ht hW => ⟨⟨1, (V43, L44), rfl, ⟨hMV43, agV43, alL44, (by decide), (Or.inl ⟨rfl, (nx sx29 1), hr50, rl49, keepS.le (keepS.tr (keepS.tr (keepS.tr (keepS.rf : keepS gs 0 gs) (keepS.n1 1)) kp32) (keepS.n1 1)) (by decide)⟩)⟩, by rw [ht]; exact hP, va_K.moved hW.alike hK, hD⟩, hS.F ht⟩) hS.2.2 dX1_readWithin_33
          · skip
            have hb54 : ∀ k, Rc gT (Crun gs (Itake 40 :: Iexpr (gd + 1) :: Itake 41 :: k)) (Cbad (V43 1 3).toInt) := fun k => Rc.go1 (hr33 k) ((tk_n (fun h9 => h46 (rl31.tok.1.symm.trans (h9.trans (by decide))))).trans (fl_eq rl31.tok.2.2 k47))
            refine lv_if_eq (tgt := 32) hx hb dX1_readWithin_25 (by decide) (fun c55 => ?_) (fun c55 => ?_)
            · skip
              have f56 : z38.toInt = 0 := b_eq rfl (by decide) c55
              refine lv_iconst (v := 0) hx hb dX1_readWithin_32 (by decide) ?_
              exact W.zret (v := 0) hx hb hr rfl (fun t ht hW => ⟨⟨0, (V43, L44), rfl, ⟨hMV43, agV43, alL44, (by decide), (Or.inr ⟨rfl, hb54⟩)⟩, by rw [ht]; exact hP, va_K.moved hW.alike hK, hD⟩, hS.F ht⟩) hS.2.2 dX1_readWithin_33
            · skip
              have f57 : z38.toInt ≠ 0 := b_neq rfl (by decide) c55
              exfalso; first | omega | ((try (have i_t41 := Imp.go t41 (by omega))); (try (have i_t7 := Imp.go t7 (by omega))); (try (have i_t7 := Imp.go t7 (by omega))); (try (have i_t41 := Imp.go t41 (by omega))); omega)
      · skip
        have hb58 : ∀ k, Rc gT (Crun gs (Itake 40 :: Iexpr (gd + 1) :: Itake 41 :: k)) (Cbad (V26 1 3).toInt) := fun k => (hr16 k).tr (h30 (Itake 41 :: k))
        refine lv_if_eq (tgt := 32) hx hb dX1_readWithin_16 (by decide) (fun c59 => ?_) (fun c59 => ?_)
        · skip
          have f60 : z22.toInt = 0 := b_eq rfl (by decide) c59
          refine lv_iconst (v := 0) hx hb dX1_readWithin_32 (by decide) ?_
          exact W.zret (v := 0) hx hb hr rfl (fun t ht hW => ⟨⟨0, (V26, L27), rfl, ⟨hMV26, agV26, alL27, (by decide), (Or.inr ⟨rfl, hb58⟩)⟩, by rw [ht]; exact hP, va_K.moved hW.alike hK, hD⟩, hS.F ht⟩) hS.2.2 dX1_readWithin_33
        · skip
          have f61 : z22.toInt ≠ 0 := b_neq rfl (by decide) c59
          exfalso; first | omega | ((try (have i_t7 := Imp.go t7 (by omega))); omega)
  · skip
    have hb62 : ∀ k, Rc gT (Crun gs (Itake 40 :: Iexpr (gd + 1) :: Itake 41 :: k)) (Cbad (V9 1 3).toInt) := fun k => Rc.go1 (hr2 k) ((tk_n (fun h9 => h12 (rel.tok.1.symm.trans (h9.trans (by decide))))).trans (fl_eq rel.tok.2.2 k13))
    refine lv_if_eq (tgt := 32) hx hb dX1_readWithin_6 (by decide) (fun c63 => ?_) (fun c63 => ?_)
    · skip
      have f64 : z4.toInt = 0 := b_eq rfl (by decide) c63
      refine lv_iconst (v := 0) hx hb dX1_readWithin_32 (by decide) ?_
      exact W.zret (v := 0) hx hb hr rfl (fun t ht hW => ⟨⟨0, (V9, L10), rfl, ⟨hMV9, agV9, alL10, (by decide), (Or.inr ⟨rfl, hb62⟩)⟩, by rw [ht]; exact hP, va_K.moved hW.alike hK, hD⟩, hS.F ht⟩) hS.2.2 dX1_readWithin_33
    · skip
      have f65 : z4.toInt ≠ 0 := b_neq rfl (by decide) c63
      exfalso; first | omega | ((try (have i_t7 := Imp.go t7 (by omega))); omega)
set_option maxHeartbeats 4000000 in
set_option maxRecDepth 100000 in
theorem x_readPart3 {l : Launch} {D : va_G} {ks : KS} {dd : Nat} (hk_x_readExpression3 : ∀ d9, dd = d9 + 1 → K_x_readExpression3 l D ks d9) (hk_x_readPart3 : ∀ d9, dd = d9 + 1 → K_x_readPart3 l D ks d9) (hk_x_readPick3 : ∀ d9, dd = d9 + 1 → K_x_readPick3 l D ks d9) (hk_x_readOf3 : ∀ d9, dd = d9 + 1 → K_x_readOf3 l D ks d9) (hk_x_readWithin3 : ∀ d9, dd = d9 + 1 → K_x_readWithin3 l D ks d9) : K_x_readPart3 l D ks dd := by
  intro sz ad kk V L Z p0 b gT gs gd hMV rg_p0 hb2 rbk rel yd wh ow y1
  refine g_met (q_x_readPart3 D ks ad kk V L Z p0 b gT gs gd) (by decide) (Nat.le_of_ble_eq_true rfl) ?_
  intro p e s m below meth c A ls H locs hx hb hr hml hown hg hlocks hin hnw hgk hP hK hD hS hA hl
  have hown : s.vm.findClass RX1 = some m.cls := hown
  have hl : lv_has ls 5 [(0, .ref (ad 1)), (1, .int p0)] := hl
  have hP : va_P D vwCl (xw ad kk V L Z) H := hP
  have hD : va_D A (xw ad kk V L Z) := hD
  have hK : va_K D vwCl (xty kk Z) s := hK
  have agV : agr [(1, 3), (1, 6), (1, 8), (6, 8), (6, 9), (6, 10)] [42, 43, 44, 48] V V := agr.rf
  have alL : agL [6, 44] L L := agL.rf
  have rf_p0 := i_full p0
  have r1 : (-1) ≤ ((V 1 1)).toInt ∧ ((V 1 1)).toInt ≤ 1 := hMV 1 1
  refine lv_aload_n hx hb dX1_readPart_0 rfl (lv_at hl 0 rfl) ?_
  refine gA_int (gA_runV (As := []) (rest := []) (ci := 1) (q0 := 1) hx hb hml hown hg hP hD hK hS hA hnw hgk (x_beginsPart3 l D ks H.size ad kk V L Z (b) (gT) (gs) hMV (show b < 2 from by omega) (show (V 1 1).toInt = (b : Int) from by omega) rel wh) w967 w969 w25 w162 w970 rfl xgReader hdV_yX1_beginsPart ⟨(by show 0 + 1 ≤ 10 * dd + 6; omega), (by show 8 + (1 + 11) + (0) ≤ 300 * dd + 150; omega)⟩ rfl hl.1 rfl (Nat.le_of_ble_eq_true rfl) dX1_readPart_1 ⟨Nat.le_of_ble_eq_true rfl, Nat.le_of_ble_eq_true rfl⟩) hP hD hK hS hA (fun z2 u3 H locs w4 hP hD hK hS => ?_)
  obtain ⟨rgz2, t5⟩ := w4
  have rgz2 : 0 ≤ z2.toInt ∧ z2.toInt ≤ 1 := rgz2
  have t5 : (z2.toInt = 1 ∧ bgP gT gs) ∨ (z2.toInt = 0 ∧ ¬ bgP gT gs) := t5
  rcases t5 with ⟨q6, h7⟩ | ⟨q6, h7⟩
  · skip
    refine lv_if_ne (tgt := 13) hx hb dX1_readPart_4 (by decide) (fun c8 => ?_) (fun c8 => ?_)
    · skip
      have f9 : z2.toInt ≠ 0 := b_neq rfl (by decide) c8
      refine lv_iload_n hx hb dX1_readPart_13 rfl (lv_at hl 1 rfl) ?_
      refine lv_bipush (v := 8) hx hb dX1_readPart_14 (by decide) ?_
      refine lv_icmp_lt (tgt := 25) hx hb dX1_readPart_16 (by decide) (fun c10 => ?_) (fun c10 => ?_)
      · skip
        have f11 : p0.toInt < 8 := b_lt rfl (by decide) c10
        refine lv_aload_n hx hb dX1_readPart_25 rfl (lv_at hl 0 rfl) ?_
        obtain ⟨d9, rfl⟩ : ∃ d9, dd = d9 + 1 := ⟨dd - 1, by omega⟩
        refine va_get (D := D) (ci := 1) (v := .ref (ad 6)) (fs := (xfReader ad V L Z)) (C := RX1) (T := TX1) (N := 9) hx hb hg inX1 hown hK hP 1 xgReader rfl 0 (by decide) (hg _ w304) (fun _ h9 => h9) rfl dX1_readPart_26 ?_
        refine va_getN (D := D) (ci := 9) (v := .int (V 6 9)) (fs := (xfTape ad V L Z)) (C := RX9) (T := TX9) (N := 12) hx hb hg inX9 hown hK hP 6 xgTape rfl 9 (by decide) (hnw.use 262 n262 rfl) (fun _ h9 => h9) rfl dX1_readPart_29 ?_
        refine lv_istore_n (lv' := [(2, .int (V 6 9)), (0, .ref (ad 1)), (1, .int p0)]) hx hb dX1_readPart_32 rfl hl (by decide) rfl (fun ls hl => ?_)
        refine lv_aload_n hx hb dX1_readPart_33 rfl (lv_at hl 1 rfl) ?_
        refine va_get (D := D) (ci := 1) (v := .ref (ad 6)) (fs := (xfReader ad V L Z)) (C := RX1) (T := TX1) (N := 9) hx hb hg inX1 hown hK hP 1 xgReader rfl 0 (by decide) (hg _ w304) (fun _ h9 => h9) rfl dX1_readPart_34 ?_
        refine va_getN (D := D) (ci := 9) (v := .long (L 6 11)) (fs := (xfTape ad V L Z)) (C := RX9) (T := TX9) (N := 12) hx hb hg inX9 hown hK hP 6 xgTape rfl 11 (by decide) (hnw.use 269 n269 rfl) (fun _ h9 => h9) rfl dX1_readPart_37 ?_
        refine lv_lstore_n (lv' := [(3, .long (L 6 11)), (2, .int (V 6 9)), (0, .ref (ad 1)), (1, .int p0)]) hx hb dX1_readPart_40 rfl hl (by decide) rfl (fun ls hl => ?_)
        refine lv_aload_n hx hb dX1_readPart_41 rfl (lv_at hl 2 rfl) ?_
        refine va_get (D := D) (ci := 1) (v := rfN ad 38 (V 1 1)) (fs := (xfReader ad V L Z)) (C := RX1) (T := TX1) (N := 9) hx hb hg inX1 hown hK hP 1 xgReader rfl 1 (by decide) (hg _ w305) (fun _ h9 => h9) rfl dX1_readPart_42 ?_
        refine g_topv (v := .ref (ad (38 + b))) (rfN_r (by omega)) ?_
        refine lv_iconst (v := 1) hx hb dX1_readPart_45 (by decide) ?_
        have r12 : Int32.toInt 1 = 1 := by decide
        refine gA_void (gA_runV (As := [.int 1]) (rest := []) (ci := 0) (q0 := (38 + b)) hx hb hml hown hg hP hD hK hS hA hnw hgk (x_emit l D ks H.size ad kk V L Z 1 (b) hMV (show b < 2 from by omega)) w971 w972 w973 w167 w974 rfl (xgBook hb2) hdV_yX0_emit ⟨(by show 0 + 1 ≤ 10 * (d9 + 1) + 6; omega), (by show 8 + (2 + 11) + (0) ≤ 300 * (d9 + 1) + 150; omega)⟩ rfl hl.1 rfl (Nat.le_of_ble_eq_true rfl) dX1_readPart_46 ⟨Nat.le_of_ble_eq_true rfl, Nat.le_of_ble_eq_true rfl⟩) hP hD hK hS hA (fun u14 H locs w15 hP hD hK hS => ?_)
        obtain ⟨V17, L18⟩ := u14
        obtain ⟨hMV17, ajV17, axL18, fyV17, t16⟩ := w15
        have axL18 : L = L18 := Eq.symm axL18
        subst axL18
        have hP : va_P D vwCl (xw ad kk V17 L Z) H := hP
        have hD : va_D A (xw ad kk V17 L Z) := hD
        have hMV17 : rgd bX V17 := hMV17
        have ajV17 : agr [] [42, 48] V V17 := ajV17
        have agV17 : agr [(1, 3), (1, 6), (1, 8), (6, 8), (6, 9), (6, 10)] [42, 43, 44, 48] V V17 := agV.tr ajV17 (by decide) (by decide)
        have t16 : emX V V17 b 1 := t16
        have rl19 : RelC V17 L b gT gs := RelC.ag rel (show agr [] [42, 48] V V17 from (agr.tr agr.rf ajV17 (by decide) (by decide))) (by decide) (show agL [] L L from agL.rf) (by decide)
        have kd20 : gT.1 (gs.1 0) = ((V 6 9)).toInt := (RelC.kd rl19).trans (congrArg Int32.toInt (ajV17 6 9 rfl))
        have kn9 := bg_ne h7
        refine lv_aload_n hx hb dX1_readPart_49 rfl (lv_at hl 2 rfl) ?_
        refine va_get (D := D) (ci := 1) (v := .ref (ad 6)) (fs := (xfReader ad V17 L Z)) (C := RX1) (T := TX1) (N := 9) hx hb hg inX1 hown hK hP 1 xgReader rfl 0 (by decide) (hg _ w304) (fun _ h9 => h9) rfl dX1_readPart_50 ?_
        have l821 := RelC.l8 rl19
        have pq22 : (V17 6 8).toInt = ((V 6 8)).toInt := congrArg Int32.toInt (ajV17 6 8 rfl)
        have r23 : 0 ≤ ((V 6 8)).toInt ∧ ((V 6 8)).toInt ≤ 4000 := hMV 6 8
        have pq24 : (V17 6 7).toInt = ((V 6 7)).toInt := congrArg Int32.toInt (ajV17 6 7 rfl)
        have r25 : 0 ≤ ((V 6 7)).toInt ∧ ((V 6 7)).toInt ≤ 4000 := hMV 6 7
        have pq26 : (V17 6 9).toInt = ((V 6 9)).toInt := congrArg Int32.toInt (ajV17 6 9 rfl)
        have lk27 := RelC.lk rl19 (show (V17 6 9).toInt ≠ 0 from by omega)
        refine gA_void (gA_runV (As := []) (rest := []) (ci := 9) (q0 := 6) hx hb hml hown hg hP hD hK hS hA hnw hgk (x_next2 l D ks H.size ad kk V17 L Z  hMV17 (show (V17 6 8).toInt ≤ (V17 6 7).toInt from by omega)) w871 w852 w853 w157 w854 rfl xgTape hdV_yX9_next ⟨(by show 0 + 1 ≤ 10 * (d9 + 1) + 6; omega), (by show 8 + (1 + 11) + (0) ≤ 300 * (d9 + 1) + 150; omega)⟩ rfl hl.1 rfl (Nat.le_of_ble_eq_true rfl) dX1_readPart_53 ⟨Nat.le_of_ble_eq_true rfl, Nat.le_of_ble_eq_true rfl⟩) hP hD hK hS hA (fun u29 H locs w30 hP hD hK hS => ?_)
        obtain ⟨V33, L34⟩ := u29
        obtain ⟨hMV33, ajV33, axL34, t31, t32⟩ := w30
        have alL34 : agL [6, 44] L L34 := agL.tr alL axL34 (by decide)
        have hP : va_P D vwCl (xw ad kk V33 L34 Z) H := hP
        have hD : va_D A (xw ad kk V33 L34 Z) := hD
        have hMV33 : rgd bX V33 := hMV33
        have ajV33 : agr [(6, 8), (6, 9), (6, 10)] [] V17 V33 := ajV33
        have agV33 : agr [(1, 3), (1, 6), (1, 8), (6, 8), (6, 9), (6, 10)] [42, 43, 44, 48] V V33 := agV17.tr ajV33 (by decide) (by decide)
        have t31 : (V33 6 8).toInt ≤ (V33 6 7).toInt := t31
        have t32 : CUR V33 L34 (Int32.toNatClampNeg (V17 6 8)) := t32
        have r35 : 0 ≤ ((V33 6 8)).toInt ∧ ((V33 6 8)).toInt ≤ 4000 := hMV33 6 8
        have pq36 : (V33 6 7).toInt = ((V 6 7)).toInt := congrArg Int32.toInt ((ajV33 6 7 rfl).trans (ajV17 6 7 rfl))
        have rl37 : RelC V33 L34 b gT (nx gs 1) := RelC.nx1 rl19 ajV33 (by decide) axL34 (by decide) (by rw [← lk27]; exact t32) (ajV33 1 3 rfl)
        refine lv_iload_n hx hb dX1_readPart_56 rfl (lv_at hl 1 rfl) ?_
        by_cases q38 : (V 6 9) = 2
        · refine g_top (v := 2) q38 ?_
          have fq38 : ((V 6 9)).toInt = 2 := b_eq rfl (by decide) q38
          refine lv_lookup (x := 2) (off := 75) (tgt := 132) hx hb dX1_readPart_57 (by decide) (by decide) (by decide) ?_
          have hr39 : ∀ k, Rc gT (Crun gs (Ipart gd :: k)) (Crun gs (Ipart gd :: k)) := fun k => Rc.rf
          have hr40 : ∀ k, Rc gT (Crun gs (Ipart gd :: k)) (Crun (nx gs 1) (k)) := fun k => Rc.go1 (hr39 k) (pw_2 gd h7 (by omega) (kd20.trans fq38))
          refine lv_aload_n hx hb dX1_readPart_132 rfl (lv_at hl 2 rfl) ?_
          refine lv_bipush (v := 10) hx hb dX1_readPart_133 (by decide) ?_
          refine lv_lload_n hx hb dX1_readPart_135 rfl (lv_at hl 0 rfl) ?_
          refine lv_l2i hx hb dX1_readPart_136 rfl ?_
          refine lv_topi (fun z41 ez41 => ?_)
          have hz41 := l2i_f ez41
          have r42 : Int32.toInt 10 = 10 := by decide
          have pq43 : (V33 1 1).toInt = ((V 1 1)).toInt := congrArg Int32.toInt ((ajV33 1 1 rfl).trans (ajV17 1 1 rfl))
          refine gA_int (gA_runV (As := [.int 10, .int z41]) (rest := []) (ci := 1) (q0 := 1) hx hb hml hown hg hP hD hK hS hA hnw hgk (x_put3 l D ks H.size ad kk V33 L34 Z 10 z41 (b) hMV33 (show b < 2 from by first | omega | ((try (have i_hz41 := Imp.go hz41 (by omega))); omega)) (show (V33 1 1).toInt = (b : Int) from by first | omega | ((try (have i_hz41 := Imp.go hz41 (by omega))); omega))) w975 w977 w26 w162 w978 rfl xgReader hdV_yX1_put ⟨(by show 1 + 1 ≤ 10 * (d9 + 1) + 6; omega), (by show 8 + (3 + 11) + (21) ≤ 300 * (d9 + 1) + 150; omega)⟩ rfl hl.1 rfl (Nat.le_of_ble_eq_true rfl) dX1_readPart_137 ⟨Nat.le_of_ble_eq_true rfl, Nat.le_of_ble_eq_true rfl⟩) hP hD hK hS hA (fun z44 u45 H locs w46 hP hD hK hS => ?_)
          obtain ⟨V47, L48⟩ := u45
          obtain ⟨hMV47, ajV47, axL48, rgz44⟩ := w46
          have axL48 : L34 = L48 := Eq.symm axL48
          subst axL48
          have hP : va_P D vwCl (xw ad kk V47 L34 Z) H := hP
          have hD : va_D A (xw ad kk V47 L34 Z) := hD
          have hMV47 : rgd bX V47 := hMV47
          have ajV47 : agr [] [42, 48] V33 V47 := ajV47
          have agV47 : agr [(1, 3), (1, 6), (1, 8), (6, 8), (6, 9), (6, 10)] [42, 43, 44, 48] V V47 := agV33.tr ajV47 (by decide) (by decide)
          have rgz44 : 1 ≤ z44.toInt ∧ z44.toInt ≤ 1 := rgz44
          have rl49 : RelC V47 L34 b gT (nx gs 1) := RelC.ag rl37 (show agr [] [42, 48] V33 V47 from (agr.tr agr.rf ajV47 (by decide) (by decide))) (by decide) (show agL [] L34 L34 from agL.rf) (by decide)
          exact W.zret (v := z44) hx hb hr (nb_ok (by omega)) (fun t ht hW => ⟨⟨z44, (V47, L34), rfl, ⟨hMV47, agV47, alL34, (show 0 ≤ z44.toInt ∧ z44.toInt ≤ 1 from by first | omega | ((try (have i_hz41 := Imp.go hz41 (by omega))); omega)), (Or.inl ⟨(by omega), (nx gs 1), hr40, rl49, keepS.le (keepS.tr (keepS.rf : keepS gs 0 gs) (keepS.n1 1)) (by decide)⟩)⟩, by rw [ht]; exact hP, va_K.moved hW.alike hK, hD⟩, hS.F ht⟩) hS.2.2 dX1_readPart_140
        have gq38 : ((V 6 9)).toInt ≠ 2 := b_neq rfl (by decide) q38
        by_cases q50 : (V 6 9) = 40
        · refine g_top (v := 40) q50 ?_
          have fq50 : ((V 6 9)).toInt = 40 := b_eq rfl (by decide) q50
          refine lv_lookup (x := 40) (off := 90) (tgt := 147) hx hb dX1_readPart_57 (by decide) (by decide) (by decide) ?_
          have hr51 : ∀ k, Rc gT (Crun gs (Ipart gd :: k)) (Crun gs (Ipart gd :: k)) := fun k => Rc.rf
          have hr52 : ∀ k, Rc gT (Crun gs (Ipart gd :: k)) (Crun (nx gs 1) (Iexpr (gd + 1) :: Itake 41 :: k)) := fun k => Rc.go1 (hr51 k) (pw_40 gd h7 (by omega) (kd20.trans fq50))
          refine lv_aload_n hx hb dX1_readPart_147 rfl (lv_at hl 2 rfl) ?_
          refine lv_iload_n hx hb dX1_readPart_148 rfl (lv_at hl 3 rfl) ?_
          refine lv_iconst (v := 1) hx hb dX1_readPart_149 (by decide) ?_
          refine lv_iadd hx hb dX1_readPart_150 ?_
          refine lv_topi (fun z53 ez53 => ?_)
          have hz53 : z53.toInt = p0.toInt + 1 := i_add ez53 rfl (by decide) (by omega)
          have pq54 : (V33 1 1).toInt = ((V 1 1)).toInt := congrArg Int32.toInt ((ajV33 1 1 rfl).trans (ajV17 1 1 rfl))
          refine gA_int (gA_runV (As := [.int z53]) (rest := []) (ci := 1) (q0 := 1) hx hb hml hown hg hP hD hK hS hA hnw hgk ((hk_x_readExpression3 d9 rfl) H.size ad kk V33 L34 Z z53 (b) (gT) ((nx gs 1)) ((gd + 1)) hMV33 (by omega) (show b < 2 from by omega) (show (V33 1 1).toInt = (b : Int) from by omega) rl37 (show z53.toInt = ((gd + 1) : Int) from by omega) (((congrArg Int32.toInt ((ajV33 1 4 rfl).trans (ajV17 1 4 rfl))).trans wh).trans (congrArg (fun n9 : Nat => (n9 : Int)) (((keepS.tr (keepS.rf : keepS gs 0 gs) (keepS.n1 1))).2.1 4 (by decide)).symm)) (fun h9 => by rw [((ajV33 1 2 rfl).trans (ajV17 1 2 rfl))]; exact ow ((congrArg Int32.toInt ((ajV33 1 4 rfl).trans (ajV17 1 4 rfl))).symm.trans h9)) (show 8 - z53.toInt ≤ ((d9 : Nat) : Int) from by omega)) w951 w953 w21 w162 w954 rfl xgReader hdV_yX1_readExpression ⟨(by show 10 * d9 + 9 + 1 ≤ 10 * (d9 + 1) + 6; omega), (by show 8 + (3 + 11) + (300 * d9 + 240) ≤ 300 * (d9 + 1) + 150; omega)⟩ rfl hl.1 rfl (Nat.le_of_ble_eq_true rfl) dX1_readPart_151 ⟨Nat.le_of_ble_eq_true rfl, Nat.le_of_ble_eq_true rfl⟩) hP hD hK hS hA (fun z55 u56 H locs w57 hP hD hK hS => ?_)
          obtain ⟨V59, L60⟩ := u56
          obtain ⟨hMV59, ajV59, axL60, rgz55, t58⟩ := w57
          have alL60 : agL [6, 44] L L60 := agL.tr alL34 axL60 (by decide)
          have hP : va_P D vwCl (xw ad kk V59 L60 Z) H := hP
          have hD : va_D A (xw ad kk V59 L60 Z) := hD
          have hMV59 : rgd bX V59 := hMV59
          have ajV59 : agr [(1, 3), (1, 6), (1, 8), (6, 8), (6, 9), (6, 10)] [42, 43, 44, 48] V33 V59 := ajV59
          have agV59 : agr [(1, 3), (1, 6), (1, 8), (6, 8), (6, 9), (6, 10)] [42, 43, 44, 48] V V59 := agV33.tr ajV59 (by decide) (by decide)
          have rgz55 : 0 ≤ z55.toInt ∧ z55.toInt ≤ 1 := rgz55
          have t58 : Rd gT (nx gs 1) (fun k => Iexpr (gd + 1) :: k) (fun k => k) z55.toInt (V59 1 3).toInt (fun s9 => RelC V59 L60 b gT s9 ∧ keepS (nx gs 1) 1 s9) := t58
          rcases t58 with ⟨q61, sx62, h63, rl64, kp65⟩ | ⟨q61, h63⟩
          · skip
            have hr66 : ∀ k, Rc gT (Crun gs (Ipart gd :: k)) (Crun sx62 (Itake 41 :: k)) := fun k => (hr52 k).tr (h63 (Itake 41 :: k))
            refine lv_if_eq (tgt := 170) hx hb dX1_readPart_154 (by decide) (fun c67 => ?_) (fun c67 => ?_)
            · skip
              have f68 : z55.toInt = 0 := b_eq rfl (by decide) c67
              exfalso; omega
            · skip
              have f69 : z55.toInt ≠ 0 := b_neq rfl (by decide) c67
              refine lv_aload_n hx hb dX1_readPart_157 rfl (lv_at hl 2 rfl) ?_
              refine lv_bipush (v := 41) hx hb dX1_readPart_158 (by decide) ?_
              have r70 : Int32.toInt 41 = 41 := by decide
              refine gA_int (gA_runV (As := [.int 41]) (rest := []) (ci := 1) (q0 := 1) hx hb hml hown hg hP hD hK hS hA hnw hgk (x_take2 l D ks H.size ad kk V59 L60 Z 41 ((sx62.1 0)) hMV59 (rl64).1 (rl64).2.1.1 (show 1 ≤ (Int32.toInt 41) from by omega)) w893 w895 w10 w162 w896 rfl xgReader hdV_yX1_take ⟨(by show 1 + 1 ≤ 10 * (d9 + 1) + 6; omega), (by show 8 + (2 + 11) + (21) ≤ 300 * (d9 + 1) + 150; omega)⟩ rfl hl.1 rfl (Nat.le_of_ble_eq_true rfl) dX1_readPart_160 ⟨Nat.le_of_ble_eq_true rfl, Nat.le_of_ble_eq_true rfl⟩) hP hD hK hS hA (fun z71 u72 H locs w73 hP hD hK hS => ?_)
              obtain ⟨V76, L77⟩ := u72
              obtain ⟨hMV76, ajV76, axL77, rgz71, t74, t75⟩ := w73
              have alL77 : agL [6, 44] L L77 := agL.tr alL60 axL77 (by decide)
              have hP : va_P D vwCl (xw ad kk V76 L77 Z) H := hP
              have hD : va_D A (xw ad kk V76 L77 Z) := hD
              have hMV76 : rgd bX V76 := hMV76
              have ajV76 : agr [(1, 3), (6, 8), (6, 9), (6, 10)] [] V59 V76 := ajV76
              have agV76 : agr [(1, 3), (1, 6), (1, 8), (6, 8), (6, 9), (6, 10)] [42, 43, 44, 48] V V76 := agV59.tr ajV76 (by decide) (by decide)
              have rgz71 : 0 ≤ z71.toInt ∧ z71.toInt ≤ 1 := rgz71
              have t74 : Imp (z71.toInt = 0) (1 ≤ (V76 1 3).toInt) := t74
              have t75 : (z71.toInt = 1 ∧ (V59 12 (sx62.1 0)).toInt = (Int32.toInt 41) ∧ CUR V76 L77 ((sx62.1 0) + 1) ∧ V76 1 3 = V59 1 3) ∨ (z71.toInt = 0 ∧ (V59 12 (sx62.1 0)).toInt ≠ (Int32.toInt 41) ∧ (V76 1 3).toInt = 1 + 16 * (V59 13 (sx62.1 0)).toInt) := t75
              rcases t75 with ⟨q78, h79, k80, k81⟩ | ⟨q78, h79, k80⟩
              · skip
                have rl82 : RelC V76 L77 b gT (nx sx62 1) := RelC.nx1 rl64 ajV76 (by decide) axL77 (by decide) k80 k81
                have hr83 : ∀ k, Rc gT (Crun gs (Ipart gd :: k)) (Crun (nx sx62 1) (k)) := fun k => Rc.go1 (hr66 k) (tk_y (rl64.tok.1.trans (h79.trans (by decide))))
                refine lv_if_eq (tgt := 170) hx hb dX1_readPart_163 (by decide) (fun c84 => ?_) (fun c84 => ?_)
                · skip
                  have f85 : z71.toInt = 0 := b_eq rfl (by decide) c84
                  exfalso; first | omega | ((try (have i_t74 := Imp.go t74 (by omega))); omega)
                · skip
                  have f86 : z71.toInt ≠ 0 := b_neq rfl (by decide) c84
                  refine lv_iconst (v := 1) hx hb dX1_readPart_166 (by decide) ?_
                  refine lv_goto (tgt := 171) hx hb dX1_readPart_167 (by decide) ?_
                  exact W.zret (v := 1) hx hb hr rfl (fun t ht hW => ⟨⟨1, (V76, L77), rfl, ⟨hMV76, agV76, alL77, (by decide), (Or.inl ⟨rfl, (nx sx62 1), hr83, rl82, keepS.le (keepS.tr (keepS.tr (keepS.tr (keepS.rf : keepS gs 0 gs) (keepS.n1 1)) kp65) (keepS.n1 1)) (by decide)⟩)⟩, by rw [ht]; exact hP, va_K.moved hW.alike hK, hD⟩, hS.F ht⟩) hS.2.2 dX1_readPart_171
              · skip
                have hb87 : ∀ k, Rc gT (Crun gs (Ipart gd :: k)) (Cbad (V76 1 3).toInt) := fun k => Rc.go1 (hr66 k) ((tk_n (fun h9 => h79 (rl64.tok.1.symm.trans (h9.trans (by decide))))).trans (fl_eq rl64.tok.2.2 k80))
                refine lv_if_eq (tgt := 170) hx hb dX1_readPart_163 (by decide) (fun c88 => ?_) (fun c88 => ?_)
                · skip
                  have f89 : z71.toInt = 0 := b_eq rfl (by decide) c88
                  refine lv_iconst (v := 0) hx hb dX1_readPart_170 (by decide) ?_
                  exact W.zret (v := 0) hx hb hr rfl (fun t ht hW => ⟨⟨0, (V76, L77), rfl, ⟨hMV76, agV76, alL77, (by decide), (Or.inr ⟨rfl, hb87⟩)⟩, by rw [ht]; exact hP, va_K.moved hW.alike hK, hD⟩, hS.F ht⟩) hS.2.2 dX1_readPart_171
                · skip
                  have f90 : z71.toInt ≠ 0 := b_neq rfl (by decide) c88
                  exfalso; first | omega | ((try (have i_t74 := Imp.go t74 (by omega))); omega)
          · skip
            have hb91 : ∀ k, Rc gT (Crun gs (Ipart gd :: k)) (Cbad (V59 1 3).toInt) := fun k => (hr52 k).tr (h63 (Itake 41 :: k))
            refine lv_if_eq (tgt := 170) hx hb dX1_readPart_154 (by decide) (fun c92 => ?_) (fun c92 => ?_)
            · skip
              have f93 : z55.toInt = 0 := b_eq rfl (by decide) c92
              refine lv_iconst (v := 0) hx hb dX1_readPart_170 (by decide) ?_
              exact W.zret (v := 0) hx hb hr rfl (fun t ht hW => ⟨⟨0, (V59, L60), rfl, ⟨hMV59, agV59, alL60, (by decide), (Or.inr ⟨rfl, hb91⟩)⟩, by rw [ht]; exact hP, va_K.moved hW.alike hK, hD⟩, hS.F ht⟩) hS.2.2 dX1_readPart_171
            · skip
              have f94 : z55.toInt ≠ 0 := b_neq rfl (by decide) c92
              exfalso; omega
        have gq50 : ((V 6 9)).toInt ≠ 40 := b_neq rfl (by decide) q50
        by_cases q95 : (V 6 9) = 45
        · refine g_top (v := 45) q95 ?_
          have fq95 : ((V 6 9)).toInt = 45 := b_eq rfl (by decide) q95
          refine lv_lookup (x := 45) (off := 115) (tgt := 172) hx hb dX1_readPart_57 (by decide) (by decide) (by decide) ?_
          have hr96 : ∀ k, Rc gT (Crun gs (Ipart gd :: k)) (Crun gs (Ipart gd :: k)) := fun k => Rc.rf
          have hr97 : ∀ k, Rc gT (Crun gs (Ipart gd :: k)) (Crun (nx gs 1) (Ipart (gd + 1) :: k)) := fun k => Rc.go1 (hr96 k) (pw_45 gd h7 (by omega) (kd20.trans fq95))
          refine lv_aload_n hx hb dX1_readPart_172 rfl (lv_at hl 2 rfl) ?_
          refine lv_iload_n hx hb dX1_readPart_173 rfl (lv_at hl 3 rfl) ?_
          refine lv_iconst (v := 1) hx hb dX1_readPart_174 (by decide) ?_
          refine lv_iadd hx hb dX1_readPart_175 ?_
          refine lv_topi (fun z98 ez98 => ?_)
          have hz98 : z98.toInt = p0.toInt + 1 := i_add ez98 rfl (by decide) (by omega)
          have pq99 : (V33 1 1).toInt = ((V 1 1)).toInt := congrArg Int32.toInt ((ajV33 1 1 rfl).trans (ajV17 1 1 rfl))
          refine gA_int (gA_runV (As := [.int z98]) (rest := []) (ci := 1) (q0 := 1) hx hb hml hown hg hP hD hK hS hA hnw hgk ((hk_x_readPart3 d9 rfl) H.size ad kk V33 L34 Z z98 (b) (gT) ((nx gs 1)) ((gd + 1)) hMV33 (by omega) (show b < 2 from by omega) (show (V33 1 1).toInt = (b : Int) from by omega) rl37 (show z98.toInt = ((gd + 1) : Int) from by omega) (((congrArg Int32.toInt ((ajV33 1 4 rfl).trans (ajV17 1 4 rfl))).trans wh).trans (congrArg (fun n9 : Nat => (n9 : Int)) (((keepS.tr (keepS.rf : keepS gs 0 gs) (keepS.n1 1))).2.1 4 (by decide)).symm)) (fun h9 => by rw [((ajV33 1 2 rfl).trans (ajV17 1 2 rfl))]; exact ow ((congrArg Int32.toInt ((ajV33 1 4 rfl).trans (ajV17 1 4 rfl))).symm.trans h9)) (show 8 - z98.toInt ≤ ((d9 : Nat) : Int) from by omega)) w963 w965 w24 w162 w966 rfl xgReader hdV_yX1_readPart ⟨(by show 10 * d9 + 6 + 1 ≤ 10 * (d9 + 1) + 6; omega), (by show 8 + (5 + 11) + (300 * d9 + 150) ≤ 300 * (d9 + 1) + 150; omega)⟩ rfl hl.1 rfl (Nat.le_of_ble_eq_true rfl) dX1_readPart_176 ⟨Nat.le_of_ble_eq_true rfl, Nat.le_of_ble_eq_true rfl⟩) hP hD hK hS hA (fun z100 u101 H locs w102 hP hD hK hS => ?_)
          obtain ⟨V104, L105⟩ := u101
          obtain ⟨hMV104, ajV104, axL105, rgz100, t103⟩ := w102
          have alL105 : agL [6, 44] L L105 := agL.tr alL34 axL105 (by decide)
          have hP : va_P D vwCl (xw ad kk V104 L105 Z) H := hP
          have hD : va_D A (xw ad kk V104 L105 Z) := hD
          have hMV104 : rgd bX V104 := hMV104
          have ajV104 : agr [(1, 3), (1, 6), (1, 8), (6, 8), (6, 9), (6, 10)] [42, 43, 44, 48] V33 V104 := ajV104
          have agV104 : agr [(1, 3), (1, 6), (1, 8), (6, 8), (6, 9), (6, 10)] [42, 43, 44, 48] V V104 := agV33.tr ajV104 (by decide) (by decide)
          have rgz100 : 0 ≤ z100.toInt ∧ z100.toInt ≤ 1 := rgz100
          have t103 : Rd gT (nx gs 1) (fun k => Ipart (gd + 1) :: k) (fun k => k) z100.toInt (V104 1 3).toInt (fun s9 => RelC V104 L105 b gT s9 ∧ keepS (nx gs 1) 1 s9) := t103
          rcases t103 with ⟨q106, sx107, h108, rl109, kp110⟩ | ⟨q106, h108⟩
          · skip
            have hr111 : ∀ k, Rc gT (Crun gs (Ipart gd :: k)) (Crun sx107 (k)) := fun k => (hr97 k).tr (h108 (k))
            refine lv_if_eq (tgt := 194) hx hb dX1_readPart_179 (by decide) (fun c112 => ?_) (fun c112 => ?_)
            · skip
              have f113 : z100.toInt = 0 := b_eq rfl (by decide) c112
              exfalso; omega
            · skip
              have f114 : z100.toInt ≠ 0 := b_neq rfl (by decide) c112
              refine lv_aload_n hx hb dX1_readPart_182 rfl (lv_at hl 2 rfl) ?_
              refine lv_iconst (v := 3) hx hb dX1_readPart_183 (by decide) ?_
              have r115 : Int32.toInt 3 = 3 := by decide
              have pq116 : (V104 1 1).toInt = ((V 1 1)).toInt := congrArg Int32.toInt ((ajV104 1 1 rfl).trans ((ajV33 1 1 rfl).trans (ajV17 1 1 rfl)))
              refine gA_int (gA_runV (As := [.int 3]) (rest := []) (ci := 1) (q0 := 1) hx hb hml hown hg hP hD hK hS hA hnw hgk (x_putAlone3 l D ks H.size ad kk V104 L105 Z 3 (b) hMV104 (show b < 2 from by omega) (show (V104 1 1).toInt = (b : Int) from by omega)) w979 w981 w27 w162 w982 rfl xgReader hdV_yX1_putAlone ⟨(by show 1 + 1 ≤ 10 * (d9 + 1) + 6; omega), (by show 8 + (2 + 11) + (21) ≤ 300 * (d9 + 1) + 150; omega)⟩ rfl hl.1 rfl (Nat.le_of_ble_eq_true rfl) dX1_readPart_184 ⟨Nat.le_of_ble_eq_true rfl, Nat.le_of_ble_eq_true rfl⟩) hP hD hK hS hA (fun z117 u118 H locs w119 hP hD hK hS => ?_)
              obtain ⟨V120, L121⟩ := u118
              obtain ⟨hMV120, ajV120, axL121, rgz117⟩ := w119
              have axL121 : L105 = L121 := Eq.symm axL121
              subst axL121
              have hP : va_P D vwCl (xw ad kk V120 L105 Z) H := hP
              have hD : va_D A (xw ad kk V120 L105 Z) := hD
              have hMV120 : rgd bX V120 := hMV120
              have ajV120 : agr [] [42, 48] V104 V120 := ajV120
              have agV120 : agr [(1, 3), (1, 6), (1, 8), (6, 8), (6, 9), (6, 10)] [42, 43, 44, 48] V V120 := agV104.tr ajV120 (by decide) (by decide)
              have rgz117 : 1 ≤ z117.toInt ∧ z117.toInt ≤ 1 := rgz117
              refine lv_if_eq (tgt := 194) hx hb dX1_readPart_187 (by decide) (fun c122 => ?_) (fun c122 => ?_)
              · skip
                have f123 : z117.toInt = 0 := b_eq rfl (by decide) c122
                exfalso; omega
              · skip
                have f124 : z117.toInt ≠ 0 := b_neq rfl (by decide) c122
                refine lv_iconst (v := 1) hx hb dX1_readPart_190 (by decide) ?_
                refine lv_goto (tgt := 195) hx hb dX1_readPart_191 (by decide) ?_
                have rl125 : RelC V120 L105 b gT sx107 := RelC.ag rl109 (show agr [] [42, 48] V104 V120 from (agr.tr agr.rf ajV120 (by decide) (by decide))) (by decide) (show agL [] L105 L105 from agL.rf) (by decide)
                exact W.zret (v := 1) hx hb hr rfl (fun t ht hW => ⟨⟨1, (V120, L105), rfl, ⟨hMV120, agV120, alL105, (by decide), (Or.inl ⟨rfl, sx107, hr111, rl125, keepS.le (keepS.tr (keepS.tr (keepS.rf : keepS gs 0 gs) (keepS.n1 1)) kp110) (by decide)⟩)⟩, by rw [ht]; exact hP, va_K.moved hW.alike hK, hD⟩, hS.F ht⟩) hS.2.2 dX1_readPart_195
          · skip
            have hb126 : ∀ k, Rc gT (Crun gs (Ipart gd :: k)) (Cbad (V104 1 3).toInt) := fun k => (hr97 k).tr (h108 (k))
            refine lv_if_eq (tgt := 194) hx hb dX1_readPart_179 (by decide) (fun c127 => ?_) (fun c127 => ?_)
            · skip
              have f128 : z100.toInt = 0 := b_eq rfl (by decide) c127
              refine lv_iconst (v := 0) hx hb dX1_readPart_194 (by decide) ?_
              exact W.zret (v := 0) hx hb hr rfl (fun t ht hW => ⟨⟨0, (V104, L105), rfl, ⟨hMV104, agV104, alL105, (by decide), (Or.inr ⟨rfl, hb126⟩)⟩, by rw [ht]; exact hP, va_K.moved hW.alike hK, hD⟩, hS.F ht⟩) hS.2.2 dX1_readPart_195
            · skip
              have f129 : z100.toInt ≠ 0 := b_neq rfl (by decide) c127
              exfalso; omega
        have gq95 : ((V 6 9)).toInt ≠ 45 := b_neq rfl (by decide) q95
        by_cases q130 : (V 6 9) = 130
        · refine g_top (v := 130) q130 ?_
          have fq130 : ((V 6 9)).toInt = 130 := b_eq rfl (by decide) q130
          refine lv_lookup (x := 130) (off := 168) (tgt := 225) hx hb dX1_readPart_57 (by decide) (by decide) (by decide) ?_
          have hr131 : ∀ k, Rc gT (Crun gs (Ipart gd :: k)) (Crun gs (Ipart gd :: k)) := fun k => Rc.rf
          have hr132 : ∀ k, Rc gT (Crun gs (Ipart gd :: k)) (Crun (nx gs 1) (Isetting :: k)) := fun k => Rc.go1 (hr131 k) (pw_130 gd h7 (by omega) (kd20.trans fq130))
          refine lv_aload_n hx hb dX1_readPart_225 rfl (lv_at hl 2 rfl) ?_
          have pq133 : (V33 1 1).toInt = ((V 1 1)).toInt := congrArg Int32.toInt ((ajV33 1 1 rfl).trans (ajV17 1 1 rfl))
          refine gA_int (gA_runV (As := []) (rest := []) (ci := 1) (q0 := 1) hx hb hml hown hg hP hD hK hS hA hnw hgk (x_takeSetting3 l D ks H.size ad kk V33 L34 Z (b) (gT) ((nx gs 1)) hMV33 (show b < 2 from by omega) (show (V33 1 1).toInt = (b : Int) from by omega) rl37) w931 w933 w17 w162 w934 rfl xgReader hdV_yX1_takeSetting ⟨(by show 1 + 1 ≤ 10 * (d9 + 1) + 6; omega), (by show 8 + (1 + 11) + (23) ≤ 300 * (d9 + 1) + 150; omega)⟩ rfl hl.1 rfl (Nat.le_of_ble_eq_true rfl) dX1_readPart_226 ⟨Nat.le_of_ble_eq_true rfl, Nat.le_of_ble_eq_true rfl⟩) hP hD hK hS hA (fun z134 u135 H locs w136 hP hD hK hS => ?_)
          obtain ⟨V138, L139⟩ := u135
          obtain ⟨hMV138, ajV138, axL139, rgz134, t137⟩ := w136
          have alL139 : agL [6, 44] L L139 := agL.tr alL34 axL139 (by decide)
          have hP : va_P D vwCl (xw ad kk V138 L139 Z) H := hP
          have hD : va_D A (xw ad kk V138 L139 Z) := hD
          have hMV138 : rgd bX V138 := hMV138
          have ajV138 : agr [(1, 3), (1, 6), (6, 8), (6, 9), (6, 10)] [] V33 V138 := ajV138
          have agV138 : agr [(1, 3), (1, 6), (1, 8), (6, 8), (6, 9), (6, 10)] [42, 43, 44, 48] V V138 := agV33.tr ajV138 (by decide) (by decide)
          have rgz134 : 0 ≤ z134.toInt ∧ z134.toInt ≤ 1 := rgz134
          have t137 : KcN (look gT (nx gs 1) ((nx gs 1).2.1 1)) z134.toInt (V138 1 3).toInt (fun f9 => RelC V138 L139 b gT (nx (nx gs 1) 1) ∧ (V138 1 6).toInt = ((f9 : Nat) : Int) ∧ f9 < 12) := t137
          rcases t137 with ⟨q140, fx141, h142, rl143, hf144, hb145⟩ | ⟨q140, h142⟩
          · skip
            have hr146 : ∀ k, Rc gT (Crun gs (Ipart gd :: k)) (Crun (nx (nx gs 1) 1) (k)) := fun k => Rc.go1 (hr132 k) (se_y h142)
            refine lv_if_eq (tgt := 249) hx hb dX1_readPart_229 (by decide) (fun c147 => ?_) (fun c147 => ?_)
            · skip
              have f148 : z134.toInt = 0 := b_eq rfl (by decide) c147
              exfalso; omega
            · skip
              have f149 : z134.toInt ≠ 0 := b_neq rfl (by decide) c147
              refine lv_aload_n hx hb dX1_readPart_232 rfl (lv_at hl 2 rfl) ?_
              refine lv_bipush (v := 11) hx hb dX1_readPart_233 (by decide) ?_
              refine lv_aload_n hx hb dX1_readPart_235 rfl (lv_at hl 2 rfl) ?_
              refine va_get (D := D) (ci := 1) (v := .int (V138 1 6)) (fs := (xfReader ad V138 L139 Z)) (C := RX1) (T := TX1) (N := 9) hx hb hg inX1 hown hK hP 1 xgReader rfl 6 (by decide) (hg _ w310) (fun _ h9 => h9) rfl dX1_readPart_236 ?_
              have r150 : (-1) ≤ ((V138 1 6)).toInt ∧ ((V138 1 6)).toInt ≤ 23 := hMV138 1 6
              have r151 : Int32.toInt 11 = 11 := by decide
              have pq152 : (V138 1 1).toInt = ((V 1 1)).toInt := congrArg Int32.toInt ((ajV138 1 1 rfl).trans ((ajV33 1 1 rfl).trans (ajV17 1 1 rfl)))
              refine gA_int (gA_runV (As := [.int 11, .int (V138 1 6)]) (rest := []) (ci := 1) (q0 := 1) hx hb hml hown hg hP hD hK hS hA hnw hgk (x_put3 l D ks H.size ad kk V138 L139 Z 11 (V138 1 6) (b) hMV138 (show b < 2 from by omega) (show (V138 1 1).toInt = (b : Int) from by omega)) w975 w977 w26 w162 w978 rfl xgReader hdV_yX1_put ⟨(by show 1 + 1 ≤ 10 * (d9 + 1) + 6; omega), (by show 8 + (3 + 11) + (21) ≤ 300 * (d9 + 1) + 150; omega)⟩ rfl hl.1 rfl (Nat.le_of_ble_eq_true rfl) dX1_readPart_239 ⟨Nat.le_of_ble_eq_true rfl, Nat.le_of_ble_eq_true rfl⟩) hP hD hK hS hA (fun z153 u154 H locs w155 hP hD hK hS => ?_)
              obtain ⟨V156, L157⟩ := u154
              obtain ⟨hMV156, ajV156, axL157, rgz153⟩ := w155
              have axL157 : L139 = L157 := Eq.symm axL157
              subst axL157
              have hP : va_P D vwCl (xw ad kk V156 L139 Z) H := hP
              have hD : va_D A (xw ad kk V156 L139 Z) := hD
              have hMV156 : rgd bX V156 := hMV156
              have ajV156 : agr [] [42, 48] V138 V156 := ajV156
              have agV156 : agr [(1, 3), (1, 6), (1, 8), (6, 8), (6, 9), (6, 10)] [42, 43, 44, 48] V V156 := agV138.tr ajV156 (by decide) (by decide)
              have rgz153 : 1 ≤ z153.toInt ∧ z153.toInt ≤ 1 := rgz153
              refine lv_if_eq (tgt := 249) hx hb dX1_readPart_242 (by decide) (fun c158 => ?_) (fun c158 => ?_)
              · skip
                have f159 : z153.toInt = 0 := b_eq rfl (by decide) c158
                exfalso; omega
              · skip
                have f160 : z153.toInt ≠ 0 := b_neq rfl (by decide) c158
                refine lv_iconst (v := 1) hx hb dX1_readPart_245 (by decide) ?_
                refine lv_goto (tgt := 250) hx hb dX1_readPart_246 (by decide) ?_
                have rl161 : RelC V156 L139 b gT (nx (nx gs 1) 1) := RelC.ag rl143 (show agr [] [42, 48] V138 V156 from (agr.tr agr.rf ajV156 (by decide) (by decide))) (by decide) (show agL [] L139 L139 from agL.rf) (by decide)
                exact W.zret (v := 1) hx hb hr rfl (fun t ht hW => ⟨⟨1, (V156, L139), rfl, ⟨hMV156, agV156, alL139, (by decide), (Or.inl ⟨rfl, (nx (nx gs 1) 1), hr146, rl161, keepS.le (keepS.tr (keepS.tr (keepS.rf : keepS gs 0 gs) (keepS.n1 1)) (keepS.n1 1)) (by decide)⟩)⟩, by rw [ht]; exact hP, va_K.moved hW.alike hK, hD⟩, hS.F ht⟩) hS.2.2 dX1_readPart_250
          · skip
            have hb162 : ∀ k, Rc gT (Crun gs (Ipart gd :: k)) (Cbad (V138 1 3).toInt) := fun k => Rc.go1 (hr132 k) (se_b h142)
            refine lv_if_eq (tgt := 249) hx hb dX1_readPart_229 (by decide) (fun c163 => ?_) (fun c163 => ?_)
            · skip
              have f164 : z134.toInt = 0 := b_eq rfl (by decide) c163
              refine lv_iconst (v := 0) hx hb dX1_readPart_249 (by decide) ?_
              exact W.zret (v := 0) hx hb hr rfl (fun t ht hW => ⟨⟨0, (V138, L139), rfl, ⟨hMV138, agV138, alL139, (by decide), (Or.inr ⟨rfl, hb162⟩)⟩, by rw [ht]; exact hP, va_K.moved hW.alike hK, hD⟩, hS.F ht⟩) hS.2.2 dX1_readPart_250
            · skip
              have f165 : z134.toInt ≠ 0 := b_neq rfl (by decide) c163
              exfalso; omega
        have gq130 : ((V 6 9)).toInt ≠ 130 := b_neq rfl (by decide) q130
        by_cases q166 : (V 6 9) = 143
        · refine g_top (v := 143) q166 ?_
          have fq166 : ((V 6 9)).toInt = 143 := b_eq rfl (by decide) q166
          refine lv_lookup (x := 143) (off := 84) (tgt := 141) hx hb dX1_readPart_57 (by decide) (by decide) (by decide) ?_
          have hr167 : ∀ k, Rc gT (Crun gs (Ipart gd :: k)) (Crun gs (Ipart gd :: k)) := fun k => Rc.rf
          have hr168 : ∀ k, Rc gT (Crun gs (Ipart gd :: k)) (Crun (nx gs 1) (k)) := fun k => Rc.go1 (hr167 k) (pw_143 gd h7 (by omega) (kd20.trans fq166))
          refine lv_aload_n hx hb dX1_readPart_141 rfl (lv_at hl 2 rfl) ?_
          refine lv_iconst (v := 2) hx hb dX1_readPart_142 (by decide) ?_
          have r169 : Int32.toInt 2 = 2 := by decide
          have pq170 : (V33 1 1).toInt = ((V 1 1)).toInt := congrArg Int32.toInt ((ajV33 1 1 rfl).trans (ajV17 1 1 rfl))
          refine gA_int (gA_runV (As := [.int 2]) (rest := []) (ci := 1) (q0 := 1) hx hb hml hown hg hP hD hK hS hA hnw hgk (x_putAlone3 l D ks H.size ad kk V33 L34 Z 2 (b) hMV33 (show b < 2 from by omega) (show (V33 1 1).toInt = (b : Int) from by omega)) w979 w981 w27 w162 w982 rfl xgReader hdV_yX1_putAlone ⟨(by show 1 + 1 ≤ 10 * (d9 + 1) + 6; omega), (by show 8 + (2 + 11) + (21) ≤ 300 * (d9 + 1) + 150; omega)⟩ rfl hl.1 rfl (Nat.le_of_ble_eq_true rfl) dX1_readPart_143 ⟨Nat.le_of_ble_eq_true rfl, Nat.le_of_ble_eq_true rfl⟩) hP hD hK hS hA (fun z171 u172 H locs w173 hP hD hK hS => ?_)
          obtain ⟨V174, L175⟩ := u172
          obtain ⟨hMV174, ajV174, axL175, rgz171⟩ := w173
          have axL175 : L34 = L175 := Eq.symm axL175
          subst axL175
          have hP : va_P D vwCl (xw ad kk V174 L34 Z) H := hP
          have hD : va_D A (xw ad kk V174 L34 Z) := hD
          have hMV174 : rgd bX V174 := hMV174
          have ajV174 : agr [] [42, 48] V33 V174 := ajV174
          have agV174 : agr [(1, 3), (1, 6), (1, 8), (6, 8), (6, 9), (6, 10)] [42, 43, 44, 48] V V174 := agV33.tr ajV174 (by decide) (by decide)
          have rgz171 : 1 ≤ z171.toInt ∧ z171.toInt ≤ 1 := rgz171
          have rl176 : RelC V174 L34 b gT (nx gs 1) := RelC.ag rl37 (show agr [] [42, 48] V33 V174 from (agr.tr agr.rf ajV174 (by decide) (by decide))) (by decide) (show agL [] L34 L34 from agL.rf) (by decide)
          exact W.zret (v := z171) hx hb hr (nb_ok (by omega)) (fun t ht hW => ⟨⟨z171, (V174, L34), rfl, ⟨hMV174, agV174, alL34, (show 0 ≤ z171.toInt ∧ z171.toInt ≤ 1 from by omega), (Or.inl ⟨(by omega), (nx gs 1), hr168, rl176, keepS.le (keepS.tr (keepS.rf : keepS gs 0 gs) (keepS.n1 1)) (by decide)⟩)⟩, by rw [ht]; exact hP, va_K.moved hW.alike hK, hD⟩, hS.F ht⟩) hS.2.2 dX1_readPart_146
        have gq166 : ((V 6 9)).toInt ≠ 143 := b_neq rfl (by decide) q166
        by_cases q177 : (V 6 9) = 144
        · refine g_top (v := 144) q177 ?_
          have fq177 : ((V 6 9)).toInt = 144 := b_eq rfl (by decide) q177
          refine lv_lookup (x := 144) (off := 139) (tgt := 196) hx hb dX1_readPart_57 (by decide) (by decide) (by decide) ?_
          have hr178 : ∀ k, Rc gT (Crun gs (Ipart gd :: k)) (Crun gs (Ipart gd :: k)) := fun k => Rc.rf
          have hr179 : ∀ k, Rc gT (Crun gs (Ipart gd :: k)) (Crun (nx gs 1) (Inum 1 9 :: k)) := fun k => Rc.go1 (hr178 k) (pw_144 gd h7 (by omega) (kd20.trans fq177))
          refine lv_aload_n hx hb dX1_readPart_196 rfl (lv_at hl 2 rfl) ?_
          refine lv_iconst (v := 1) hx hb dX1_readPart_197 (by decide) ?_
          refine lv_bipush (v := 9) hx hb dX1_readPart_198 (by decide) ?_
          have r180 : Int32.toInt 9 = 9 := by decide
          refine gA_int (gA_runV (As := [.int 1, .int 9]) (rest := []) (ci := 1) (q0 := 1) hx hb hml hown hg hP hD hK hS hA hnw hgk (x_takeNumber2 l D ks H.size ad kk V33 L34 Z 1 9 (((nx gs 1).1 0)) hMV33 (rl37).1 (rl37).2.1.1 (show 0 ≤ (Int32.toInt 1) from by omega) (show (Int32.toInt 9) ≤ 999999999 from by omega)) w906 w908 w12 w162 w909 rfl xgReader hdV_yX1_takeNumber ⟨(by show 1 + 1 ≤ 10 * (d9 + 1) + 6; omega), (by show 8 + (3 + 11) + (21) ≤ 300 * (d9 + 1) + 150; omega)⟩ rfl hl.1 rfl (Nat.le_of_ble_eq_true rfl) dX1_readPart_200 ⟨Nat.le_of_ble_eq_true rfl, Nat.le_of_ble_eq_true rfl⟩) hP hD hK hS hA (fun z181 u182 H locs w183 hP hD hK hS => ?_)
          obtain ⟨V187, L188⟩ := u182
          obtain ⟨hMV187, ajV187, axL188, rgz181, t184, t185, t186⟩ := w183
          have alL188 : agL [6, 44] L L188 := agL.tr alL34 axL188 (by decide)
          have hP : va_P D vwCl (xw ad kk V187 L188 Z) H := hP
          have hD : va_D A (xw ad kk V187 L188 Z) := hD
          have hMV187 : rgd bX V187 := hMV187
          have ajV187 : agr [(1, 3), (1, 8), (6, 8), (6, 9), (6, 10)] [] V33 V187 := ajV187
          have agV187 : agr [(1, 3), (1, 6), (1, 8), (6, 8), (6, 9), (6, 10)] [42, 43, 44, 48] V V187 := agV33.tr ajV187 (by decide) (by decide)
          have rgz181 : 0 ≤ z181.toInt ∧ z181.toInt ≤ 1 := rgz181
          have t184 : Imp (z181.toInt = 1) ((Int32.toInt 1) ≤ (V187 1 8).toInt ∧ (V187 1 8).toInt ≤ (Int32.toInt 9)) := t184
          have t185 : Imp (z181.toInt = 0) (1 ≤ (V187 1 3).toInt) := t185
          have t186 : (z181.toInt = 1 ∧ (V33 12 ((nx gs 1).1 0)).toInt = 2 ∧ (Int32.toInt 1) ≤ (L34 14 ((nx gs 1).1 0)).toInt ∧ (L34 14 ((nx gs 1).1 0)).toInt ≤ (Int32.toInt 9) ∧ CUR V187 L188 (((nx gs 1).1 0) + 1) ∧ (V187 1 8).toInt = (L34 14 ((nx gs 1).1 0)).toInt ∧ V187 1 3 = V33 1 3) ∨ (z181.toInt = 0 ∧ (((V33 12 ((nx gs 1).1 0)).toInt ≠ 2 ∧ (V187 1 3).toInt = 1 + 16 * (V33 13 ((nx gs 1).1 0)).toInt) ∨ ((V33 12 ((nx gs 1).1 0)).toInt = 2 ∧ ((L34 14 ((nx gs 1).1 0)).toInt < (Int32.toInt 1) ∨ (Int32.toInt 9) < (L34 14 ((nx gs 1).1 0)).toInt) ∧ (V187 1 3).toInt = 4 + 16 * (V33 13 ((nx gs 1).1 0)).toInt))) := t186
          have r189 : 0 ≤ ((V187 1 8)).toInt ∧ ((V187 1 8)).toInt ≤ 999999999 := hMV187 1 8
          have nv197 := congrArg Int64.toInt rl37.tok.2.1
          rcases t186 with ⟨q190, h191, h192, h193, k194, k195, k196⟩ | ⟨q190, ⟨h191, k194⟩ | ⟨h191, h192, k194⟩⟩
          · skip
            have rl198 : RelC V187 L188 b gT (nx (nx gs 1) 1) := RelC.nx1 rl37 ajV187 (by decide) axL188 (by decide) k194 k196
            have hr199 : ∀ k, Rc gT (Crun gs (Ipart gd :: k)) (Crun (nx (nx gs 1) 1) (k)) := fun k => Rc.go1 (hr179 k) (nm_y (rl37.tok.1.trans h191) (by omega) (by omega))
            refine lv_if_eq (tgt := 223) hx hb dX1_readPart_203 (by decide) (fun c200 => ?_) (fun c200 => ?_)
            · skip
              have f201 : z181.toInt = 0 := b_eq rfl (by decide) c200
              exfalso; first | omega | ((try (have i_t185 := Imp.go t185 (by omega))); (try (have i_t184 := Imp.go t184 (by omega))); (try (have i_t184 := Imp.go t184 (by omega))); (try (have i_t185 := Imp.go t185 (by omega))); omega)
            · skip
              have f202 : z181.toInt ≠ 0 := b_neq rfl (by decide) c200
              refine lv_aload_n hx hb dX1_readPart_206 rfl (lv_at hl 2 rfl) ?_
              refine lv_bipush (v := 12) hx hb dX1_readPart_207 (by decide) ?_
              refine lv_aload_n hx hb dX1_readPart_209 rfl (lv_at hl 2 rfl) ?_
              refine va_get (D := D) (ci := 1) (v := .int (V187 1 8)) (fs := (xfReader ad V187 L188 Z)) (C := RX1) (T := TX1) (N := 9) hx hb hg inX1 hown hK hP 1 xgReader rfl 8 (by decide) (hg _ w312) (fun _ h9 => h9) rfl dX1_readPart_210 ?_
              have r203 : Int32.toInt 12 = 12 := by decide
              have pq204 : (V187 1 1).toInt = ((V 1 1)).toInt := congrArg Int32.toInt ((ajV187 1 1 rfl).trans ((ajV33 1 1 rfl).trans (ajV17 1 1 rfl)))
              refine gA_int (gA_runV (As := [.int 12, .int (V187 1 8)]) (rest := []) (ci := 1) (q0 := 1) hx hb hml hown hg hP hD hK hS hA hnw hgk (x_put3 l D ks H.size ad kk V187 L188 Z 12 (V187 1 8) (b) hMV187 (show b < 2 from by first | omega | ((try (have i_t185 := Imp.go t185 (by omega))); (try (have i_t184 := Imp.go t184 (by omega))); (try (have i_t184 := Imp.go t184 (by omega))); (try (have i_t185 := Imp.go t185 (by omega))); omega)) (show (V187 1 1).toInt = (b : Int) from by first | omega | ((try (have i_t185 := Imp.go t185 (by omega))); (try (have i_t184 := Imp.go t184 (by omega))); (try (have i_t184 := Imp.go t184 (by omega))); (try (have i_t185 := Imp.go t185 (by omega))); omega))) w975 w977 w26 w162 w978 rfl xgReader hdV_yX1_put ⟨(by show 1 + 1 ≤ 10 * (d9 + 1) + 6; omega), (by show 8 + (3 + 11) + (21) ≤ 300 * (d9 + 1) + 150; omega)⟩ rfl hl.1 rfl (Nat.le_of_ble_eq_true rfl) dX1_readPart_213 ⟨Nat.le_of_ble_eq_true rfl, Nat.le_of_ble_eq_true rfl⟩) hP hD hK hS hA (fun z205 u206 H locs w207 hP hD hK hS => ?_)
              obtain ⟨V208, L209⟩ := u206
              obtain ⟨hMV208, ajV208, axL209, rgz205⟩ := w207
              have axL209 : L188 = L209 := Eq.symm axL209
              subst axL209
              have hP : va_P D vwCl (xw ad kk V208 L188 Z) H := hP
              have hD : va_D A (xw ad kk V208 L188 Z) := hD
              have hMV208 : rgd bX V208 := hMV208
              have ajV208 : agr [] [42, 48] V187 V208 := ajV208
              have agV208 : agr [(1, 3), (1, 6), (1, 8), (6, 8), (6, 9), (6, 10)] [42, 43, 44, 48] V V208 := agV187.tr ajV208 (by decide) (by decide)
              have rgz205 : 1 ≤ z205.toInt ∧ z205.toInt ≤ 1 := rgz205
              refine lv_if_eq (tgt := 223) hx hb dX1_readPart_216 (by decide) (fun c210 => ?_) (fun c210 => ?_)
              · skip
                have f211 : z205.toInt = 0 := b_eq rfl (by decide) c210
                exfalso; first | omega | ((try (have i_t185 := Imp.go t185 (by omega))); (try (have i_t184 := Imp.go t184 (by omega))); (try (have i_t184 := Imp.go t184 (by omega))); (try (have i_t185 := Imp.go t185 (by omega))); omega)
              · skip
                have f212 : z205.toInt ≠ 0 := b_neq rfl (by decide) c210
                refine lv_iconst (v := 1) hx hb dX1_readPart_219 (by decide) ?_
                refine lv_goto (tgt := 224) hx hb dX1_readPart_220 (by decide) ?_
                have rl213 : RelC V208 L188 b gT (nx (nx gs 1) 1) := RelC.ag rl198 (show agr [] [42, 48] V187 V208 from (agr.tr agr.rf ajV208 (by decide) (by decide))) (by decide) (show agL [] L188 L188 from agL.rf) (by decide)
                exact W.zret (v := 1) hx hb hr rfl (fun t ht hW => ⟨⟨1, (V208, L188), rfl, ⟨hMV208, agV208, alL188, (by decide), (Or.inl ⟨rfl, (nx (nx gs 1) 1), hr199, rl213, keepS.le (keepS.tr (keepS.tr (keepS.rf : keepS gs 0 gs) (keepS.n1 1)) (keepS.n1 1)) (by decide)⟩)⟩, by rw [ht]; exact hP, va_K.moved hW.alike hK, hD⟩, hS.F ht⟩) hS.2.2 dX1_readPart_224
          · skip
            have hb214 : ∀ k, Rc gT (Crun gs (Ipart gd :: k)) (Cbad (V187 1 3).toInt) := fun k => Rc.go1 (hr179 k) ((nm_1 (fun h9 => h191 (rl37.tok.1.symm.trans h9))).trans (fl_eq rl37.tok.2.2 k194))
            refine lv_if_eq (tgt := 223) hx hb dX1_readPart_203 (by decide) (fun c215 => ?_) (fun c215 => ?_)
            · skip
              have f216 : z181.toInt = 0 := b_eq rfl (by decide) c215
              refine lv_iconst (v := 0) hx hb dX1_readPart_223 (by decide) ?_
              exact W.zret (v := 0) hx hb hr rfl (fun t ht hW => ⟨⟨0, (V187, L188), rfl, ⟨hMV187, agV187, alL188, (by decide), (Or.inr ⟨rfl, hb214⟩)⟩, by rw [ht]; exact hP, va_K.moved hW.alike hK, hD⟩, hS.F ht⟩) hS.2.2 dX1_readPart_224
            · skip
              have f217 : z181.toInt ≠ 0 := b_neq rfl (by decide) c215
              exfalso; first | omega | ((try (have i_t185 := Imp.go t185 (by omega))); (try (have i_t184 := Imp.go t184 (by omega))); (try (have i_t184 := Imp.go t184 (by omega))); (try (have i_t185 := Imp.go t185 (by omega))); omega)
          · skip
            have hb218 : ∀ k, Rc gT (Crun gs (Ipart gd :: k)) (Cbad (V187 1 3).toInt) := fun k => Rc.go1 (hr179 k) ((nm_4 (rl37.tok.1.trans h191) (by omega)).trans (fl_eq rl37.tok.2.2 k194))
            refine lv_if_eq (tgt := 223) hx hb dX1_readPart_203 (by decide) (fun c219 => ?_) (fun c219 => ?_)
            · skip
              have f220 : z181.toInt = 0 := b_eq rfl (by decide) c219
              refine lv_iconst (v := 0) hx hb dX1_readPart_223 (by decide) ?_
              exact W.zret (v := 0) hx hb hr rfl (fun t ht hW => ⟨⟨0, (V187, L188), rfl, ⟨hMV187, agV187, alL188, (by decide), (Or.inr ⟨rfl, hb218⟩)⟩, by rw [ht]; exact hP, va_K.moved hW.alike hK, hD⟩, hS.F ht⟩) hS.2.2 dX1_readPart_224
            · skip
              have f221 : z181.toInt ≠ 0 := b_neq rfl (by decide) c219
              exfalso; first | omega | ((try (have i_t185 := Imp.go t185 (by omega))); (try (have i_t184 := Imp.go t184 (by omega))); (try (have i_t184 := Imp.go t184 (by omega))); (try (have i_t185 := Imp.go t185 (by omega))); omega)
        have gq177 : ((V 6 9)).toInt ≠ 144 := b_neq rfl (by decide) q177
        by_cases q222 : (V 6 9) = 145
        · refine g_top (v := 145) q222 ?_
          have fq222 : ((V 6 9)).toInt = 145 := b_eq rfl (by decide) q222
          refine lv_lookup (x := 145) (off := 194) (tgt := 251) hx hb dX1_readPart_57 (by decide) (by decide) (by decide) ?_
          have hr223 : ∀ k, Rc gT (Crun gs (Ipart gd :: k)) (Crun gs (Ipart gd :: k)) := fun k => Rc.rf
          have hr224 : ∀ k, Rc gT (Crun gs (Ipart gd :: k)) (Crun (nx gs 1) (Itake 40 :: Iexpr (gd + 1) :: Itake 44 :: Iexpr (gd + 1) :: Itake 44 :: Iexpr (gd + 1) :: Itake 41 :: k)) := fun k => Rc.go1 (hr223 k) (pw_145 gd h7 (by omega) (kd20.trans fq222))
          refine lv_aload_n hx hb dX1_readPart_251 rfl (lv_at hl 2 rfl) ?_
          refine lv_iload_n hx hb dX1_readPart_252 rfl (lv_at hl 3 rfl) ?_
          have pq225 : (V33 1 1).toInt = ((V 1 1)).toInt := congrArg Int32.toInt ((ajV33 1 1 rfl).trans (ajV17 1 1 rfl))
          refine gA_int (gA_runV (As := [.int p0]) (rest := []) (ci := 1) (q0 := 1) hx hb hml hown hg hP hD hK hS hA hnw hgk ((hk_x_readPick3 d9 rfl) H.size ad kk V33 L34 Z p0 (b) (gT) ((nx gs 1)) (gd) hMV33 (by omega) (show b < 2 from by omega) (show (V33 1 1).toInt = (b : Int) from by omega) rl37 (show p0.toInt = (gd : Int) from by omega) (((congrArg Int32.toInt ((ajV33 1 4 rfl).trans (ajV17 1 4 rfl))).trans wh).trans (congrArg (fun n9 : Nat => (n9 : Int)) (((keepS.tr (keepS.rf : keepS gs 0 gs) (keepS.n1 1))).2.1 4 (by decide)).symm)) (fun h9 => by rw [((ajV33 1 2 rfl).trans (ajV17 1 2 rfl))]; exact ow ((congrArg Int32.toInt ((ajV33 1 4 rfl).trans (ajV17 1 4 rfl))).symm.trans h9)) (show 7 - p0.toInt ≤ ((d9 : Nat) : Int) from by omega)) w983 w985 w28 w162 w986 rfl xgReader hdV_yX1_readPick ⟨(by show 10 * d9 + 10 + 1 ≤ 10 * (d9 + 1) + 6; omega), (by show 8 + (4 + 11) + (300 * d9 + 265) ≤ 300 * (d9 + 1) + 150; omega)⟩ rfl hl.1 rfl (Nat.le_of_ble_eq_true rfl) dX1_readPart_253 ⟨Nat.le_of_ble_eq_true rfl, Nat.le_of_ble_eq_true rfl⟩) hP hD hK hS hA (fun z226 u227 H locs w228 hP hD hK hS => ?_)
          obtain ⟨V230, L231⟩ := u227
          obtain ⟨hMV230, ajV230, axL231, rgz226, t229⟩ := w228
          have alL231 : agL [6, 44] L L231 := agL.tr alL34 axL231 (by decide)
          have hP : va_P D vwCl (xw ad kk V230 L231 Z) H := hP
          have hD : va_D A (xw ad kk V230 L231 Z) := hD
          have hMV230 : rgd bX V230 := hMV230
          have ajV230 : agr [(1, 3), (1, 6), (1, 8), (6, 8), (6, 9), (6, 10)] [42, 43, 44, 48] V33 V230 := ajV230
          have agV230 : agr [(1, 3), (1, 6), (1, 8), (6, 8), (6, 9), (6, 10)] [42, 43, 44, 48] V V230 := agV33.tr ajV230 (by decide) (by decide)
          have rgz226 : 0 ≤ z226.toInt ∧ z226.toInt ≤ 1 := rgz226
          have t229 : Rd gT (nx gs 1) (fun k => Itake 40 :: Iexpr (gd + 1) :: Itake 44 :: Iexpr (gd + 1) :: Itake 44 :: Iexpr (gd + 1) :: Itake 41 :: k) (fun k => k) z226.toInt (V230 1 3).toInt (fun s9 => RelC V230 L231 b gT s9 ∧ keepS (nx gs 1) 1 s9) := t229
          rcases t229 with ⟨q232, sx233, h234, rl235, kp236⟩ | ⟨q232, h234⟩
          · skip
            have hr237 : ∀ k, Rc gT (Crun gs (Ipart gd :: k)) (Crun sx233 (k)) := fun k => (hr224 k).tr (h234 (k))
            exact W.zret (v := z226) hx hb hr (nb_ok (by omega)) (fun t ht hW => ⟨⟨z226, (V230, L231), rfl, ⟨hMV230, agV230, alL231, (show 0 ≤ z226.toInt ∧ z226.toInt ≤ 1 from by omega), (Or.inl ⟨(by omega), sx233, hr237, rl235, keepS.le (keepS.tr (keepS.tr (keepS.rf : keepS gs 0 gs) (keepS.n1 1)) kp236) (by decide)⟩)⟩, by rw [ht]; exact hP, va_K.moved hW.alike hK, hD⟩, hS.F ht⟩) hS.2.2 dX1_readPart_256
          · skip
            have hb238 : ∀ k, Rc gT (Crun gs (Ipart gd :: k)) (Cbad (V230 1 3).toInt) := fun k => (hr224 k).tr (h234 (k))
            exact W.zret (v := z226) hx hb hr (nb_ok (by omega)) (fun t ht hW => ⟨⟨z226, (V230, L231), rfl, ⟨hMV230, agV230, alL231, (show 0 ≤ z226.toInt ∧ z226.toInt ≤ 1 from by omega), (Or.inr ⟨(by omega), hb238⟩)⟩, by rw [ht]; exact hP, va_K.moved hW.alike hK, hD⟩, hS.F ht⟩) hS.2.2 dX1_readPart_256
        have gq222 : ((V 6 9)).toInt ≠ 145 := b_neq rfl (by decide) q222
        by_cases q239 : (V 6 9) = 146
        · refine g_top (v := 146) q239 ?_
          have fq239 : ((V 6 9)).toInt = 146 := b_eq rfl (by decide) q239
          refine lv_lookup (x := 146) (off := 200) (tgt := 257) hx hb dX1_readPart_57 (by decide) (by decide) (by decide) ?_
          have w146 := bg_146 h7 (kd20.trans fq239)
          have ow6 := ow (wh.trans (by omega))
          have pq240 : (V33 1 2).toInt = ((V 1 2)).toInt := congrArg Int32.toInt ((ajV33 1 2 rfl).trans (ajV17 1 2 rfl))
          have r241 : (-1) ≤ ((V 1 2)).toInt ∧ ((V 1 2)).toInt ≤ 47 := hMV 1 2
          have hr242 : ∀ k, Rc gT (Crun gs (Ipart gd :: k)) (Crun gs (Ipart gd :: k)) := fun k => Rc.rf
          have hr243 : ∀ k, Rc gT (Crun gs (Ipart gd :: k)) (Crun (nx gs 1) (Inum 0 ((((nx gs 1).1 1 : Nat) : Int) - 1) :: Itake 46 :: Imeth :: Itake 40 :: Iexpr (gd + 1) :: Itake 41 :: k)) := fun k => Rc.go1 (hr242 k) (pw_146 gd h7 (by omega) (kd20.trans fq239))
          refine lv_aload_n hx hb dX1_readPart_257 rfl (lv_at hl 2 rfl) ?_
          refine lv_iload_n hx hb dX1_readPart_258 rfl (lv_at hl 3 rfl) ?_
          have pq244 : (V33 1 1).toInt = ((V 1 1)).toInt := congrArg Int32.toInt ((ajV33 1 1 rfl).trans (ajV17 1 1 rfl))
          refine gA_int (gA_runV (As := [.int p0]) (rest := []) (ci := 1) (q0 := 1) hx hb hml hown hg hP hD hK hS hA hnw hgk ((hk_x_readOf3 d9 rfl) H.size ad kk V33 L34 Z p0 (b) (gT) ((nx gs 1)) (gd) hMV33 (by omega) (show b < 2 from by omega) (show (V33 1 1).toInt = (b : Int) from by omega) rl37 (show p0.toInt = (gd : Int) from by omega) (((congrArg Int32.toInt ((ajV33 1 4 rfl).trans (ajV17 1 4 rfl))).trans wh).trans (congrArg (fun n9 : Nat => (n9 : Int)) (((keepS.tr (keepS.rf : keepS gs 0 gs) (keepS.n1 1))).2.1 4 (by decide)).symm)) (fun h9 => by rw [((ajV33 1 2 rfl).trans (ajV17 1 2 rfl))]; exact ow ((congrArg Int32.toInt ((ajV33 1 4 rfl).trans (ajV17 1 4 rfl))).symm.trans h9)) (show 7 - p0.toInt ≤ ((d9 : Nat) : Int) from by omega) (show 0 ≤ (V33 1 2).toInt from by omega)) w991 w993 w29 w162 w994 rfl xgReader hdV_yX1_readOf ⟨(by show 10 * d9 + 11 + 1 ≤ 10 * (d9 + 1) + 6; omega), (by show 8 + (4 + 11) + (300 * d9 + 290) ≤ 300 * (d9 + 1) + 150; omega)⟩ rfl hl.1 rfl (Nat.le_of_ble_eq_true rfl) dX1_readPart_259 ⟨Nat.le_of_ble_eq_true rfl, Nat.le_of_ble_eq_true rfl⟩) hP hD hK hS hA (fun z245 u246 H locs w247 hP hD hK hS => ?_)
          obtain ⟨V249, L250⟩ := u246
          obtain ⟨hMV249, ajV249, axL250, rgz245, t248⟩ := w247
          have alL250 : agL [6, 44] L L250 := agL.tr alL34 axL250 (by decide)
          have hP : va_P D vwCl (xw ad kk V249 L250 Z) H := hP
          have hD : va_D A (xw ad kk V249 L250 Z) := hD
          have hMV249 : rgd bX V249 := hMV249
          have ajV249 : agr [(1, 3), (1, 6), (1, 8), (6, 8), (6, 9), (6, 10)] [42, 43, 44, 48] V33 V249 := ajV249
          have agV249 : agr [(1, 3), (1, 6), (1, 8), (6, 8), (6, 9), (6, 10)] [42, 43, 44, 48] V V249 := agV33.tr ajV249 (by decide) (by decide)
          have rgz245 : 0 ≤ z245.toInt ∧ z245.toInt ≤ 1 := rgz245
          have t248 : Rd gT (nx gs 1) (fun k => Inum 0 ((((nx gs 1).1 1 : Nat) : Int) - 1) :: Itake 46 :: Imeth :: Itake 40 :: Iexpr (gd + 1) :: Itake 41 :: k) (fun k => k) z245.toInt (V249 1 3).toInt (fun s9 => RelC V249 L250 b gT s9 ∧ keepS (nx gs 1) 1 s9) := t248
          rcases t248 with ⟨q251, sx252, h253, rl254, kp255⟩ | ⟨q251, h253⟩
          · skip
            have hr256 : ∀ k, Rc gT (Crun gs (Ipart gd :: k)) (Crun sx252 (k)) := fun k => (hr243 k).tr (h253 (k))
            exact W.zret (v := z245) hx hb hr (nb_ok (by omega)) (fun t ht hW => ⟨⟨z245, (V249, L250), rfl, ⟨hMV249, agV249, alL250, (show 0 ≤ z245.toInt ∧ z245.toInt ≤ 1 from by omega), (Or.inl ⟨(by omega), sx252, hr256, rl254, keepS.le (keepS.tr (keepS.tr (keepS.rf : keepS gs 0 gs) (keepS.n1 1)) kp255) (by decide)⟩)⟩, by rw [ht]; exact hP, va_K.moved hW.alike hK, hD⟩, hS.F ht⟩) hS.2.2 dX1_readPart_262
          · skip
            have hb257 : ∀ k, Rc gT (Crun gs (Ipart gd :: k)) (Cbad (V249 1 3).toInt) := fun k => (hr243 k).tr (h253 (k))
            exact W.zret (v := z245) hx hb hr (nb_ok (by omega)) (fun t ht hW => ⟨⟨z245, (V249, L250), rfl, ⟨hMV249, agV249, alL250, (show 0 ≤ z245.toInt ∧ z245.toInt ≤ 1 from by omega), (Or.inr ⟨(by omega), hb257⟩)⟩, by rw [ht]; exact hP, va_K.moved hW.alike hK, hD⟩, hS.F ht⟩) hS.2.2 dX1_readPart_262
        have gq239 : ((V 6 9)).toInt ≠ 146 := b_neq rfl (by decide) q239
        refine lv_lookup (x := (V 6 9)) (off := 206) (tgt := 263) hx hb dX1_readPart_57 (by decide) ((lv_osw q38 (by decide)).trans ((lv_osw q50 (by decide)).trans ((lv_osw q95 (by decide)).trans ((lv_osw q130 (by decide)).trans ((lv_osw q166 (by decide)).trans ((lv_osw q177 (by decide)).trans ((lv_osw q222 (by decide)).trans ((lv_osw q239 (by decide)).trans rfl)))))))) (by decide) ?_
        have k147 : gT.1 (gs.1 0) = 147 := bg_147 h7 (fun h9 => gq38 (kd20.symm.trans h9)) (fun h9 => gq50 (kd20.symm.trans h9)) (fun h9 => gq95 (kd20.symm.trans h9)) (fun h9 => gq130 (kd20.symm.trans h9)) (fun h9 => gq166 (kd20.symm.trans h9)) (fun h9 => gq177 (kd20.symm.trans h9)) (fun h9 => gq222 (kd20.symm.trans h9)) (fun h9 => gq239 (kd20.symm.trans h9))
        have hr258 : ∀ k, Rc gT (Crun gs (Ipart gd :: k)) (Crun gs (Ipart gd :: k)) := fun k => Rc.rf
        have hr259 : ∀ k, Rc gT (Crun gs (Ipart gd :: k)) (Crun (nx gs 1) (Itake 40 :: Iexpr (gd + 1) :: Itake 41 :: k)) := fun k => Rc.go1 (hr258 k) (pw_147 gd h7 (by omega) k147)
        refine lv_aload_n hx hb dX1_readPart_263 rfl (lv_at hl 2 rfl) ?_
        refine lv_iload_n hx hb dX1_readPart_264 rfl (lv_at hl 3 rfl) ?_
        have pq260 : (V33 1 1).toInt = ((V 1 1)).toInt := congrArg Int32.toInt ((ajV33 1 1 rfl).trans (ajV17 1 1 rfl))
        refine gA_int (gA_runV (As := [.int p0]) (rest := []) (ci := 1) (q0 := 1) hx hb hml hown hg hP hD hK hS hA hnw hgk ((hk_x_readWithin3 d9 rfl) H.size ad kk V33 L34 Z p0 (b) (gT) ((nx gs 1)) (gd) hMV33 (by omega) (show b < 2 from by omega) (show (V33 1 1).toInt = (b : Int) from by omega) rl37 (show p0.toInt = (gd : Int) from by omega) (((congrArg Int32.toInt ((ajV33 1 4 rfl).trans (ajV17 1 4 rfl))).trans wh).trans (congrArg (fun n9 : Nat => (n9 : Int)) (((keepS.tr (keepS.rf : keepS gs 0 gs) (keepS.n1 1))).2.1 4 (by decide)).symm)) (fun h9 => by rw [((ajV33 1 2 rfl).trans (ajV17 1 2 rfl))]; exact ow ((congrArg Int32.toInt ((ajV33 1 4 rfl).trans (ajV17 1 4 rfl))).symm.trans h9)) (show 7 - p0.toInt ≤ ((d9 : Nat) : Int) from by omega)) w995 w997 w30 w162 w998 rfl xgReader hdV_yX1_readWithin ⟨(by show 10 * d9 + 10 + 1 ≤ 10 * (d9 + 1) + 6; omega), (by show 8 + (2 + 11) + (300 * d9 + 265) ≤ 300 * (d9 + 1) + 150; omega)⟩ rfl hl.1 rfl (Nat.le_of_ble_eq_true rfl) dX1_readPart_265 ⟨Nat.le_of_ble_eq_true rfl, Nat.le_of_ble_eq_true rfl⟩) hP hD hK hS hA (fun z261 u262 H locs w263 hP hD hK hS => ?_)
        obtain ⟨V265, L266⟩ := u262
        obtain ⟨hMV265, ajV265, axL266, rgz261, t264⟩ := w263
        have alL266 : agL [6, 44] L L266 := agL.tr alL34 axL266 (by decide)
        have hP : va_P D vwCl (xw ad kk V265 L266 Z) H := hP
        have hD : va_D A (xw ad kk V265 L266 Z) := hD
        have hMV265 : rgd bX V265 := hMV265
        have ajV265 : agr [(1, 3), (1, 6), (1, 8), (6, 8), (6, 9), (6, 10)] [42, 43, 44, 48] V33 V265 := ajV265
        have agV265 : agr [(1, 3), (1, 6), (1, 8), (6, 8), (6, 9), (6, 10)] [42, 43, 44, 48] V V265 := agV33.tr ajV265 (by decide) (by decide)
        have rgz261 : 0 ≤ z261.toInt ∧ z261.toInt ≤ 1 := rgz261
        have t264 : Rd gT (nx gs 1) (fun k => Itake 40 :: Iexpr (gd + 1) :: Itake 41 :: k) (fun k => k) z261.toInt (V265 1 3).toInt (fun s9 => RelC V265 L266 b gT s9 ∧ keepS (nx gs 1) 1 s9) := t264
        rcases t264 with ⟨q267, sx268, h269, rl270, kp271⟩ | ⟨q267, h269⟩
        · skip
          have hr272 : ∀ k, Rc gT (Crun gs (Ipart gd :: k)) (Crun sx268 (k)) := fun k => (hr259 k).tr (h269 (k))
          refine lv_if_eq (tgt := 283) hx hb dX1_readPart_268 (by decide) (fun c273 => ?_) (fun c273 => ?_)
          · skip
            have f274 : z261.toInt = 0 := b_eq rfl (by decide) c273
            exfalso; omega
          · skip
            have f275 : z261.toInt ≠ 0 := b_neq rfl (by decide) c273
            refine lv_aload_n hx hb dX1_readPart_271 rfl (lv_at hl 2 rfl) ?_
            refine lv_iconst (v := 4) hx hb dX1_readPart_272 (by decide) ?_
            have r276 : Int32.toInt 4 = 4 := by decide
            have pq277 : (V265 1 1).toInt = ((V 1 1)).toInt := congrArg Int32.toInt ((ajV265 1 1 rfl).trans ((ajV33 1 1 rfl).trans (ajV17 1 1 rfl)))
            refine gA_int (gA_runV (As := [.int 4]) (rest := []) (ci := 1) (q0 := 1) hx hb hml hown hg hP hD hK hS hA hnw hgk (x_putAlone3 l D ks H.size ad kk V265 L266 Z 4 (b) hMV265 (show b < 2 from by omega) (show (V265 1 1).toInt = (b : Int) from by omega)) w979 w981 w27 w162 w982 rfl xgReader hdV_yX1_putAlone ⟨(by show 1 + 1 ≤ 10 * (d9 + 1) + 6; omega), (by show 8 + (2 + 11) + (21) ≤ 300 * (d9 + 1) + 150; omega)⟩ rfl hl.1 rfl (Nat.le_of_ble_eq_true rfl) dX1_readPart_273 ⟨Nat.le_of_ble_eq_true rfl, Nat.le_of_ble_eq_true rfl⟩) hP hD hK hS hA (fun z278 u279 H locs w280 hP hD hK hS => ?_)
            obtain ⟨V281, L282⟩ := u279
            obtain ⟨hMV281, ajV281, axL282, rgz278⟩ := w280
            have axL282 : L266 = L282 := Eq.symm axL282
            subst axL282
            have hP : va_P D vwCl (xw ad kk V281 L266 Z) H := hP
            have hD : va_D A (xw ad kk V281 L266 Z) := hD
            have hMV281 : rgd bX V281 := hMV281
            have ajV281 : agr [] [42, 48] V265 V281 := ajV281
            have agV281 : agr [(1, 3), (1, 6), (1, 8), (6, 8), (6, 9), (6, 10)] [42, 43, 44, 48] V V281 := agV265.tr ajV281 (by decide) (by decide)
            have rgz278 : 1 ≤ z278.toInt ∧ z278.toInt ≤ 1 := rgz278
            refine lv_if_eq (tgt := 283) hx hb dX1_readPart_276 (by decide) (fun c283 => ?_) (fun c283 => ?_)
            · skip
              have f284 : z278.toInt = 0 := b_eq rfl (by decide) c283
              exfalso; omega
            · skip
              have f285 : z278.toInt ≠ 0 := b_neq rfl (by decide) c283
              refine lv_iconst (v := 1) hx hb dX1_readPart_279 (by decide) ?_
              refine lv_goto (tgt := 284) hx hb dX1_readPart_280 (by decide) ?_
              have rl286 : RelC V281 L266 b gT sx268 := RelC.ag rl270 (show agr [] [42, 48] V265 V281 from (agr.tr agr.rf ajV281 (by decide) (by decide))) (by decide) (show agL [] L266 L266 from agL.rf) (by decide)
              exact W.zret (v := 1) hx hb hr rfl (fun t ht hW => ⟨⟨1, (V281, L266), rfl, ⟨hMV281, agV281, alL266, (by decide), (Or.inl ⟨rfl, sx268, hr272, rl286, keepS.le (keepS.tr (keepS.tr (keepS.rf : keepS gs 0 gs) (keepS.n1 1)) kp271) (by decide)⟩)⟩, by rw [ht]; exact hP, va_K.moved hW.alike hK, hD⟩, hS.F ht⟩) hS.2.2 dX1_readPart_284
        · skip
          have hb287 : ∀ k, Rc gT (Crun gs (Ipart gd :: k)) (Cbad (V265 1 3).toInt) := fun k => (hr259 k).tr (h269 (k))
          refine lv_if_eq (tgt := 283) hx hb dX1_readPart_268 (by decide) (fun c288 => ?_) (fun c288 => ?_)
          · skip
            have f289 : z261.toInt = 0 := b_eq rfl (by decide) c288
            refine lv_iconst (v := 0) hx hb dX1_readPart_283 (by decide) ?_
            exact W.zret (v := 0) hx hb hr rfl (fun t ht hW => ⟨⟨0, (V265, L266), rfl, ⟨hMV265, agV265, alL266, (by decide), (Or.inr ⟨rfl, hb287⟩)⟩, by rw [ht]; exact hP, va_K.moved hW.alike hK, hD⟩, hS.F ht⟩) hS.2.2 dX1_readPart_284
          · skip
            have f290 : z261.toInt ≠ 0 := b_neq rfl (by decide) c288
            exfalso; omega
      · skip
        have f291 : 8 ≤ p0.toInt := b_nlt rfl (by decide) c10
        refine lv_aload_n hx hb dX1_readPart_19 rfl (lv_at hl 0 rfl) ?_
        refine lv_iconst (v := 5) hx hb dX1_readPart_20 (by decide) ?_
        have kd292 : gT.1 (gs.1 0) = ((V 6 9)).toInt := RelC.kd rel
        have r293 : Int32.toInt 5 = 5 := by decide
        refine gA_int (gA_runV (As := [.int 5]) (rest := []) (ci := 1) (q0 := 1) hx hb hml hown hg hP hD hK hS hA hnw hgk (x_wrong2 l D ks H.size ad kk V L Z 5 hMV (by decide)) w867 w869 w6 w162 w870 rfl xgReader hdV_yX1_wrong ⟨(by show 0 + 1 ≤ 10 * dd + 6; omega), (by show 8 + (2 + 11) + (0) ≤ 300 * dd + 150; omega)⟩ rfl hl.1 rfl (Nat.le_of_ble_eq_true rfl) dX1_readPart_21 ⟨Nat.le_of_ble_eq_true rfl, Nat.le_of_ble_eq_true rfl⟩) hP hD hK hS hA (fun z294 u295 H locs w296 hP hD hK hS => ?_)
        obtain ⟨V299, L300⟩ := u295
        obtain ⟨hMV299, ajV299, axL300, rgz294, t297, t298⟩ := w296
        have axL300 : L = L300 := Eq.symm axL300
        subst axL300
        have hP : va_P D vwCl (xw ad kk V299 L Z) H := hP
        have hD : va_D A (xw ad kk V299 L Z) := hD
        have hMV299 : rgd bX V299 := hMV299
        have ajV299 : agr [(1, 3)] [] V V299 := ajV299
        have agV299 : agr [(1, 3), (1, 6), (1, 8), (6, 8), (6, 9), (6, 10)] [42, 43, 44, 48] V V299 := agV.tr ajV299 (by decide) (by decide)
        have rgz294 : 0 ≤ z294.toInt ∧ z294.toInt ≤ 0 := rgz294
        have t297 : 1 ≤ (V299 1 3).toInt := t297
        have t298 : (V299 1 3).toInt = (Int32.toInt 5) + 16 * (V 6 10).toInt := t298
        have r301 : 0 ≤ ((V 6 10)).toInt ∧ ((V 6 10)).toInt ≤ 4000 := hMV 6 10
        have hr302 : ∀ k, Rc gT (Crun gs (Ipart gd :: k)) (Crun gs (Ipart gd :: k)) := fun k => Rc.rf
        have hb303 : ∀ k, Rc gT (Crun gs (Ipart gd :: k)) (Cbad (V299 1 3).toInt) := fun k => Rc.go1 (hr302 k) ((part_5 gd h7 (by omega)).trans (fl_eq (RelC.st rel) (show (V299 1 3).toInt = 5 + 16 * (V 6 10).toInt from by omega)))
        exact W.zret (v := z294) hx hb hr (nb_ok (by omega)) (fun t ht hW => ⟨⟨z294, (V299, L), rfl, ⟨hMV299, agV299, alL, (show 0 ≤ z294.toInt ∧ z294.toInt ≤ 1 from by omega), (Or.inr ⟨(by omega), hb303⟩)⟩, by rw [ht]; exact hP, va_K.moved hW.alike hK, hD⟩, hS.F ht⟩) hS.2.2 dX1_readPart_24
    · skip
      have f304 : z2.toInt = 0 := b_eq rfl (by decide) c8
      exfalso; omega
  · skip
    refine lv_if_ne (tgt := 13) hx hb dX1_readPart_4 (by decide) (fun c305 => ?_) (fun c305 => ?_)
    · skip
      have f306 : z2.toInt ≠ 0 := b_neq rfl (by decide) c305
      exfalso; omega
    · skip
      have f307 : z2.toInt = 0 := b_eq rfl (by decide) c305
      refine lv_aload_n hx hb dX1_readPart_7 rfl (lv_at hl 0 rfl) ?_
      refine lv_iconst (v := 1) hx hb dX1_readPart_8 (by decide) ?_
      have kd308 : gT.1 (gs.1 0) = ((V 6 9)).toInt := RelC.kd rel
      have r309 : Int32.toInt 1 = 1 := by decide
      refine gA_int (gA_runV (As := [.int 1]) (rest := []) (ci := 1) (q0 := 1) hx hb hml hown hg hP hD hK hS hA hnw hgk (x_wrong2 l D ks H.size ad kk V L Z 1 hMV (by decide)) w867 w869 w6 w162 w870 rfl xgReader hdV_yX1_wrong ⟨(by show 0 + 1 ≤ 10 * dd + 6; omega), (by show 8 + (2 + 11) + (0) ≤ 300 * dd + 150; omega)⟩ rfl hl.1 rfl (Nat.le_of_ble_eq_true rfl) dX1_readPart_9 ⟨Nat.le_of_ble_eq_true rfl, Nat.le_of_ble_eq_true rfl⟩) hP hD hK hS hA (fun z310 u311 H locs w312 hP hD hK hS => ?_)
      obtain ⟨V315, L316⟩ := u311
      obtain ⟨hMV315, ajV315, axL316, rgz310, t313, t314⟩ := w312
      have axL316 : L = L316 := Eq.symm axL316
      subst axL316
      have hP : va_P D vwCl (xw ad kk V315 L Z) H := hP
      have hD : va_D A (xw ad kk V315 L Z) := hD
      have hMV315 : rgd bX V315 := hMV315
      have ajV315 : agr [(1, 3)] [] V V315 := ajV315
      have agV315 : agr [(1, 3), (1, 6), (1, 8), (6, 8), (6, 9), (6, 10)] [42, 43, 44, 48] V V315 := agV.tr ajV315 (by decide) (by decide)
      have rgz310 : 0 ≤ z310.toInt ∧ z310.toInt ≤ 0 := rgz310
      have t313 : 1 ≤ (V315 1 3).toInt := t313
      have t314 : (V315 1 3).toInt = (Int32.toInt 1) + 16 * (V 6 10).toInt := t314
      have r317 : 0 ≤ ((V 6 10)).toInt ∧ ((V 6 10)).toInt ≤ 4000 := hMV 6 10
      have hr318 : ∀ k, Rc gT (Crun gs (Ipart gd :: k)) (Crun gs (Ipart gd :: k)) := fun k => Rc.rf
      have hb319 : ∀ k, Rc gT (Crun gs (Ipart gd :: k)) (Cbad (V315 1 3).toInt) := fun k => Rc.go1 (hr318 k) ((part_1 gd h7).trans (fl_eq (RelC.st rel) (show (V315 1 3).toInt = 1 + 16 * (V 6 10).toInt from by omega)))
      exact W.zret (v := z310) hx hb hr (nb_ok (by omega)) (fun t ht hW => ⟨⟨z310, (V315, L), rfl, ⟨hMV315, agV315, alL, (show 0 ≤ z310.toInt ∧ z310.toInt ≤ 1 from by omega), (Or.inr ⟨(by omega), hb319⟩)⟩, by rw [ht]; exact hP, va_K.moved hW.alike hK, hD⟩, hS.F ht⟩) hS.2.2 dX1_readPart_12
set_option maxHeartbeats 4000000 in
set_option maxRecDepth 100000 in
theorem x_readPick3 {l : Launch} {D : va_G} {ks : KS} {dd : Nat} (hk_x_readExpression3 : K_x_readExpression3 l D ks dd) : K_x_readPick3 l D ks dd := by
  intro sz ad kk V L Z p0 b gT gs gd hMV rg_p0 hb2 rbk rel yd wh ow y1
  refine g_met (q_x_readPick3 D ks ad kk V L Z p0 b gT gs gd) (by decide) (Nat.le_of_ble_eq_true rfl) ?_
  intro p e s m below meth c A ls H locs hx hb hr hml hown hg hlocks hin hnw hgk hP hK hD hS hA hl
  have hown : s.vm.findClass RX1 = some m.cls := hown
  have hl : lv_has ls 4 [(0, .ref (ad 1)), (1, .int p0)] := hl
  have hP : va_P D vwCl (xw ad kk V L Z) H := hP
  have hD : va_D A (xw ad kk V L Z) := hD
  have hK : va_K D vwCl (xty kk Z) s := hK
  have agV : agr [(1, 3), (1, 6), (1, 8), (6, 8), (6, 9), (6, 10)] [42, 43, 44, 48] V V := agr.rf
  have alL : agL [6, 44] L L := agL.rf
  have rf_p0 := i_full p0
  have r1 : (-1) ≤ ((V 1 1)).toInt ∧ ((V 1 1)).toInt ≤ 1 := hMV 1 1
  refine lv_aload_n hx hb dX1_readPick_0 rfl (lv_at hl 0 rfl) ?_
  refine lv_bipush (v := 40) hx hb dX1_readPick_1 (by decide) ?_
  have hr2 : ∀ k, Rc gT (Crun gs (Itake 40 :: Iexpr (gd + 1) :: Itake 44 :: Iexpr (gd + 1) :: Itake 44 :: Iexpr (gd + 1) :: Itake 41 :: k)) (Crun gs (Itake 40 :: Iexpr (gd + 1) :: Itake 44 :: Iexpr (gd + 1) :: Itake 44 :: Iexpr (gd + 1) :: Itake 41 :: k)) := fun k => Rc.rf
  have r3 : Int32.toInt 40 = 40 := by decide
  refine gA_int (gA_runV (As := [.int 40]) (rest := []) (ci := 1) (q0 := 1) hx hb hml hown hg hP hD hK hS hA hnw hgk (x_take2 l D ks H.size ad kk V L Z 40 ((gs.1 0)) hMV (rel).1 (rel).2.1.1 (show 1 ≤ (Int32.toInt 40) from by omega)) w893 w895 w10 w162 w896 rfl xgReader hdV_yX1_take ⟨(by show 1 + 1 ≤ 10 * dd + 10; omega), (by show 8 + (2 + 11) + (21) ≤ 300 * dd + 265; omega)⟩ rfl hl.1 rfl (Nat.le_of_ble_eq_true rfl) dX1_readPick_3 ⟨Nat.le_of_ble_eq_true rfl, Nat.le_of_ble_eq_true rfl⟩) hP hD hK hS hA (fun z4 u5 H locs w6 hP hD hK hS => ?_)
  obtain ⟨V9, L10⟩ := u5
  obtain ⟨hMV9, ajV9, axL10, rgz4, t7, t8⟩ := w6
  have alL10 : agL [6, 44] L L10 := agL.tr alL axL10 (by decide)
  have hP : va_P D vwCl (xw ad kk V9 L10 Z) H := hP
  have hD : va_D A (xw ad kk V9 L10 Z) := hD
  have hMV9 : rgd bX V9 := hMV9
  have ajV9 : agr [(1, 3), (6, 8), (6, 9), (6, 10)] [] V V9 := ajV9
  have agV9 : agr [(1, 3), (1, 6), (1, 8), (6, 8), (6, 9), (6, 10)] [42, 43, 44, 48] V V9 := agV.tr ajV9 (by decide) (by decide)
  have rgz4 : 0 ≤ z4.toInt ∧ z4.toInt ≤ 1 := rgz4
  have t7 : Imp (z4.toInt = 0) (1 ≤ (V9 1 3).toInt) := t7
  have t8 : (z4.toInt = 1 ∧ (V 12 (gs.1 0)).toInt = (Int32.toInt 40) ∧ CUR V9 L10 ((gs.1 0) + 1) ∧ V9 1 3 = V 1 3) ∨ (z4.toInt = 0 ∧ (V 12 (gs.1 0)).toInt ≠ (Int32.toInt 40) ∧ (V9 1 3).toInt = 1 + 16 * (V 13 (gs.1 0)).toInt) := t8
  rcases t8 with ⟨q11, h12, k13, k14⟩ | ⟨q11, h12, k13⟩
  · skip
    have rl15 : RelC V9 L10 b gT (nx gs 1) := RelC.nx1 rel ajV9 (by decide) axL10 (by decide) k13 k14
    have hr16 : ∀ k, Rc gT (Crun gs (Itake 40 :: Iexpr (gd + 1) :: Itake 44 :: Iexpr (gd + 1) :: Itake 44 :: Iexpr (gd + 1) :: Itake 41 :: k)) (Crun (nx gs 1) (Iexpr (gd + 1) :: Itake 44 :: Iexpr (gd + 1) :: Itake 44 :: Iexpr (gd + 1) :: Itake 41 :: k)) := fun k => Rc.go1 (hr2 k) (tk_y (rel.tok.1.trans (h12.trans (by decide))))
    refine lv_if_eq (tgt := 28) hx hb dX1_readPick_6 (by decide) (fun c17 => ?_) (fun c17 => ?_)
    · skip
      have f18 : z4.toInt = 0 := b_eq rfl (by decide) c17
      exfalso; first | omega | ((try (have i_t7 := Imp.go t7 (by omega))); omega)
    · skip
      have f19 : z4.toInt ≠ 0 := b_neq rfl (by decide) c17
      refine lv_aload_n hx hb dX1_readPick_9 rfl (lv_at hl 0 rfl) ?_
      refine lv_iload_n hx hb dX1_readPick_10 rfl (lv_at hl 1 rfl) ?_
      refine lv_iconst (v := 1) hx hb dX1_readPick_11 (by decide) ?_
      refine lv_iadd hx hb dX1_readPick_12 ?_
      refine lv_topi (fun z20 ez20 => ?_)
      have hz20 : z20.toInt = p0.toInt + 1 := i_add ez20 rfl (by decide) (by omega)
      have pq21 : (V9 1 1).toInt = ((V 1 1)).toInt := congrArg Int32.toInt (ajV9 1 1 rfl)
      refine gA_int (gA_runV (As := [.int z20]) (rest := []) (ci := 1) (q0 := 1) hx hb hml hown hg hP hD hK hS hA hnw hgk (hk_x_readExpression3 H.size ad kk V9 L10 Z z20 (b) (gT) ((nx gs 1)) ((gd + 1)) hMV9 (by first | omega | ((try (have i_t7 := Imp.go t7 (by omega))); omega)) (show b < 2 from by first | omega | ((try (have i_t7 := Imp.go t7 (by omega))); omega)) (show (V9 1 1).toInt = (b : Int) from by first | omega | ((try (have i_t7 := Imp.go t7 (by omega))); omega)) rl15 (show z20.toInt = ((gd + 1) : Int) from by first | omega | ((try (have i_t7 := Imp.go t7 (by omega))); omega)) (((congrArg Int32.toInt (ajV9 1 4 rfl)).trans wh).trans (congrArg (fun n9 : Nat => (n9 : Int)) (((keepS.tr (keepS.rf : keepS gs 0 gs) (keepS.n1 1))).2.1 4 (by decide)).symm)) (fun h9 => by rw [(ajV9 1 2 rfl)]; exact ow ((congrArg Int32.toInt (ajV9 1 4 rfl)).symm.trans h9)) (show 8 - z20.toInt ≤ (dd : Int) from by first | omega | ((try (have i_t7 := Imp.go t7 (by omega))); omega))) w951 w953 w21 w162 w954 rfl xgReader hdV_yX1_readExpression ⟨(by show 10 * dd + 9 + 1 ≤ 10 * dd + 10; omega), (by show 8 + (3 + 11) + (300 * dd + 240) ≤ 300 * dd + 265; omega)⟩ rfl hl.1 rfl (Nat.le_of_ble_eq_true rfl) dX1_readPick_13 ⟨Nat.le_of_ble_eq_true rfl, Nat.le_of_ble_eq_true rfl⟩) hP hD hK hS hA (fun z22 u23 H locs w24 hP hD hK hS => ?_)
      obtain ⟨V26, L27⟩ := u23
      obtain ⟨hMV26, ajV26, axL27, rgz22, t25⟩ := w24
      have alL27 : agL [6, 44] L L27 := agL.tr alL10 axL27 (by decide)
      have hP : va_P D vwCl (xw ad kk V26 L27 Z) H := hP
      have hD : va_D A (xw ad kk V26 L27 Z) := hD
      have hMV26 : rgd bX V26 := hMV26
      have ajV26 : agr [(1, 3), (1, 6), (1, 8), (6, 8), (6, 9), (6, 10)] [42, 43, 44, 48] V9 V26 := ajV26
      have agV26 : agr [(1, 3), (1, 6), (1, 8), (6, 8), (6, 9), (6, 10)] [42, 43, 44, 48] V V26 := agV9.tr ajV26 (by decide) (by decide)
      have rgz22 : 0 ≤ z22.toInt ∧ z22.toInt ≤ 1 := rgz22
      have t25 : Rd gT (nx gs 1) (fun k => Iexpr (gd + 1) :: k) (fun k => k) z22.toInt (V26 1 3).toInt (fun s9 => RelC V26 L27 b gT s9 ∧ keepS (nx gs 1) 1 s9) := t25
      rcases t25 with ⟨q28, sx29, h30, rl31, kp32⟩ | ⟨q28, h30⟩
      · skip
        have hr33 : ∀ k, Rc gT (Crun gs (Itake 40 :: Iexpr (gd + 1) :: Itake 44 :: Iexpr (gd + 1) :: Itake 44 :: Iexpr (gd + 1) :: Itake 41 :: k)) (Crun sx29 (Itake 44 :: Iexpr (gd + 1) :: Itake 44 :: Iexpr (gd + 1) :: Itake 41 :: k)) := fun k => (hr16 k).tr (h30 (Itake 44 :: Iexpr (gd + 1) :: Itake 44 :: Iexpr (gd + 1) :: Itake 41 :: k))
        refine lv_if_eq (tgt := 28) hx hb dX1_readPick_16 (by decide) (fun c34 => ?_) (fun c34 => ?_)
        · skip
          have f35 : z22.toInt = 0 := b_eq rfl (by decide) c34
          exfalso; first | omega | ((try (have i_t7 := Imp.go t7 (by omega))); omega)
        · skip
          have f36 : z22.toInt ≠ 0 := b_neq rfl (by decide) c34
          refine lv_aload_n hx hb dX1_readPick_19 rfl (lv_at hl 0 rfl) ?_
          refine lv_bipush (v := 44) hx hb dX1_readPick_20 (by decide) ?_
          have r37 : Int32.toInt 44 = 44 := by decide
          refine gA_int (gA_runV (As := [.int 44]) (rest := []) (ci := 1) (q0 := 1) hx hb hml hown hg hP hD hK hS hA hnw hgk (x_take2 l D ks H.size ad kk V26 L27 Z 44 ((sx29.1 0)) hMV26 (rl31).1 (rl31).2.1.1 (show 1 ≤ (Int32.toInt 44) from by first | omega | ((try (have i_t7 := Imp.go t7 (by omega))); omega))) w893 w895 w10 w162 w896 rfl xgReader hdV_yX1_take ⟨(by show 1 + 1 ≤ 10 * dd + 10; omega), (by show 8 + (2 + 11) + (21) ≤ 300 * dd + 265; omega)⟩ rfl hl.1 rfl (Nat.le_of_ble_eq_true rfl) dX1_readPick_22 ⟨Nat.le_of_ble_eq_true rfl, Nat.le_of_ble_eq_true rfl⟩) hP hD hK hS hA (fun z38 u39 H locs w40 hP hD hK hS => ?_)
          obtain ⟨V43, L44⟩ := u39
          obtain ⟨hMV43, ajV43, axL44, rgz38, t41, t42⟩ := w40
          have alL44 : agL [6, 44] L L44 := agL.tr alL27 axL44 (by decide)
          have hP : va_P D vwCl (xw ad kk V43 L44 Z) H := hP
          have hD : va_D A (xw ad kk V43 L44 Z) := hD
          have hMV43 : rgd bX V43 := hMV43
          have ajV43 : agr [(1, 3), (6, 8), (6, 9), (6, 10)] [] V26 V43 := ajV43
          have agV43 : agr [(1, 3), (1, 6), (1, 8), (6, 8), (6, 9), (6, 10)] [42, 43, 44, 48] V V43 := agV26.tr ajV43 (by decide) (by decide)
          have rgz38 : 0 ≤ z38.toInt ∧ z38.toInt ≤ 1 := rgz38
          have t41 : Imp (z38.toInt = 0) (1 ≤ (V43 1 3).toInt) := t41
          have t42 : (z38.toInt = 1 ∧ (V26 12 (sx29.1 0)).toInt = (Int32.toInt 44) ∧ CUR V43 L44 ((sx29.1 0) + 1) ∧ V43 1 3 = V26 1 3) ∨ (z38.toInt = 0 ∧ (V26 12 (sx29.1 0)).toInt ≠ (Int32.toInt 44) ∧ (V43 1 3).toInt = 1 + 16 * (V26 13 (sx29.1 0)).toInt) := t42
          rcases t42 with ⟨q45, h46, k47, k48⟩ | ⟨q45, h46, k47⟩
          · skip
            have rl49 : RelC V43 L44 b gT (nx sx29 1) := RelC.nx1 rl31 ajV43 (by decide) axL44 (by decide) k47 k48
            have hr50 : ∀ k, Rc gT (Crun gs (Itake 40 :: Iexpr (gd + 1) :: Itake 44 :: Iexpr (gd + 1) :: Itake 44 :: Iexpr (gd + 1) :: Itake 41 :: k)) (Crun (nx sx29 1) (Iexpr (gd + 1) :: Itake 44 :: Iexpr (gd + 1) :: Itake 41 :: k)) := fun k => Rc.go1 (hr33 k) (tk_y (rl31.tok.1.trans (h46.trans (by decide))))
            refine lv_if_ne (tgt := 30) hx hb dX1_readPick_25 (by decide) (fun c51 => ?_) (fun c51 => ?_)
            · skip
              have f52 : z38.toInt ≠ 0 := b_neq rfl (by decide) c51
              refine lv_aload_n hx hb dX1_readPick_30 rfl (lv_at hl 0 rfl) ?_
              refine va_get (D := D) (ci := 1) (v := rfN ad 38 (V43 1 1)) (fs := (xfReader ad V43 L44 Z)) (C := RX1) (T := TX1) (N := 9) hx hb hg inX1 hown hK hP 1 xgReader rfl 1 (by decide) (hg _ w305) (fun _ h9 => h9) rfl dX1_readPick_31 ?_
              have pq53 : (V43 1 1).toInt = ((V 1 1)).toInt := congrArg Int32.toInt ((ajV43 1 1 rfl).trans ((ajV26 1 1 rfl).trans (ajV9 1 1 rfl)))
              refine g_topv (v := .ref (ad (38 + b))) (rfN_r (by first | omega | ((try (have i_t41 := Imp.go t41 (by omega))); (try (have i_t7 := Imp.go t7 (by omega))); (try (have i_t7 := Imp.go t7 (by omega))); (try (have i_t41 := Imp.go t41 (by omega))); omega))) ?_
              refine va_getN (D := D) (ci := 0) (v := .int (V43 42 b)) (fs := (xfBook ad V43 b)) (C := RX0) (T := TX0) (N := 13) hx hb hg inX0 hown hK hP (38 + b) (xgBook hb2) rfl 12 (by decide) (hnw.use 630 n630 rfl) (fun _ h9 => h9) rfl dX1_readPick_34 ?_
              refine g_top (v := (V26 42 b)) (ajV43 42 b rfl) ?_
              have r54 : 0 ≤ ((V26 42 b)).toInt ∧ ((V26 42 b)).toInt ≤ 8200 := hMV26 42 b
              refine lv_iconst (v := 1) hx hb dX1_readPick_37 (by decide) ?_
              refine lv_iadd hx hb dX1_readPick_38 ?_
              refine lv_topi (fun z55 ez55 => ?_)
              have hz55 : z55.toInt = ((V26 42 b)).toInt + 1 := i_add ez55 rfl (by decide) (by omega)
              refine lv_istore_n (lv' := [(2, .int z55), (0, .ref (ad 1)), (1, .int p0)]) hx hb dX1_readPick_39 rfl hl (by decide) rfl (fun ls hl => ?_)
              refine lv_aload_n hx hb dX1_readPick_40 rfl (lv_at hl 1 rfl) ?_
              refine lv_bipush (v := 13) hx hb dX1_readPick_41 (by decide) ?_
              refine lv_iconst (v := 0) hx hb dX1_readPick_43 (by decide) ?_
              have r56 : Int32.toInt 13 = 13 := by decide
              have r57 : Int32.toInt 0 = 0 := by decide
              refine gA_int (gA_runV (As := [.int 13, .int 0]) (rest := []) (ci := 1) (q0 := 1) hx hb hml hown hg hP hD hK hS hA hnw hgk (x_put3 l D ks H.size ad kk V43 L44 Z 13 0 (b) hMV43 (show b < 2 from by first | omega | ((try (have i_t41 := Imp.go t41 (by omega))); (try (have i_t7 := Imp.go t7 (by omega))); (try (have i_t7 := Imp.go t7 (by omega))); (try (have i_t41 := Imp.go t41 (by omega))); omega)) (show (V43 1 1).toInt = (b : Int) from by first | omega | ((try (have i_t41 := Imp.go t41 (by omega))); (try (have i_t7 := Imp.go t7 (by omega))); (try (have i_t7 := Imp.go t7 (by omega))); (try (have i_t41 := Imp.go t41 (by omega))); omega))) w975 w977 w26 w162 w978 rfl xgReader hdV_yX1_put ⟨(by show 1 + 1 ≤ 10 * dd + 10; omega), (by show 8 + (3 + 11) + (21) ≤ 300 * dd + 265; omega)⟩ rfl hl.1 rfl (Nat.le_of_ble_eq_true rfl) dX1_readPick_44 ⟨Nat.le_of_ble_eq_true rfl, Nat.le_of_ble_eq_true rfl⟩) hP hD hK hS hA (fun z58 u59 H locs w60 hP hD hK hS => ?_)
              obtain ⟨V61, L62⟩ := u59
              obtain ⟨hMV61, ajV61, axL62, rgz58⟩ := w60
              have axL62 : L44 = L62 := Eq.symm axL62
              subst axL62
              have hP : va_P D vwCl (xw ad kk V61 L44 Z) H := hP
              have hD : va_D A (xw ad kk V61 L44 Z) := hD
              have hMV61 : rgd bX V61 := hMV61
              have ajV61 : agr [] [42, 48] V43 V61 := ajV61
              have agV61 : agr [(1, 3), (1, 6), (1, 8), (6, 8), (6, 9), (6, 10)] [42, 43, 44, 48] V V61 := agV43.tr ajV61 (by decide) (by decide)
              have rgz58 : 1 ≤ z58.toInt ∧ z58.toInt ≤ 1 := rgz58
              refine lv_pop hx hb dX1_readPick_47 rfl ?_
              refine lv_aload_n hx hb dX1_readPick_48 rfl (lv_at hl 1 rfl) ?_
              refine lv_iload_n hx hb dX1_readPick_49 rfl (lv_at hl 2 rfl) ?_
              refine lv_iconst (v := 1) hx hb dX1_readPick_50 (by decide) ?_
              refine lv_iadd hx hb dX1_readPick_51 ?_
              refine lv_topi (fun z63 ez63 => ?_)
              have hz63 : z63.toInt = p0.toInt + 1 := i_add ez63 rfl (by decide) (by omega)
              have rl64 : RelC V61 L44 b gT (nx sx29 1) := RelC.ag rl49 (show agr [] [42, 48] V43 V61 from (agr.tr agr.rf ajV61 (by decide) (by decide))) (by decide) (show agL [] L44 L44 from agL.rf) (by decide)
              have pq65 : (V61 1 1).toInt = ((V 1 1)).toInt := congrArg Int32.toInt ((ajV61 1 1 rfl).trans ((ajV43 1 1 rfl).trans ((ajV26 1 1 rfl).trans (ajV9 1 1 rfl))))
              refine gA_int (gA_runV (As := [.int z63]) (rest := []) (ci := 1) (q0 := 1) hx hb hml hown hg hP hD hK hS hA hnw hgk (hk_x_readExpression3 H.size ad kk V61 L44 Z z63 (b) (gT) ((nx sx29 1)) ((gd + 1)) hMV61 (by first | omega | ((try (have i_t41 := Imp.go t41 (by omega))); (try (have i_t7 := Imp.go t7 (by omega))); (try (have i_t7 := Imp.go t7 (by omega))); (try (have i_t41 := Imp.go t41 (by omega))); omega)) (show b < 2 from by first | omega | ((try (have i_t41 := Imp.go t41 (by omega))); (try (have i_t7 := Imp.go t7 (by omega))); (try (have i_t7 := Imp.go t7 (by omega))); (try (have i_t41 := Imp.go t41 (by omega))); omega)) (show (V61 1 1).toInt = (b : Int) from by first | omega | ((try (have i_t41 := Imp.go t41 (by omega))); (try (have i_t7 := Imp.go t7 (by omega))); (try (have i_t7 := Imp.go t7 (by omega))); (try (have i_t41 := Imp.go t41 (by omega))); omega)) rl64 (show z63.toInt = ((gd + 1) : Int) from by first | omega | ((try (have i_t41 := Imp.go t41 (by omega))); (try (have i_t7 := Imp.go t7 (by omega))); (try (have i_t7 := Imp.go t7 (by omega))); (try (have i_t41 := Imp.go t41 (by omega))); omega)) (((congrArg Int32.toInt ((ajV61 1 4 rfl).trans ((ajV43 1 4 rfl).trans ((ajV26 1 4 rfl).trans (ajV9 1 4 rfl))))).trans wh).trans (congrArg (fun n9 : Nat => (n9 : Int)) (((keepS.tr (keepS.tr (keepS.tr (keepS.rf : keepS gs 0 gs) (keepS.n1 1)) kp32) (keepS.n1 1))).2.1 4 (by decide)).symm)) (fun h9 => by rw [((ajV61 1 2 rfl).trans ((ajV43 1 2 rfl).trans ((ajV26 1 2 rfl).trans (ajV9 1 2 rfl))))]; exact ow ((congrArg Int32.toInt ((ajV61 1 4 rfl).trans ((ajV43 1 4 rfl).trans ((ajV26 1 4 rfl).trans (ajV9 1 4 rfl))))).symm.trans h9)) (show 8 - z63.toInt ≤ (dd : Int) from by first | omega | ((try (have i_t41 := Imp.go t41 (by omega))); (try (have i_t7 := Imp.go t7 (by omega))); (try (have i_t7 := Imp.go t7 (by omega))); (try (have i_t41 := Imp.go t41 (by omega))); omega))) w951 w953 w21 w162 w954 rfl xgReader hdV_yX1_readExpression ⟨(by show 10 * dd + 9 + 1 ≤ 10 * dd + 10; omega), (by show 8 + (3 + 11) + (300 * dd + 240) ≤ 300 * dd + 265; omega)⟩ rfl hl.1 rfl (Nat.le_of_ble_eq_true rfl) dX1_readPick_52 ⟨Nat.le_of_ble_eq_true rfl, Nat.le_of_ble_eq_true rfl⟩) hP hD hK hS hA (fun z66 u67 H locs w68 hP hD hK hS => ?_)
              obtain ⟨V70, L71⟩ := u67
              obtain ⟨hMV70, ajV70, axL71, rgz66, t69⟩ := w68
              have alL71 : agL [6, 44] L L71 := agL.tr alL44 axL71 (by decide)
              have hP : va_P D vwCl (xw ad kk V70 L71 Z) H := hP
              have hD : va_D A (xw ad kk V70 L71 Z) := hD
              have hMV70 : rgd bX V70 := hMV70
              have ajV70 : agr [(1, 3), (1, 6), (1, 8), (6, 8), (6, 9), (6, 10)] [42, 43, 44, 48] V61 V70 := ajV70
              have agV70 : agr [(1, 3), (1, 6), (1, 8), (6, 8), (6, 9), (6, 10)] [42, 43, 44, 48] V V70 := agV61.tr ajV70 (by decide) (by decide)
              have rgz66 : 0 ≤ z66.toInt ∧ z66.toInt ≤ 1 := rgz66
              have t69 : Rd gT (nx sx29 1) (fun k => Iexpr (gd + 1) :: k) (fun k => k) z66.toInt (V70 1 3).toInt (fun s9 => RelC V70 L71 b gT s9 ∧ keepS (nx sx29 1) 1 s9) := t69
              rcases t69 with ⟨q72, sx73, h74, rl75, kp76⟩ | ⟨q72, h74⟩
              · skip
                have hr77 : ∀ k, Rc gT (Crun gs (Itake 40 :: Iexpr (gd + 1) :: Itake 44 :: Iexpr (gd + 1) :: Itake 44 :: Iexpr (gd + 1) :: Itake 41 :: k)) (Crun sx73 (Itake 44 :: Iexpr (gd + 1) :: Itake 41 :: k)) := fun k => (hr50 k).tr (h74 (Itake 44 :: Iexpr (gd + 1) :: Itake 41 :: k))
                refine lv_if_eq (tgt := 67) hx hb dX1_readPick_55 (by decide) (fun c78 => ?_) (fun c78 => ?_)
                · skip
                  have f79 : z66.toInt = 0 := b_eq rfl (by decide) c78
                  exfalso; first | omega | ((try (have i_t41 := Imp.go t41 (by omega))); (try (have i_t7 := Imp.go t7 (by omega))); (try (have i_t7 := Imp.go t7 (by omega))); (try (have i_t41 := Imp.go t41 (by omega))); omega)
                · skip
                  have f80 : z66.toInt ≠ 0 := b_neq rfl (by decide) c78
                  refine lv_aload_n hx hb dX1_readPick_58 rfl (lv_at hl 1 rfl) ?_
                  refine lv_bipush (v := 44) hx hb dX1_readPick_59 (by decide) ?_
                  refine gA_int (gA_runV (As := [.int 44]) (rest := []) (ci := 1) (q0 := 1) hx hb hml hown hg hP hD hK hS hA hnw hgk (x_take2 l D ks H.size ad kk V70 L71 Z 44 ((sx73.1 0)) hMV70 (rl75).1 (rl75).2.1.1 (show 1 ≤ (Int32.toInt 44) from by first | omega | ((try (have i_t41 := Imp.go t41 (by omega))); (try (have i_t7 := Imp.go t7 (by omega))); (try (have i_t7 := Imp.go t7 (by omega))); (try (have i_t41 := Imp.go t41 (by omega))); omega))) w893 w895 w10 w162 w896 rfl xgReader hdV_yX1_take ⟨(by show 1 + 1 ≤ 10 * dd + 10; omega), (by show 8 + (2 + 11) + (21) ≤ 300 * dd + 265; omega)⟩ rfl hl.1 rfl (Nat.le_of_ble_eq_true rfl) dX1_readPick_61 ⟨Nat.le_of_ble_eq_true rfl, Nat.le_of_ble_eq_true rfl⟩) hP hD hK hS hA (fun z81 u82 H locs w83 hP hD hK hS => ?_)
                  obtain ⟨V86, L87⟩ := u82
                  obtain ⟨hMV86, ajV86, axL87, rgz81, t84, t85⟩ := w83
                  have alL87 : agL [6, 44] L L87 := agL.tr alL71 axL87 (by decide)
                  have hP : va_P D vwCl (xw ad kk V86 L87 Z) H := hP
                  have hD : va_D A (xw ad kk V86 L87 Z) := hD
                  have hMV86 : rgd bX V86 := hMV86
                  have ajV86 : agr [(1, 3), (6, 8), (6, 9), (6, 10)] [] V70 V86 := ajV86
                  have agV86 : agr [(1, 3), (1, 6), (1, 8), (6, 8), (6, 9), (6, 10)] [42, 43, 44, 48] V V86 := agV70.tr ajV86 (by decide) (by decide)
                  have rgz81 : 0 ≤ z81.toInt ∧ z81.toInt ≤ 1 := rgz81
                  have t84 : Imp (z81.toInt = 0) (1 ≤ (V86 1 3).toInt) := t84
                  have t85 : (z81.toInt = 1 ∧ (V70 12 (sx73.1 0)).toInt = (Int32.toInt 44) ∧ CUR V86 L87 ((sx73.1 0) + 1) ∧ V86 1 3 = V70 1 3) ∨ (z81.toInt = 0 ∧ (V70 12 (sx73.1 0)).toInt ≠ (Int32.toInt 44) ∧ (V86 1 3).toInt = 1 + 16 * (V70 13 (sx73.1 0)).toInt) := t85
                  rcases t85 with ⟨q88, h89, k90, k91⟩ | ⟨q88, h89, k90⟩
                  · skip
                    have rl92 : RelC V86 L87 b gT (nx sx73 1) := RelC.nx1 rl75 ajV86 (by decide) axL87 (by decide) k90 k91
                    have hr93 : ∀ k, Rc gT (Crun gs (Itake 40 :: Iexpr (gd + 1) :: Itake 44 :: Iexpr (gd + 1) :: Itake 44 :: Iexpr (gd + 1) :: Itake 41 :: k)) (Crun (nx sx73 1) (Iexpr (gd + 1) :: Itake 41 :: k)) := fun k => Rc.go1 (hr77 k) (tk_y (rl75.tok.1.trans (h89.trans (by decide))))
                    refine lv_if_ne (tgt := 69) hx hb dX1_readPick_64 (by decide) (fun c94 => ?_) (fun c94 => ?_)
                    · skip
                      have f95 : z81.toInt ≠ 0 := b_neq rfl (by decide) c94
                      refine lv_aload_n hx hb dX1_readPick_69 rfl (lv_at hl 1 rfl) ?_
                      refine va_get (D := D) (ci := 1) (v := rfN ad 38 (V86 1 1)) (fs := (xfReader ad V86 L87 Z)) (C := RX1) (T := TX1) (N := 9) hx hb hg inX1 hown hK hP 1 xgReader rfl 1 (by decide) (hg _ w305) (fun _ h9 => h9) rfl dX1_readPick_70 ?_
                      have pq96 : (V86 1 1).toInt = ((V 1 1)).toInt := congrArg Int32.toInt ((ajV86 1 1 rfl).trans ((ajV70 1 1 rfl).trans ((ajV61 1 1 rfl).trans ((ajV43 1 1 rfl).trans ((ajV26 1 1 rfl).trans (ajV9 1 1 rfl))))))
                      refine g_topv (v := .ref (ad (38 + b))) (rfN_r (by first | omega | ((try (have i_t84 := Imp.go t84 (by omega))); (try (have i_t41 := Imp.go t41 (by omega))); (try (have i_t7 := Imp.go t7 (by omega))); (try (have i_t7 := Imp.go t7 (by omega))); (try (have i_t41 := Imp.go t41 (by omega))); (try (have i_t84 := Imp.go t84 (by omega))); omega))) ?_
                      refine va_getN (D := D) (ci := 0) (v := .int (V86 42 b)) (fs := (xfBook ad V86 b)) (C := RX0) (T := TX0) (N := 13) hx hb hg inX0 hown hK hP (38 + b) (xgBook hb2) rfl 12 (by decide) (hnw.use 630 n630 rfl) (fun _ h9 => h9) rfl dX1_readPick_73 ?_
                      refine g_top (v := (V70 42 b)) (ajV86 42 b rfl) ?_
                      have r97 : 0 ≤ ((V70 42 b)).toInt ∧ ((V70 42 b)).toInt ≤ 8200 := hMV70 42 b
                      refine lv_iconst (v := 1) hx hb dX1_readPick_76 (by decide) ?_
                      refine lv_iadd hx hb dX1_readPick_77 ?_
                      refine lv_topi (fun z98 ez98 => ?_)
                      have hz98 : z98.toInt = ((V70 42 b)).toInt + 1 := i_add ez98 rfl (by decide) (by omega)
                      refine lv_istore_n (lv' := [(3, .int z98), (2, .int z55), (0, .ref (ad 1)), (1, .int p0)]) hx hb dX1_readPick_78 rfl hl (by decide) rfl (fun ls hl => ?_)
                      refine lv_aload_n hx hb dX1_readPick_79 rfl (lv_at hl 2 rfl) ?_
                      refine lv_bipush (v := 14) hx hb dX1_readPick_80 (by decide) ?_
                      refine lv_iconst (v := 0) hx hb dX1_readPick_82 (by decide) ?_
                      have r99 : Int32.toInt 14 = 14 := by decide
                      refine gA_int (gA_runV (As := [.int 14, .int 0]) (rest := []) (ci := 1) (q0 := 1) hx hb hml hown hg hP hD hK hS hA hnw hgk (x_put3 l D ks H.size ad kk V86 L87 Z 14 0 (b) hMV86 (show b < 2 from by first | omega | ((try (have i_t84 := Imp.go t84 (by omega))); (try (have i_t41 := Imp.go t41 (by omega))); (try (have i_t7 := Imp.go t7 (by omega))); (try (have i_t7 := Imp.go t7 (by omega))); (try (have i_t41 := Imp.go t41 (by omega))); (try (have i_t84 := Imp.go t84 (by omega))); omega)) (show (V86 1 1).toInt = (b : Int) from by first | omega | ((try (have i_t84 := Imp.go t84 (by omega))); (try (have i_t41 := Imp.go t41 (by omega))); (try (have i_t7 := Imp.go t7 (by omega))); (try (have i_t7 := Imp.go t7 (by omega))); (try (have i_t41 := Imp.go t41 (by omega))); (try (have i_t84 := Imp.go t84 (by omega))); omega))) w975 w977 w26 w162 w978 rfl xgReader hdV_yX1_put ⟨(by show 1 + 1 ≤ 10 * dd + 10; omega), (by show 8 + (3 + 11) + (21) ≤ 300 * dd + 265; omega)⟩ rfl hl.1 rfl (Nat.le_of_ble_eq_true rfl) dX1_readPick_83 ⟨Nat.le_of_ble_eq_true rfl, Nat.le_of_ble_eq_true rfl⟩) hP hD hK hS hA (fun z100 u101 H locs w102 hP hD hK hS => ?_)
                      obtain ⟨V103, L104⟩ := u101
                      obtain ⟨hMV103, ajV103, axL104, rgz100⟩ := w102
                      have axL104 : L87 = L104 := Eq.symm axL104
                      subst axL104
                      have hP : va_P D vwCl (xw ad kk V103 L87 Z) H := hP
                      have hD : va_D A (xw ad kk V103 L87 Z) := hD
                      have hMV103 : rgd bX V103 := hMV103
                      have ajV103 : agr [] [42, 48] V86 V103 := ajV103
                      have agV103 : agr [(1, 3), (1, 6), (1, 8), (6, 8), (6, 9), (6, 10)] [42, 43, 44, 48] V V103 := agV86.tr ajV103 (by decide) (by decide)
                      have rgz100 : 1 ≤ z100.toInt ∧ z100.toInt ≤ 1 := rgz100
                      refine lv_pop hx hb dX1_readPick_86 rfl ?_
                      refine lv_aload_n hx hb dX1_readPick_87 rfl (lv_at hl 2 rfl) ?_
                      refine va_get (D := D) (ci := 1) (v := rfN ad 38 (V103 1 1)) (fs := (xfReader ad V103 L87 Z)) (C := RX1) (T := TX1) (N := 9) hx hb hg inX1 hown hK hP 1 xgReader rfl 1 (by decide) (hg _ w305) (fun _ h9 => h9) rfl dX1_readPick_88 ?_
                      have pq105 : (V103 1 1).toInt = ((V 1 1)).toInt := congrArg Int32.toInt ((ajV103 1 1 rfl).trans ((ajV86 1 1 rfl).trans ((ajV70 1 1 rfl).trans ((ajV61 1 1 rfl).trans ((ajV43 1 1 rfl).trans ((ajV26 1 1 rfl).trans (ajV9 1 1 rfl)))))))
                      refine g_topv (v := .ref (ad (38 + b))) (rfN_r (by first | omega | ((try (have i_t84 := Imp.go t84 (by omega))); (try (have i_t41 := Imp.go t41 (by omega))); (try (have i_t7 := Imp.go t7 (by omega))); (try (have i_t7 := Imp.go t7 (by omega))); (try (have i_t41 := Imp.go t41 (by omega))); (try (have i_t84 := Imp.go t84 (by omega))); omega))) ?_
                      refine lv_iload_n hx hb dX1_readPick_91 rfl (lv_at hl 1 rfl) ?_
                      refine lv_aload_n hx hb dX1_readPick_92 rfl (lv_at hl 2 rfl) ?_
                      refine va_get (D := D) (ci := 1) (v := rfN ad 38 (V103 1 1)) (fs := (xfReader ad V103 L87 Z)) (C := RX1) (T := TX1) (N := 9) hx hb hg inX1 hown hK hP 1 xgReader rfl 1 (by decide) (hg _ w305) (fun _ h9 => h9) rfl dX1_readPick_93 ?_
                      refine g_topv (v := .ref (ad (38 + b))) (rfN_r (by first | omega | ((try (have i_t84 := Imp.go t84 (by omega))); (try (have i_t41 := Imp.go t41 (by omega))); (try (have i_t7 := Imp.go t7 (by omega))); (try (have i_t7 := Imp.go t7 (by omega))); (try (have i_t41 := Imp.go t41 (by omega))); (try (have i_t84 := Imp.go t84 (by omega))); omega))) ?_
                      refine va_getN (D := D) (ci := 0) (v := .int (V103 42 b)) (fs := (xfBook ad V103 b)) (C := RX0) (T := TX0) (N := 13) hx hb hg inX0 hown hK hP (38 + b) (xgBook hb2) rfl 12 (by decide) (hnw.use 630 n630 rfl) (fun _ h9 => h9) rfl dX1_readPick_96 ?_
                      have r106 : 0 ≤ ((V103 42 b)).toInt ∧ ((V103 42 b)).toInt ≤ 8200 := hMV103 42 b
                      refine gA_void (gA_runV (As := [.int z55, .int (V103 42 b)]) (rest := []) (ci := 0) (q0 := (38 + b)) hx hb hml hown hg hP hD hK hS hA hnw hgk (x_patch l D ks H.size ad kk V103 L87 Z z55 (V103 42 b) (b) hMV103 (show b < 2 from by first | omega | ((try (have i_t84 := Imp.go t84 (by omega))); (try (have i_t41 := Imp.go t41 (by omega))); (try (have i_t7 := Imp.go t7 (by omega))); (try (have i_t7 := Imp.go t7 (by omega))); (try (have i_t41 := Imp.go t41 (by omega))); (try (have i_t84 := Imp.go t84 (by omega))); omega))) w987 w988 w989 w167 w990 rfl (xgBook hb2) hdV_yX0_patch ⟨(by show 0 + 1 ≤ 10 * dd + 10; omega), (by show 8 + (3 + 11) + (0) ≤ 300 * dd + 265; omega)⟩ rfl hl.1 rfl (Nat.le_of_ble_eq_true rfl) dX1_readPick_99 ⟨Nat.le_of_ble_eq_true rfl, Nat.le_of_ble_eq_true rfl⟩) hP hD hK hS hA (fun u108 H locs w109 hP hD hK hS => ?_)
                      obtain ⟨V111, L112⟩ := u108
                      obtain ⟨hMV111, ajV111, axL112, fyV111, t110⟩ := w109
                      have axL112 : L87 = L112 := Eq.symm axL112
                      subst axL112
                      have hP : va_P D vwCl (xw ad kk V111 L87 Z) H := hP
                      have hD : va_D A (xw ad kk V111 L87 Z) := hD
                      have hMV111 : rgd bX V111 := hMV111
                      have ajV111 : agr [] [48] V103 V111 := ajV111
                      have agV111 : agr [(1, 3), (1, 6), (1, 8), (6, 8), (6, 9), (6, 10)] [42, 43, 44, 48] V V111 := agV103.tr ajV111 (by decide) (by decide)
                      have t110 : (z55.toInt < 0 ∨ 8200 ≤ z55.toInt) ∧ V111 = V103 ∨ (0 ≤ z55.toInt ∧ z55.toInt < 8200 ∧ V111 = up2 V103 48 (8200 * b + Int32.toNatClampNeg z55) (V103 42 b)) := t110
                      refine lv_aload_n hx hb dX1_readPick_102 rfl (lv_at hl 2 rfl) ?_
                      refine lv_iload_n hx hb dX1_readPick_103 rfl (lv_at hl 3 rfl) ?_
                      refine lv_iconst (v := 1) hx hb dX1_readPick_104 (by decide) ?_
                      refine lv_iadd hx hb dX1_readPick_105 ?_
                      refine lv_topi (fun z113 ez113 => ?_)
                      have hz113 : z113.toInt = p0.toInt + 1 := i_add ez113 rfl (by decide) (by omega)
                      have rl114 : RelC V111 L87 b gT (nx sx73 1) := RelC.ag rl92 (show agr [] [42, 48] V86 V111 from (agr.tr (agr.tr agr.rf ajV103 (by decide) (by decide)) ajV111 (by decide) (by decide))) (by decide) (show agL [] L87 L87 from agL.rf) (by decide)
                      have pq115 : (V111 1 1).toInt = ((V 1 1)).toInt := congrArg Int32.toInt ((ajV111 1 1 rfl).trans ((ajV103 1 1 rfl).trans ((ajV86 1 1 rfl).trans ((ajV70 1 1 rfl).trans ((ajV61 1 1 rfl).trans ((ajV43 1 1 rfl).trans ((ajV26 1 1 rfl).trans (ajV9 1 1 rfl))))))))
                      refine gA_int (gA_runV (As := [.int z113]) (rest := []) (ci := 1) (q0 := 1) hx hb hml hown hg hP hD hK hS hA hnw hgk (hk_x_readExpression3 H.size ad kk V111 L87 Z z113 (b) (gT) ((nx sx73 1)) ((gd + 1)) hMV111 (by first | omega | ((try (have i_t84 := Imp.go t84 (by omega))); (try (have i_t41 := Imp.go t41 (by omega))); (try (have i_t7 := Imp.go t7 (by omega))); (try (have i_t7 := Imp.go t7 (by omega))); (try (have i_t41 := Imp.go t41 (by omega))); (try (have i_t84 := Imp.go t84 (by omega))); omega)) (show b < 2 from by first | omega | ((try (have i_t84 := Imp.go t84 (by omega))); (try (have i_t41 := Imp.go t41 (by omega))); (try (have i_t7 := Imp.go t7 (by omega))); (try (have i_t7 := Imp.go t7 (by omega))); (try (have i_t41 := Imp.go t41 (by omega))); (try (have i_t84 := Imp.go t84 (by omega))); omega)) (show (V111 1 1).toInt = (b : Int) from by first | omega | ((try (have i_t84 := Imp.go t84 (by omega))); (try (have i_t41 := Imp.go t41 (by omega))); (try (have i_t7 := Imp.go t7 (by omega))); (try (have i_t7 := Imp.go t7 (by omega))); (try (have i_t41 := Imp.go t41 (by omega))); (try (have i_t84 := Imp.go t84 (by omega))); omega)) rl114 (show z113.toInt = ((gd + 1) : Int) from by first | omega | ((try (have i_t84 := Imp.go t84 (by omega))); (try (have i_t41 := Imp.go t41 (by omega))); (try (have i_t7 := Imp.go t7 (by omega))); (try (have i_t7 := Imp.go t7 (by omega))); (try (have i_t41 := Imp.go t41 (by omega))); (try (have i_t84 := Imp.go t84 (by omega))); omega)) (((congrArg Int32.toInt ((ajV111 1 4 rfl).trans ((ajV103 1 4 rfl).trans ((ajV86 1 4 rfl).trans ((ajV70 1 4 rfl).trans ((ajV61 1 4 rfl).trans ((ajV43 1 4 rfl).trans ((ajV26 1 4 rfl).trans (ajV9 1 4 rfl))))))))).trans wh).trans (congrArg (fun n9 : Nat => (n9 : Int)) (((keepS.tr (keepS.tr (keepS.tr (keepS.tr (keepS.tr (keepS.rf : keepS gs 0 gs) (keepS.n1 1)) kp32) (keepS.n1 1)) kp76) (keepS.n1 1))).2.1 4 (by decide)).symm)) (fun h9 => by rw [((ajV111 1 2 rfl).trans ((ajV103 1 2 rfl).trans ((ajV86 1 2 rfl).trans ((ajV70 1 2 rfl).trans ((ajV61 1 2 rfl).trans ((ajV43 1 2 rfl).trans ((ajV26 1 2 rfl).trans (ajV9 1 2 rfl))))))))]; exact ow ((congrArg Int32.toInt ((ajV111 1 4 rfl).trans ((ajV103 1 4 rfl).trans ((ajV86 1 4 rfl).trans ((ajV70 1 4 rfl).trans ((ajV61 1 4 rfl).trans ((ajV43 1 4 rfl).trans ((ajV26 1 4 rfl).trans (ajV9 1 4 rfl))))))))).symm.trans h9)) (show 8 - z113.toInt ≤ (dd : Int) from by first | omega | ((try (have i_t84 := Imp.go t84 (by omega))); (try (have i_t41 := Imp.go t41 (by omega))); (try (have i_t7 := Imp.go t7 (by omega))); (try (have i_t7 := Imp.go t7 (by omega))); (try (have i_t41 := Imp.go t41 (by omega))); (try (have i_t84 := Imp.go t84 (by omega))); omega))) w951 w953 w21 w162 w954 rfl xgReader hdV_yX1_readExpression ⟨(by show 10 * dd + 9 + 1 ≤ 10 * dd + 10; omega), (by show 8 + (3 + 11) + (300 * dd + 240) ≤ 300 * dd + 265; omega)⟩ rfl hl.1 rfl (Nat.le_of_ble_eq_true rfl) dX1_readPick_106 ⟨Nat.le_of_ble_eq_true rfl, Nat.le_of_ble_eq_true rfl⟩) hP hD hK hS hA (fun z116 u117 H locs w118 hP hD hK hS => ?_)
                      obtain ⟨V120, L121⟩ := u117
                      obtain ⟨hMV120, ajV120, axL121, rgz116, t119⟩ := w118
                      have alL121 : agL [6, 44] L L121 := agL.tr alL87 axL121 (by decide)
                      have hP : va_P D vwCl (xw ad kk V120 L121 Z) H := hP
                      have hD : va_D A (xw ad kk V120 L121 Z) := hD
                      have hMV120 : rgd bX V120 := hMV120
                      have ajV120 : agr [(1, 3), (1, 6), (1, 8), (6, 8), (6, 9), (6, 10)] [42, 43, 44, 48] V111 V120 := ajV120
                      have agV120 : agr [(1, 3), (1, 6), (1, 8), (6, 8), (6, 9), (6, 10)] [42, 43, 44, 48] V V120 := agV111.tr ajV120 (by decide) (by decide)
                      have rgz116 : 0 ≤ z116.toInt ∧ z116.toInt ≤ 1 := rgz116
                      have t119 : Rd gT (nx sx73 1) (fun k => Iexpr (gd + 1) :: k) (fun k => k) z116.toInt (V120 1 3).toInt (fun s9 => RelC V120 L121 b gT s9 ∧ keepS (nx sx73 1) 1 s9) := t119
                      rcases t119 with ⟨q122, sx123, h124, rl125, kp126⟩ | ⟨q122, h124⟩
                      · skip
                        have hr127 : ∀ k, Rc gT (Crun gs (Itake 40 :: Iexpr (gd + 1) :: Itake 44 :: Iexpr (gd + 1) :: Itake 44 :: Iexpr (gd + 1) :: Itake 41 :: k)) (Crun sx123 (Itake 41 :: k)) := fun k => (hr93 k).tr (h124 (Itake 41 :: k))
                        refine lv_if_eq (tgt := 121) hx hb dX1_readPick_109 (by decide) (fun c128 => ?_) (fun c128 => ?_)
                        · skip
                          have f129 : z116.toInt = 0 := b_eq rfl (by decide) c128
                          exfalso; first | omega | ((try (have i_t84 := Imp.go t84 (by omega))); (try (have i_t41 := Imp.go t41 (by omega))); (try (have i_t7 := Imp.go t7 (by omega))); (try (have i_t7 := Imp.go t7 (by omega))); (try (have i_t41 := Imp.go t41 (by omega))); (try (have i_t84 := Imp.go t84 (by omega))); omega)
                        · skip
                          have f130 : z116.toInt ≠ 0 := b_neq rfl (by decide) c128
                          refine lv_aload_n hx hb dX1_readPick_112 rfl (lv_at hl 2 rfl) ?_
                          refine lv_bipush (v := 41) hx hb dX1_readPick_113 (by decide) ?_
                          have r131 : Int32.toInt 41 = 41 := by decide
                          refine gA_int (gA_runV (As := [.int 41]) (rest := []) (ci := 1) (q0 := 1) hx hb hml hown hg hP hD hK hS hA hnw hgk (x_take2 l D ks H.size ad kk V120 L121 Z 41 ((sx123.1 0)) hMV120 (rl125).1 (rl125).2.1.1 (show 1 ≤ (Int32.toInt 41) from by first | omega | ((try (have i_t84 := Imp.go t84 (by omega))); (try (have i_t41 := Imp.go t41 (by omega))); (try (have i_t7 := Imp.go t7 (by omega))); (try (have i_t7 := Imp.go t7 (by omega))); (try (have i_t41 := Imp.go t41 (by omega))); (try (have i_t84 := Imp.go t84 (by omega))); omega))) w893 w895 w10 w162 w896 rfl xgReader hdV_yX1_take ⟨(by show 1 + 1 ≤ 10 * dd + 10; omega), (by show 8 + (2 + 11) + (21) ≤ 300 * dd + 265; omega)⟩ rfl hl.1 rfl (Nat.le_of_ble_eq_true rfl) dX1_readPick_115 ⟨Nat.le_of_ble_eq_true rfl, Nat.le_of_ble_eq_true rfl⟩) hP hD hK hS hA (fun z132 u133 H locs w134 hP hD hK hS => ?_)
                          obtain ⟨V137, L138⟩ := u133
                          obtain ⟨hMV137, ajV137, axL138, rgz132, t135, t136⟩ := w134
                          have alL138 : agL [6, 44] L L138 := agL.tr alL121 axL138 (by decide)
                          have hP : va_P D vwCl (xw ad kk V137 L138 Z) H := hP
                          have hD : va_D A (xw ad kk V137 L138 Z) := hD
                          have hMV137 : rgd bX V137 := hMV137
                          have ajV137 : agr [(1, 3), (6, 8), (6, 9), (6, 10)] [] V120 V137 := ajV137
                          have agV137 : agr [(1, 3), (1, 6), (1, 8), (6, 8), (6, 9), (6, 10)] [42, 43, 44, 48] V V137 := agV120.tr ajV137 (by decide) (by decide)
                          have rgz132 : 0 ≤ z132.toInt ∧ z132.toInt ≤ 1 := rgz132
                          have t135 : Imp (z132.toInt = 0) (1 ≤ (V137 1 3).toInt) := t135
                          have t136 : (z132.toInt = 1 ∧ (V120 12 (sx123.1 0)).toInt = (Int32.toInt 41) ∧ CUR V137 L138 ((sx123.1 0) + 1) ∧ V137 1 3 = V120 1 3) ∨ (z132.toInt = 0 ∧ (V120 12 (sx123.1 0)).toInt ≠ (Int32.toInt 41) ∧ (V137 1 3).toInt = 1 + 16 * (V120 13 (sx123.1 0)).toInt) := t136
                          rcases t136 with ⟨q139, h140, k141, k142⟩ | ⟨q139, h140, k141⟩
                          · skip
                            have rl143 : RelC V137 L138 b gT (nx sx123 1) := RelC.nx1 rl125 ajV137 (by decide) axL138 (by decide) k141 k142
                            have hr144 : ∀ k, Rc gT (Crun gs (Itake 40 :: Iexpr (gd + 1) :: Itake 44 :: Iexpr (gd + 1) :: Itake 44 :: Iexpr (gd + 1) :: Itake 41 :: k)) (Crun (nx sx123 1) (k)) := fun k => Rc.go1 (hr127 k) (tk_y (rl125.tok.1.trans (h140.trans (by decide))))
                            refine lv_if_ne (tgt := 123) hx hb dX1_readPick_118 (by decide) (fun c145 => ?_) (fun c145 => ?_)
                            · skip
                              have f146 : z132.toInt ≠ 0 := b_neq rfl (by decide) c145
                              refine lv_aload_n hx hb dX1_readPick_123 rfl (lv_at hl 2 rfl) ?_
                              refine va_get (D := D) (ci := 1) (v := rfN ad 38 (V137 1 1)) (fs := (xfReader ad V137 L138 Z)) (C := RX1) (T := TX1) (N := 9) hx hb hg inX1 hown hK hP 1 xgReader rfl 1 (by decide) (hg _ w305) (fun _ h9 => h9) rfl dX1_readPick_124 ?_
                              have pq147 : (V137 1 1).toInt = ((V 1 1)).toInt := congrArg Int32.toInt ((ajV137 1 1 rfl).trans ((ajV120 1 1 rfl).trans ((ajV111 1 1 rfl).trans ((ajV103 1 1 rfl).trans ((ajV86 1 1 rfl).trans ((ajV70 1 1 rfl).trans ((ajV61 1 1 rfl).trans ((ajV43 1 1 rfl).trans ((ajV26 1 1 rfl).trans (ajV9 1 1 rfl))))))))))
                              refine g_topv (v := .ref (ad (38 + b))) (rfN_r (by first | omega | ((try (have i_t135 := Imp.go t135 (by omega))); (try (have i_t84 := Imp.go t84 (by omega))); (try (have i_t41 := Imp.go t41 (by omega))); (try (have i_t7 := Imp.go t7 (by omega))); (try (have i_t7 := Imp.go t7 (by omega))); (try (have i_t41 := Imp.go t41 (by omega))); (try (have i_t84 := Imp.go t84 (by omega))); (try (have i_t135 := Imp.go t135 (by omega))); omega))) ?_
                              refine lv_iload_n hx hb dX1_readPick_127 rfl (lv_at hl 0 rfl) ?_
                              refine lv_aload_n hx hb dX1_readPick_128 rfl (lv_at hl 2 rfl) ?_
                              refine va_get (D := D) (ci := 1) (v := rfN ad 38 (V137 1 1)) (fs := (xfReader ad V137 L138 Z)) (C := RX1) (T := TX1) (N := 9) hx hb hg inX1 hown hK hP 1 xgReader rfl 1 (by decide) (hg _ w305) (fun _ h9 => h9) rfl dX1_readPick_129 ?_
                              refine g_topv (v := .ref (ad (38 + b))) (rfN_r (by first | omega | ((try (have i_t135 := Imp.go t135 (by omega))); (try (have i_t84 := Imp.go t84 (by omega))); (try (have i_t41 := Imp.go t41 (by omega))); (try (have i_t7 := Imp.go t7 (by omega))); (try (have i_t7 := Imp.go t7 (by omega))); (try (have i_t41 := Imp.go t41 (by omega))); (try (have i_t84 := Imp.go t84 (by omega))); (try (have i_t135 := Imp.go t135 (by omega))); omega))) ?_
                              refine va_getN (D := D) (ci := 0) (v := .int (V137 42 b)) (fs := (xfBook ad V137 b)) (C := RX0) (T := TX0) (N := 13) hx hb hg inX0 hown hK hP (38 + b) (xgBook hb2) rfl 12 (by decide) (hnw.use 630 n630 rfl) (fun _ h9 => h9) rfl dX1_readPick_132 ?_
                              refine g_top (v := (V120 42 b)) (ajV137 42 b rfl) ?_
                              have r148 : 0 ≤ ((V120 42 b)).toInt ∧ ((V120 42 b)).toInt ≤ 8200 := hMV120 42 b
                              refine gA_void (gA_runV (As := [.int z98, .int (V120 42 b)]) (rest := []) (ci := 0) (q0 := (38 + b)) hx hb hml hown hg hP hD hK hS hA hnw hgk (x_patch l D ks H.size ad kk V137 L138 Z z98 (V120 42 b) (b) hMV137 (show b < 2 from by first | omega | ((try (have i_t135 := Imp.go t135 (by omega))); (try (have i_t84 := Imp.go t84 (by omega))); (try (have i_t41 := Imp.go t41 (by omega))); (try (have i_t7 := Imp.go t7 (by omega))); (try (have i_t7 := Imp.go t7 (by omega))); (try (have i_t41 := Imp.go t41 (by omega))); (try (have i_t84 := Imp.go t84 (by omega))); (try (have i_t135 := Imp.go t135 (by omega))); omega))) w987 w988 w989 w167 w990 rfl (xgBook hb2) hdV_yX0_patch ⟨(by show 0 + 1 ≤ 10 * dd + 10; omega), (by show 8 + (3 + 11) + (0) ≤ 300 * dd + 265; omega)⟩ rfl hl.1 rfl (Nat.le_of_ble_eq_true rfl) dX1_readPick_135 ⟨Nat.le_of_ble_eq_true rfl, Nat.le_of_ble_eq_true rfl⟩) hP hD hK hS hA (fun u150 H locs w151 hP hD hK hS => ?_)
                              obtain ⟨V153, L154⟩ := u150
                              obtain ⟨hMV153, ajV153, axL154, fyV153, t152⟩ := w151
                              have axL154 : L138 = L154 := Eq.symm axL154
                              subst axL154
                              have hP : va_P D vwCl (xw ad kk V153 L138 Z) H := hP
                              have hD : va_D A (xw ad kk V153 L138 Z) := hD
                              have hMV153 : rgd bX V153 := hMV153
                              have ajV153 : agr [] [48] V137 V153 := ajV153
                              have agV153 : agr [(1, 3), (1, 6), (1, 8), (6, 8), (6, 9), (6, 10)] [42, 43, 44, 48] V V153 := agV137.tr ajV153 (by decide) (by decide)
                              have t152 : (z98.toInt < 0 ∨ 8200 ≤ z98.toInt) ∧ V153 = V137 ∨ (0 ≤ z98.toInt ∧ z98.toInt < 8200 ∧ V153 = up2 V137 48 (8200 * b + Int32.toNatClampNeg z98) (V120 42 b)) := t152
                              refine lv_iconst (v := 1) hx hb dX1_readPick_138 (by decide) ?_
                              have rl155 : RelC V153 L138 b gT (nx sx123 1) := RelC.ag rl143 (show agr [] [48] V137 V153 from (agr.tr agr.rf ajV153 (by decide) (by decide))) (by decide) (show agL [] L138 L138 from agL.rf) (by decide)
                              exact W.zret (v := 1) hx hb hr rfl (fun t ht hW => ⟨⟨1, (V153, L138), rfl, ⟨hMV153, agV153, alL138, (by decide), (Or.inl ⟨rfl, (nx sx123 1), hr144, rl155, keepS.le (keepS.tr (keepS.tr (keepS.tr (keepS.tr (keepS.tr (keepS.tr (keepS.tr (keepS.rf : keepS gs 0 gs) (keepS.n1 1)) kp32) (keepS.n1 1)) kp76) (keepS.n1 1)) kp126) (keepS.n1 1)) (by decide)⟩)⟩, by rw [ht]; exact hP, va_K.moved hW.alike hK, hD⟩, hS.F ht⟩) hS.2.2 dX1_readPick_139
                            · skip
                              have f156 : z132.toInt = 0 := b_eq rfl (by decide) c145
                              exfalso; first | omega | ((try (have i_t135 := Imp.go t135 (by omega))); (try (have i_t84 := Imp.go t84 (by omega))); (try (have i_t41 := Imp.go t41 (by omega))); (try (have i_t7 := Imp.go t7 (by omega))); (try (have i_t7 := Imp.go t7 (by omega))); (try (have i_t41 := Imp.go t41 (by omega))); (try (have i_t84 := Imp.go t84 (by omega))); (try (have i_t135 := Imp.go t135 (by omega))); omega)
                          · skip
                            have hb157 : ∀ k, Rc gT (Crun gs (Itake 40 :: Iexpr (gd + 1) :: Itake 44 :: Iexpr (gd + 1) :: Itake 44 :: Iexpr (gd + 1) :: Itake 41 :: k)) (Cbad (V137 1 3).toInt) := fun k => Rc.go1 (hr127 k) ((tk_n (fun h9 => h140 (rl125.tok.1.symm.trans (h9.trans (by decide))))).trans (fl_eq rl125.tok.2.2 k141))
                            refine lv_if_ne (tgt := 123) hx hb dX1_readPick_118 (by decide) (fun c158 => ?_) (fun c158 => ?_)
                            · skip
                              have f159 : z132.toInt ≠ 0 := b_neq rfl (by decide) c158
                              exfalso; first | omega | ((try (have i_t135 := Imp.go t135 (by omega))); (try (have i_t84 := Imp.go t84 (by omega))); (try (have i_t41 := Imp.go t41 (by omega))); (try (have i_t7 := Imp.go t7 (by omega))); (try (have i_t7 := Imp.go t7 (by omega))); (try (have i_t41 := Imp.go t41 (by omega))); (try (have i_t84 := Imp.go t84 (by omega))); (try (have i_t135 := Imp.go t135 (by omega))); omega)
                            · skip
                              have f160 : z132.toInt = 0 := b_eq rfl (by decide) c158
                              refine lv_iconst (v := 0) hx hb dX1_readPick_121 (by decide) ?_
                              exact W.zret (v := 0) hx hb hr rfl (fun t ht hW => ⟨⟨0, (V137, L138), rfl, ⟨hMV137, agV137, alL138, (by decide), (Or.inr ⟨rfl, hb157⟩)⟩, by rw [ht]; exact hP, va_K.moved hW.alike hK, hD⟩, hS.F ht⟩) hS.2.2 dX1_readPick_122
                      · skip
                        have hb161 : ∀ k, Rc gT (Crun gs (Itake 40 :: Iexpr (gd + 1) :: Itake 44 :: Iexpr (gd + 1) :: Itake 44 :: Iexpr (gd + 1) :: Itake 41 :: k)) (Cbad (V120 1 3).toInt) := fun k => (hr93 k).tr (h124 (Itake 41 :: k))
                        refine lv_if_eq (tgt := 121) hx hb dX1_readPick_109 (by decide) (fun c162 => ?_) (fun c162 => ?_)
                        · skip
                          have f163 : z116.toInt = 0 := b_eq rfl (by decide) c162
                          refine lv_iconst (v := 0) hx hb dX1_readPick_121 (by decide) ?_
                          exact W.zret (v := 0) hx hb hr rfl (fun t ht hW => ⟨⟨0, (V120, L121), rfl, ⟨hMV120, agV120, alL121, (by decide), (Or.inr ⟨rfl, hb161⟩)⟩, by rw [ht]; exact hP, va_K.moved hW.alike hK, hD⟩, hS.F ht⟩) hS.2.2 dX1_readPick_122
                        · skip
                          have f164 : z116.toInt ≠ 0 := b_neq rfl (by decide) c162
                          exfalso; first | omega | ((try (have i_t84 := Imp.go t84 (by omega))); (try (have i_t41 := Imp.go t41 (by omega))); (try (have i_t7 := Imp.go t7 (by omega))); (try (have i_t7 := Imp.go t7 (by omega))); (try (have i_t41 := Imp.go t41 (by omega))); (try (have i_t84 := Imp.go t84 (by omega))); omega)
                    · skip
                      have f165 : z81.toInt = 0 := b_eq rfl (by decide) c94
                      exfalso; first | omega | ((try (have i_t84 := Imp.go t84 (by omega))); (try (have i_t41 := Imp.go t41 (by omega))); (try (have i_t7 := Imp.go t7 (by omega))); (try (have i_t7 := Imp.go t7 (by omega))); (try (have i_t41 := Imp.go t41 (by omega))); (try (have i_t84 := Imp.go t84 (by omega))); omega)
                  · skip
                    have hb166 : ∀ k, Rc gT (Crun gs (Itake 40 :: Iexpr (gd + 1) :: Itake 44 :: Iexpr (gd + 1) :: Itake 44 :: Iexpr (gd + 1) :: Itake 41 :: k)) (Cbad (V86 1 3).toInt) := fun k => Rc.go1 (hr77 k) ((tk_n (fun h9 => h89 (rl75.tok.1.symm.trans (h9.trans (by decide))))).trans (fl_eq rl75.tok.2.2 k90))
                    refine lv_if_ne (tgt := 69) hx hb dX1_readPick_64 (by decide) (fun c167 => ?_) (fun c167 => ?_)
                    · skip
                      have f168 : z81.toInt ≠ 0 := b_neq rfl (by decide) c167
                      exfalso; first | omega | ((try (have i_t84 := Imp.go t84 (by omega))); (try (have i_t41 := Imp.go t41 (by omega))); (try (have i_t7 := Imp.go t7 (by omega))); (try (have i_t7 := Imp.go t7 (by omega))); (try (have i_t41 := Imp.go t41 (by omega))); (try (have i_t84 := Imp.go t84 (by omega))); omega)
                    · skip
                      have f169 : z81.toInt = 0 := b_eq rfl (by decide) c167
                      refine lv_iconst (v := 0) hx hb dX1_readPick_67 (by decide) ?_
                      exact W.zret (v := 0) hx hb hr rfl (fun t ht hW => ⟨⟨0, (V86, L87), rfl, ⟨hMV86, agV86, alL87, (by decide), (Or.inr ⟨rfl, hb166⟩)⟩, by rw [ht]; exact hP, va_K.moved hW.alike hK, hD⟩, hS.F ht⟩) hS.2.2 dX1_readPick_68
              · skip
                have hb170 : ∀ k, Rc gT (Crun gs (Itake 40 :: Iexpr (gd + 1) :: Itake 44 :: Iexpr (gd + 1) :: Itake 44 :: Iexpr (gd + 1) :: Itake 41 :: k)) (Cbad (V70 1 3).toInt) := fun k => (hr50 k).tr (h74 (Itake 44 :: Iexpr (gd + 1) :: Itake 41 :: k))
                refine lv_if_eq (tgt := 67) hx hb dX1_readPick_55 (by decide) (fun c171 => ?_) (fun c171 => ?_)
                · skip
                  have f172 : z66.toInt = 0 := b_eq rfl (by decide) c171
                  refine lv_iconst (v := 0) hx hb dX1_readPick_67 (by decide) ?_
                  exact W.zret (v := 0) hx hb hr rfl (fun t ht hW => ⟨⟨0, (V70, L71), rfl, ⟨hMV70, agV70, alL71, (by decide), (Or.inr ⟨rfl, hb170⟩)⟩, by rw [ht]; exact hP, va_K.moved hW.alike hK, hD⟩, hS.F ht⟩) hS.2.2 dX1_readPick_68
                · skip
                  have f173 : z66.toInt ≠ 0 := b_neq rfl (by decide) c171
                  exfalso; first | omega | ((try (have i_t41 := Imp.go t41 (by omega))); (try (have i_t7 := Imp.go t7 (by omega))); (try (have i_t7 := Imp.go t7 (by omega))); (try (have i_t41 := Imp.go t41 (by omega))); omega)
            · skip
              have f174 : z38.toInt = 0 := b_eq rfl (by decide) c51
              exfalso; first | omega | ((try (have i_t41 := Imp.go t41 (by omega))); (try (have i_t7 := Imp.go t7 (by omega))); (try (have i_t7 := Imp.go t7 (by omega))); (try (have i_t41 := Imp.go t41 (by omega))); omega)
          · skip
            have hb175 : ∀ k, Rc gT (Crun gs (Itake 40 :: Iexpr (gd + 1) :: Itake 44 :: Iexpr (gd + 1) :: Itake 44 :: Iexpr (gd + 1) :: Itake 41 :: k)) (Cbad (V43 1 3).toInt) := fun k => Rc.go1 (hr33 k) ((tk_n (fun h9 => h46 (rl31.tok.1.symm.trans (h9.trans (by decide))))).trans (fl_eq rl31.tok.2.2 k47))
            refine lv_if_ne (tgt := 30) hx hb dX1_readPick_25 (by decide) (fun c176 => ?_) (fun c176 => ?_)
            · skip
              have f177 : z38.toInt ≠ 0 := b_neq rfl (by decide) c176
              exfalso; first | omega | ((try (have i_t41 := Imp.go t41 (by omega))); (try (have i_t7 := Imp.go t7 (by omega))); (try (have i_t7 := Imp.go t7 (by omega))); (try (have i_t41 := Imp.go t41 (by omega))); omega)
            · skip
              have f178 : z38.toInt = 0 := b_eq rfl (by decide) c176
              refine lv_iconst (v := 0) hx hb dX1_readPick_28 (by decide) ?_
              exact W.zret (v := 0) hx hb hr rfl (fun t ht hW => ⟨⟨0, (V43, L44), rfl, ⟨hMV43, agV43, alL44, (by decide), (Or.inr ⟨rfl, hb175⟩)⟩, by rw [ht]; exact hP, va_K.moved hW.alike hK, hD⟩, hS.F ht⟩) hS.2.2 dX1_readPick_29
      · skip
        have hb179 : ∀ k, Rc gT (Crun gs (Itake 40 :: Iexpr (gd + 1) :: Itake 44 :: Iexpr (gd + 1) :: Itake 44 :: Iexpr (gd + 1) :: Itake 41 :: k)) (Cbad (V26 1 3).toInt) := fun k => (hr16 k).tr (h30 (Itake 44 :: Iexpr (gd + 1) :: Itake 44 :: Iexpr (gd + 1) :: Itake 41 :: k))
        refine lv_if_eq (tgt := 28) hx hb dX1_readPick_16 (by decide) (fun c180 => ?_) (fun c180 => ?_)
        · skip
          have f181 : z22.toInt = 0 := b_eq rfl (by decide) c180
          refine lv_iconst (v := 0) hx hb dX1_readPick_28 (by decide) ?_
          exact W.zret (v := 0) hx hb hr rfl (fun t ht hW => ⟨⟨0, (V26, L27), rfl, ⟨hMV26, agV26, alL27, (by decide), (Or.inr ⟨rfl, hb179⟩)⟩, by rw [ht]; exact hP, va_K.moved hW.alike hK, hD⟩, hS.F ht⟩) hS.2.2 dX1_readPick_29
        · skip
          have f182 : z22.toInt ≠ 0 := b_neq rfl (by decide) c180
          exfalso; first | omega | ((try (have i_t7 := Imp.go t7 (by omega))); omega)
  · skip
    have hb183 : ∀ k, Rc gT (Crun gs (Itake 40 :: Iexpr (gd + 1) :: Itake 44 :: Iexpr (gd + 1) :: Itake 44 :: Iexpr (gd + 1) :: Itake 41 :: k)) (Cbad (V9 1 3).toInt) := fun k => Rc.go1 (hr2 k) ((tk_n (fun h9 => h12 (rel.tok.1.symm.trans (h9.trans (by decide))))).trans (fl_eq rel.tok.2.2 k13))
    refine lv_if_eq (tgt := 28) hx hb dX1_readPick_6 (by decide) (fun c184 => ?_) (fun c184 => ?_)
    · skip
      have f185 : z4.toInt = 0 := b_eq rfl (by decide) c184
      refine lv_iconst (v := 0) hx hb dX1_readPick_28 (by decide) ?_
      exact W.zret (v := 0) hx hb hr rfl (fun t ht hW => ⟨⟨0, (V9, L10), rfl, ⟨hMV9, agV9, alL10, (by decide), (Or.inr ⟨rfl, hb183⟩)⟩, by rw [ht]; exact hP, va_K.moved hW.alike hK, hD⟩, hS.F ht⟩) hS.2.2 dX1_readPick_29
    · skip
      have f186 : z4.toInt ≠ 0 := b_neq rfl (by decide) c184
      exfalso; first | omega | ((try (have i_t7 := Imp.go t7 (by omega))); omega)
set_option maxHeartbeats 4000000 in
set_option maxRecDepth 100000 in
theorem x_readOf3 {l : Launch} {D : va_G} {ks : KS} {dd : Nat} (hk_x_readWithin3 : K_x_readWithin3 l D ks dd) : K_x_readOf3 l D ks dd := by
  intro sz ad kk V L Z p0 b gT gs gd hMV rg_p0 hb2 rbk rel yd wh ow y1 owz
  refine g_met (q_x_readOf3 D ks ad kk V L Z p0 b gT gs gd) (by decide) (Nat.le_of_ble_eq_true rfl) ?_
  intro p e s m below meth c A ls H locs hx hb hr hml hown hg hlocks hin hnw hgk hP hK hD hS hA hl
  have hown : s.vm.findClass RX1 = some m.cls := hown
  have hl : lv_has ls 4 [(0, .ref (ad 1)), (1, .int p0)] := hl
  have hP : va_P D vwCl (xw ad kk V L Z) H := hP
  have hD : va_D A (xw ad kk V L Z) := hD
  have hK : va_K D vwCl (xty kk Z) s := hK
  have agV : agr [(1, 3), (1, 6), (1, 8), (6, 8), (6, 9), (6, 10)] [42, 43, 44, 48] V V := agr.rf
  have alL : agL [6, 44] L L := agL.rf
  have rf_p0 := i_full p0
  have r1 : (-1) ≤ ((V 1 1)).toInt ∧ ((V 1 1)).toInt ≤ 1 := hMV 1 1
  have r2 : (-1) ≤ ((V 1 2)).toInt ∧ ((V 1 2)).toInt ≤ 47 := hMV 1 2
  have ko := i_clamp (x := V 1 2) rfl (by omega)
  have ro9 : -1 ≤ (V 1 2).toInt ∧ (V 1 2).toInt ≤ 47 := hMV 1 2
  have ow49 := (rel.2.2.2.2 (by omega)).1
  refine lv_aload_n hx hb dX1_readOf_0 rfl (lv_at hl 0 rfl) ?_
  refine lv_iconst (v := 0) hx hb dX1_readOf_1 (by decide) ?_
  refine lv_aload_n hx hb dX1_readOf_2 rfl (lv_at hl 0 rfl) ?_
  refine va_get (D := D) (ci := 1) (v := rfN ad 72 (V 1 2)) (fs := (xfReader ad V L Z)) (C := RX1) (T := TX1) (N := 9) hx hb hg inX1 hown hK hP 1 xgReader rfl 2 (by decide) (hg _ w306) (fun _ h9 => h9) rfl dX1_readOf_3 ?_
  refine g_topv (v := .ref (ad (72 + (Int32.toNatClampNeg (V 1 2))))) (rfN_r (by omega)) ?_
  refine lv_ifnonnull (tgt := 13) hx hb dX1_readOf_6 (by decide) ?_
  refine lv_aload_n hx hb dX1_readOf_13 rfl (lv_at hl 0 rfl) ?_
  refine va_get (D := D) (ci := 1) (v := rfN ad 72 (V 1 2)) (fs := (xfReader ad V L Z)) (C := RX1) (T := TX1) (N := 9) hx hb hg inX1 hown hK hP 1 xgReader rfl 2 (by decide) (hg _ w306) (fun _ h9 => h9) rfl dX1_readOf_14 ?_
  refine g_topv (v := .ref (ad (72 + (Int32.toNatClampNeg (V 1 2))))) (rfN_r (by omega)) ?_
  have il3 : (Int32.toNatClampNeg (V 1 2)) < 48 := by omega
  refine va_getN (D := D) (ci := 3) (v := .int (V 49 (Int32.toNatClampNeg (V 1 2)))) (fs := (xfComp ad V (Int32.toNatClampNeg (V 1 2)))) (C := RX3) (T := TX3) (N := 13) hx hb hg inX3 hown hK hP (72 + (Int32.toNatClampNeg (V 1 2))) (xgComp il3) rfl 4 (by decide) (hnw.use 513 n513 rfl) (fun _ h9 => h9) rfl dX1_readOf_17 ?_
  have r4 : 0 ≤ ((V 49 (Int32.toNatClampNeg (V 1 2)))).toInt ∧ ((V 49 (Int32.toNatClampNeg (V 1 2)))).toInt ≤ 8 := hMV 49 (Int32.toNatClampNeg (V 1 2))
  refine lv_iconst (v := 1) hx hb dX1_readOf_20 (by decide) ?_
  refine lv_isub hx hb dX1_readOf_21 ?_
  refine lv_topi (fun z5 ez5 => ?_)
  have hz5 : z5.toInt = ((V 49 (Int32.toNatClampNeg (V 1 2)))).toInt - 1 := i_sub ez5 rfl (by decide) (by omega)
  have hr6 : ∀ k, Rc gT (Crun gs (Inum 0 (((gs.1 1 : Nat) : Int) - 1) :: Itake 46 :: Imeth :: Itake 40 :: Iexpr (gd + 1) :: Itake 41 :: k)) (Crun gs (Inum 0 (((gs.1 1 : Nat) : Int) - 1) :: Itake 46 :: Imeth :: Itake 40 :: Iexpr (gd + 1) :: Itake 41 :: k)) := fun k => Rc.rf
  have r7 : Int32.toInt 0 = 0 := by decide
  refine gA_int (gA_runV (As := [.int 0, .int z5]) (rest := []) (ci := 1) (q0 := 1) hx hb hml hown hg hP hD hK hS hA hnw hgk (x_takeNumber2 l D ks H.size ad kk V L Z 0 z5 ((gs.1 0)) hMV (rel).1 (rel).2.1.1 (show 0 ≤ (Int32.toInt 0) from by omega) (show z5.toInt ≤ 999999999 from by omega)) w906 w908 w12 w162 w909 rfl xgReader hdV_yX1_takeNumber ⟨(by show 1 + 1 ≤ 10 * dd + 11; omega), (by show 8 + (3 + 11) + (21) ≤ 300 * dd + 290; omega)⟩ rfl hl.1 rfl (Nat.le_of_ble_eq_true rfl) dX1_readOf_22 ⟨Nat.le_of_ble_eq_true rfl, Nat.le_of_ble_eq_true rfl⟩) hP hD hK hS hA (fun z8 u9 H locs w10 hP hD hK hS => ?_)
  obtain ⟨V14, L15⟩ := u9
  obtain ⟨hMV14, ajV14, axL15, rgz8, t11, t12, t13⟩ := w10
  have alL15 : agL [6, 44] L L15 := agL.tr alL axL15 (by decide)
  have hP : va_P D vwCl (xw ad kk V14 L15 Z) H := hP
  have hD : va_D A (xw ad kk V14 L15 Z) := hD
  have hMV14 : rgd bX V14 := hMV14
  have ajV14 : agr [(1, 3), (1, 8), (6, 8), (6, 9), (6, 10)] [] V V14 := ajV14
  have agV14 : agr [(1, 3), (1, 6), (1, 8), (6, 8), (6, 9), (6, 10)] [42, 43, 44, 48] V V14 := agV.tr ajV14 (by decide) (by decide)
  have rgz8 : 0 ≤ z8.toInt ∧ z8.toInt ≤ 1 := rgz8
  have t11 : Imp (z8.toInt = 1) ((Int32.toInt 0) ≤ (V14 1 8).toInt ∧ (V14 1 8).toInt ≤ z5.toInt) := t11
  have t12 : Imp (z8.toInt = 0) (1 ≤ (V14 1 3).toInt) := t12
  have t13 : (z8.toInt = 1 ∧ (V 12 (gs.1 0)).toInt = 2 ∧ (Int32.toInt 0) ≤ (L 14 (gs.1 0)).toInt ∧ (L 14 (gs.1 0)).toInt ≤ z5.toInt ∧ CUR V14 L15 ((gs.1 0) + 1) ∧ (V14 1 8).toInt = (L 14 (gs.1 0)).toInt ∧ V14 1 3 = V 1 3) ∨ (z8.toInt = 0 ∧ (((V 12 (gs.1 0)).toInt ≠ 2 ∧ (V14 1 3).toInt = 1 + 16 * (V 13 (gs.1 0)).toInt) ∨ ((V 12 (gs.1 0)).toInt = 2 ∧ ((L 14 (gs.1 0)).toInt < (Int32.toInt 0) ∨ z5.toInt < (L 14 (gs.1 0)).toInt) ∧ (V14 1 3).toInt = 4 + 16 * (V 13 (gs.1 0)).toInt))) := t13
  have r16 : 0 ≤ ((V14 1 8)).toInt ∧ ((V14 1 8)).toInt ≤ 999999999 := hMV14 1 8
  have nv24 := congrArg Int64.toInt rel.tok.2.1
  rcases t13 with ⟨q17, h18, h19, h20, k21, k22, k23⟩ | ⟨q17, ⟨h18, k21⟩ | ⟨h18, h19, k21⟩⟩
  · skip
    have rl25 : RelC V14 L15 b gT (nx gs 1) := RelC.nx1 rel ajV14 (by decide) axL15 (by decide) k21 k23
    have hr26 : ∀ k, Rc gT (Crun gs (Inum 0 (((gs.1 1 : Nat) : Int) - 1) :: Itake 46 :: Imeth :: Itake 40 :: Iexpr (gd + 1) :: Itake 41 :: k)) (Crun (nx gs 1) (Itake 46 :: Imeth :: Itake 40 :: Iexpr (gd + 1) :: Itake 41 :: k)) := fun k => Rc.go1 (hr6 k) (nm_y (rel.tok.1.trans h18) (by omega) (by omega))
    refine lv_if_ne (tgt := 30) hx hb dX1_readOf_25 (by decide) (fun c27 => ?_) (fun c27 => ?_)
    · skip
      have f28 : z8.toInt ≠ 0 := b_neq rfl (by decide) c27
      refine lv_aload_n hx hb dX1_readOf_30 rfl (lv_at hl 0 rfl) ?_
      refine va_get (D := D) (ci := 1) (v := .int (V14 1 8)) (fs := (xfReader ad V14 L15 Z)) (C := RX1) (T := TX1) (N := 9) hx hb hg inX1 hown hK hP 1 xgReader rfl 8 (by decide) (hg _ w312) (fun _ h9 => h9) rfl dX1_readOf_31 ?_
      refine lv_istore_n (lv' := [(2, .int (V14 1 8)), (0, .ref (ad 1)), (1, .int p0)]) hx hb dX1_readOf_34 rfl hl (by decide) rfl (fun ls hl => ?_)
      refine lv_aload_n hx hb dX1_readOf_35 rfl (lv_at hl 1 rfl) ?_
      refine lv_bipush (v := 46) hx hb dX1_readOf_36 (by decide) ?_
      have r29 : Int32.toInt 46 = 46 := by decide
      refine gA_int (gA_runV (As := [.int 46]) (rest := []) (ci := 1) (q0 := 1) hx hb hml hown hg hP hD hK hS hA hnw hgk (x_take2 l D ks H.size ad kk V14 L15 Z 46 (((nx gs 1).1 0)) hMV14 (rl25).1 (rl25).2.1.1 (show 1 ≤ (Int32.toInt 46) from by first | omega | ((try (have i_t12 := Imp.go t12 (by omega))); (try (have i_t11 := Imp.go t11 (by omega))); (try (have i_t11 := Imp.go t11 (by omega))); (try (have i_t12 := Imp.go t12 (by omega))); omega))) w893 w895 w10 w162 w896 rfl xgReader hdV_yX1_take ⟨(by show 1 + 1 ≤ 10 * dd + 11; omega), (by show 8 + (2 + 11) + (21) ≤ 300 * dd + 290; omega)⟩ rfl hl.1 rfl (Nat.le_of_ble_eq_true rfl) dX1_readOf_38 ⟨Nat.le_of_ble_eq_true rfl, Nat.le_of_ble_eq_true rfl⟩) hP hD hK hS hA (fun z30 u31 H locs w32 hP hD hK hS => ?_)
      obtain ⟨V35, L36⟩ := u31
      obtain ⟨hMV35, ajV35, axL36, rgz30, t33, t34⟩ := w32
      have alL36 : agL [6, 44] L L36 := agL.tr alL15 axL36 (by decide)
      have hP : va_P D vwCl (xw ad kk V35 L36 Z) H := hP
      have hD : va_D A (xw ad kk V35 L36 Z) := hD
      have hMV35 : rgd bX V35 := hMV35
      have ajV35 : agr [(1, 3), (6, 8), (6, 9), (6, 10)] [] V14 V35 := ajV35
      have agV35 : agr [(1, 3), (1, 6), (1, 8), (6, 8), (6, 9), (6, 10)] [42, 43, 44, 48] V V35 := agV14.tr ajV35 (by decide) (by decide)
      have rgz30 : 0 ≤ z30.toInt ∧ z30.toInt ≤ 1 := rgz30
      have t33 : Imp (z30.toInt = 0) (1 ≤ (V35 1 3).toInt) := t33
      have t34 : (z30.toInt = 1 ∧ (V14 12 ((nx gs 1).1 0)).toInt = (Int32.toInt 46) ∧ CUR V35 L36 (((nx gs 1).1 0) + 1) ∧ V35 1 3 = V14 1 3) ∨ (z30.toInt = 0 ∧ (V14 12 ((nx gs 1).1 0)).toInt ≠ (Int32.toInt 46) ∧ (V35 1 3).toInt = 1 + 16 * (V14 13 ((nx gs 1).1 0)).toInt) := t34
      rcases t34 with ⟨q37, h38, k39, k40⟩ | ⟨q37, h38, k39⟩
      · skip
        have rl41 : RelC V35 L36 b gT (nx (nx gs 1) 1) := RelC.nx1 rl25 ajV35 (by decide) axL36 (by decide) k39 k40
        have hr42 : ∀ k, Rc gT (Crun gs (Inum 0 (((gs.1 1 : Nat) : Int) - 1) :: Itake 46 :: Imeth :: Itake 40 :: Iexpr (gd + 1) :: Itake 41 :: k)) (Crun (nx (nx gs 1) 1) (Imeth :: Itake 40 :: Iexpr (gd + 1) :: Itake 41 :: k)) := fun k => Rc.go1 (hr26 k) (tk_y (rl25.tok.1.trans (h38.trans (by decide))))
        refine lv_if_eq (tgt := 52) hx hb dX1_readOf_41 (by decide) (fun c43 => ?_) (fun c43 => ?_)
        · skip
          have f44 : z30.toInt = 0 := b_eq rfl (by decide) c43
          exfalso; first | omega | ((try (have i_t33 := Imp.go t33 (by omega))); (try (have i_t12 := Imp.go t12 (by omega))); (try (have i_t11 := Imp.go t11 (by omega))); (try (have i_t11 := Imp.go t11 (by omega))); (try (have i_t12 := Imp.go t12 (by omega))); (try (have i_t33 := Imp.go t33 (by omega))); omega)
        · skip
          have f45 : z30.toInt ≠ 0 := b_neq rfl (by decide) c43
          refine lv_aload_n hx hb dX1_readOf_44 rfl (lv_at hl 1 rfl) ?_
          refine lv_null hx hb dX1_readOf_45 ?_
          have pq46 : (V35 1 1).toInt = ((V 1 1)).toInt := congrArg Int32.toInt ((ajV35 1 1 rfl).trans (ajV14 1 1 rfl))
          refine gA_int (gA_runV (As := [.null]) (rest := []) (ci := 1) (q0 := 1) hx hb hml hown hg hP hD hK hS hA hnw hgk (x_takeMethodN3 l D ks H.size ad kk V35 L36 Z (b) (gT) ((nx (nx gs 1) 1)) hMV35 (show b < 2 from by first | omega | ((try (have i_t33 := Imp.go t33 (by omega))); (try (have i_t12 := Imp.go t12 (by omega))); (try (have i_t11 := Imp.go t11 (by omega))); (try (have i_t11 := Imp.go t11 (by omega))); (try (have i_t12 := Imp.go t12 (by omega))); (try (have i_t33 := Imp.go t33 (by omega))); omega)) (show (V35 1 1).toInt = (b : Int) from by first | omega | ((try (have i_t33 := Imp.go t33 (by omega))); (try (have i_t12 := Imp.go t12 (by omega))); (try (have i_t11 := Imp.go t11 (by omega))); (try (have i_t11 := Imp.go t11 (by omega))); (try (have i_t12 := Imp.go t12 (by omega))); (try (have i_t33 := Imp.go t33 (by omega))); omega)) rl41) w939 w941 w19 w162 w942 rfl xgReader hdV_yX1_takeMethod ⟨(by show 2 + 1 ≤ 10 * dd + 11; omega), (by show 8 + (3 + 11) + (44) ≤ 300 * dd + 290; omega)⟩ rfl hl.1 rfl (Nat.le_of_ble_eq_true rfl) dX1_readOf_46 ⟨Nat.le_of_ble_eq_true rfl, Nat.le_of_ble_eq_true rfl⟩) hP hD hK hS hA (fun z47 u48 H locs w49 hP hD hK hS => ?_)
          obtain ⟨V51, L52⟩ := u48
          obtain ⟨hMV51, ajV51, axL52, rgz47, t50⟩ := w49
          have alL52 : agL [6, 44] L L52 := agL.tr alL36 axL52 (by decide)
          have hP : va_P D vwCl (xw ad kk V51 L52 Z) H := hP
          have hD : va_D A (xw ad kk V51 L52 Z) := hD
          have hMV51 : rgd bX V51 := hMV51
          have ajV51 : agr [(1, 3), (1, 6), (6, 8), (6, 9), (6, 10)] [43, 44] V35 V51 := ajV51
          have agV51 : agr [(1, 3), (1, 6), (1, 8), (6, 8), (6, 9), (6, 10)] [42, 43, 44, 48] V V51 := agV35.tr ajV51 (by decide) (by decide)
          have rgz47 : 0 ≤ z47.toInt ∧ z47.toInt ≤ 1 := rgz47
          have t50 : KcS (mthW gT (nx (nx gs 1) 1) 3) z47.toInt (V51 1 3).toInt (fun x9 => RelC V51 L52 b gT x9.2 ∧ (V51 1 6).toInt = ((x9.1 : Nat) : Int) ∧ x9.1 < 20 ∧ keepS (nx (nx gs 1) 1) 1 x9.2) := t50
          rcases t50 with ⟨q53, mx54, h55, rl56, hf57, hb58, kp59⟩ | ⟨q53, h55⟩
          · skip
            have hr60 : ∀ k, Rc gT (Crun gs (Inum 0 (((gs.1 1 : Nat) : Int) - 1) :: Itake 46 :: Imeth :: Itake 40 :: Iexpr (gd + 1) :: Itake 41 :: k)) (Crun mx54.2 (Itake 40 :: Iexpr (gd + 1) :: Itake 41 :: k)) := fun k => Rc.go1 (hr42 k) (me_y h55)
            refine lv_if_ne (tgt := 54) hx hb dX1_readOf_49 (by decide) (fun c61 => ?_) (fun c61 => ?_)
            · skip
              have f62 : z47.toInt ≠ 0 := b_neq rfl (by decide) c61
              refine lv_aload_n hx hb dX1_readOf_54 rfl (lv_at hl 1 rfl) ?_
              refine va_get (D := D) (ci := 1) (v := .int (V51 1 6)) (fs := (xfReader ad V51 L52 Z)) (C := RX1) (T := TX1) (N := 9) hx hb hg inX1 hown hK hP 1 xgReader rfl 6 (by decide) (hg _ w310) (fun _ h9 => h9) rfl dX1_readOf_55 ?_
              have r63 : (-1) ≤ ((V51 1 6)).toInt ∧ ((V51 1 6)).toInt ≤ 23 := hMV51 1 6
              refine lv_istore_n (lv' := [(3, .int (V51 1 6)), (2, .int (V14 1 8)), (0, .ref (ad 1)), (1, .int p0)]) hx hb dX1_readOf_58 rfl hl (by decide) rfl (fun ls hl => ?_)
              refine lv_aload_n hx hb dX1_readOf_59 rfl (lv_at hl 2 rfl) ?_
              refine lv_iload_n hx hb dX1_readOf_60 rfl (lv_at hl 3 rfl) ?_
              have pq64 : (V51 1 1).toInt = ((V 1 1)).toInt := congrArg Int32.toInt ((ajV51 1 1 rfl).trans ((ajV35 1 1 rfl).trans (ajV14 1 1 rfl)))
              refine gA_int (gA_runV (As := [.int p0]) (rest := []) (ci := 1) (q0 := 1) hx hb hml hown hg hP hD hK hS hA hnw hgk (hk_x_readWithin3 H.size ad kk V51 L52 Z p0 (b) (gT) (mx54.2) (gd) hMV51 (by first | omega | ((try (have i_t33 := Imp.go t33 (by omega))); (try (have i_t12 := Imp.go t12 (by omega))); (try (have i_t11 := Imp.go t11 (by omega))); (try (have i_t11 := Imp.go t11 (by omega))); (try (have i_t12 := Imp.go t12 (by omega))); (try (have i_t33 := Imp.go t33 (by omega))); omega)) (show b < 2 from by first | omega | ((try (have i_t33 := Imp.go t33 (by omega))); (try (have i_t12 := Imp.go t12 (by omega))); (try (have i_t11 := Imp.go t11 (by omega))); (try (have i_t11 := Imp.go t11 (by omega))); (try (have i_t12 := Imp.go t12 (by omega))); (try (have i_t33 := Imp.go t33 (by omega))); omega)) (show (V51 1 1).toInt = (b : Int) from by first | omega | ((try (have i_t33 := Imp.go t33 (by omega))); (try (have i_t12 := Imp.go t12 (by omega))); (try (have i_t11 := Imp.go t11 (by omega))); (try (have i_t11 := Imp.go t11 (by omega))); (try (have i_t12 := Imp.go t12 (by omega))); (try (have i_t33 := Imp.go t33 (by omega))); omega)) rl56 (show p0.toInt = (gd : Int) from by first | omega | ((try (have i_t33 := Imp.go t33 (by omega))); (try (have i_t12 := Imp.go t12 (by omega))); (try (have i_t11 := Imp.go t11 (by omega))); (try (have i_t11 := Imp.go t11 (by omega))); (try (have i_t12 := Imp.go t12 (by omega))); (try (have i_t33 := Imp.go t33 (by omega))); omega)) (((congrArg Int32.toInt ((ajV51 1 4 rfl).trans ((ajV35 1 4 rfl).trans (ajV14 1 4 rfl)))).trans wh).trans (congrArg (fun n9 : Nat => (n9 : Int)) (((keepS.tr (keepS.tr (keepS.tr (keepS.rf : keepS gs 0 gs) (keepS.n1 1)) (keepS.n1 1)) kp59)).2.1 4 (by decide)).symm)) (fun h9 => by rw [((ajV51 1 2 rfl).trans ((ajV35 1 2 rfl).trans (ajV14 1 2 rfl)))]; exact ow ((congrArg Int32.toInt ((ajV51 1 4 rfl).trans ((ajV35 1 4 rfl).trans (ajV14 1 4 rfl)))).symm.trans h9)) (show 7 - p0.toInt ≤ (dd : Int) from by first | omega | ((try (have i_t33 := Imp.go t33 (by omega))); (try (have i_t12 := Imp.go t12 (by omega))); (try (have i_t11 := Imp.go t11 (by omega))); (try (have i_t11 := Imp.go t11 (by omega))); (try (have i_t12 := Imp.go t12 (by omega))); (try (have i_t33 := Imp.go t33 (by omega))); omega))) w995 w997 w30 w162 w998 rfl xgReader hdV_yX1_readWithin ⟨(by show 10 * dd + 10 + 1 ≤ 10 * dd + 11; omega), (by show 8 + (2 + 11) + (300 * dd + 265) ≤ 300 * dd + 290; omega)⟩ rfl hl.1 rfl (Nat.le_of_ble_eq_true rfl) dX1_readOf_61 ⟨Nat.le_of_ble_eq_true rfl, Nat.le_of_ble_eq_true rfl⟩) hP hD hK hS hA (fun z65 u66 H locs w67 hP hD hK hS => ?_)
              obtain ⟨V69, L70⟩ := u66
              obtain ⟨hMV69, ajV69, axL70, rgz65, t68⟩ := w67
              have alL70 : agL [6, 44] L L70 := agL.tr alL52 axL70 (by decide)
              have hP : va_P D vwCl (xw ad kk V69 L70 Z) H := hP
              have hD : va_D A (xw ad kk V69 L70 Z) := hD
              have hMV69 : rgd bX V69 := hMV69
              have ajV69 : agr [(1, 3), (1, 6), (1, 8), (6, 8), (6, 9), (6, 10)] [42, 43, 44, 48] V51 V69 := ajV69
              have agV69 : agr [(1, 3), (1, 6), (1, 8), (6, 8), (6, 9), (6, 10)] [42, 43, 44, 48] V V69 := agV51.tr ajV69 (by decide) (by decide)
              have rgz65 : 0 ≤ z65.toInt ∧ z65.toInt ≤ 1 := rgz65
              have t68 : Rd gT (mx54.2) (fun k => Itake 40 :: Iexpr (gd + 1) :: Itake 41 :: k) (fun k => k) z65.toInt (V69 1 3).toInt (fun s9 => RelC V69 L70 b gT s9 ∧ keepS (mx54.2) 1 s9) := t68
              rcases t68 with ⟨q71, sx72, h73, rl74, kp75⟩ | ⟨q71, h73⟩
              · skip
                have hr76 : ∀ k, Rc gT (Crun gs (Inum 0 (((gs.1 1 : Nat) : Int) - 1) :: Itake 46 :: Imeth :: Itake 40 :: Iexpr (gd + 1) :: Itake 41 :: k)) (Crun sx72 (k)) := fun k => (hr60 k).tr (h73 (k))
                refine lv_if_ne (tgt := 69) hx hb dX1_readOf_64 (by decide) (fun c77 => ?_) (fun c77 => ?_)
                · skip
                  have f78 : z65.toInt ≠ 0 := b_neq rfl (by decide) c77
                  refine lv_aload_n hx hb dX1_readOf_69 rfl (lv_at hl 2 rfl) ?_
                  refine lv_bipush (v := 15) hx hb dX1_readOf_70 (by decide) ?_
                  refine lv_iload_n hx hb dX1_readOf_72 rfl (lv_at hl 1 rfl) ?_
                  refine lv_bipush (v := 20) hx hb dX1_readOf_73 (by decide) ?_
                  refine lv_imul hx hb dX1_readOf_75 ?_
                  refine lv_topi (fun z79 ez79 => ?_)
                  refine lv_iload_n hx hb dX1_readOf_76 rfl (lv_at hl 0 rfl) ?_
                  refine lv_iadd hx hb dX1_readOf_77 ?_
                  have r80 := i_full z79
                  refine lv_topi (fun z81 ez81 => ?_)
                  have hz81 : Imp (-2147483648 ≤ z79.toInt + ((V51 1 6)).toInt ∧ z79.toInt + ((V51 1 6)).toInt ≤ 2147483647) (z81.toInt = z79.toInt + ((V51 1 6)).toInt) := Imp.mk (fun hp => i_add ez81 rfl rfl hp)
                  have r82 : Int32.toInt 15 = 15 := by decide
                  have pq83 : (V69 1 1).toInt = ((V 1 1)).toInt := congrArg Int32.toInt ((ajV69 1 1 rfl).trans ((ajV51 1 1 rfl).trans ((ajV35 1 1 rfl).trans (ajV14 1 1 rfl))))
                  refine gA_int (gA_runV (As := [.int 15, .int z81]) (rest := []) (ci := 1) (q0 := 1) hx hb hml hown hg hP hD hK hS hA hnw hgk (x_put3 l D ks H.size ad kk V69 L70 Z 15 z81 (b) hMV69 (show b < 2 from by first | omega | ((try (have i_hz81 := Imp.go hz81 (by omega))); (try (have i_t33 := Imp.go t33 (by omega))); (try (have i_t12 := Imp.go t12 (by omega))); (try (have i_t11 := Imp.go t11 (by omega))); (try (have i_t11 := Imp.go t11 (by omega))); (try (have i_t12 := Imp.go t12 (by omega))); (try (have i_t33 := Imp.go t33 (by omega))); (try (have i_hz81 := Imp.go hz81 (by omega))); omega)) (show (V69 1 1).toInt = (b : Int) from by first | omega | ((try (have i_hz81 := Imp.go hz81 (by omega))); (try (have i_t33 := Imp.go t33 (by omega))); (try (have i_t12 := Imp.go t12 (by omega))); (try (have i_t11 := Imp.go t11 (by omega))); (try (have i_t11 := Imp.go t11 (by omega))); (try (have i_t12 := Imp.go t12 (by omega))); (try (have i_t33 := Imp.go t33 (by omega))); (try (have i_hz81 := Imp.go hz81 (by omega))); omega))) w975 w977 w26 w162 w978 rfl xgReader hdV_yX1_put ⟨(by show 1 + 1 ≤ 10 * dd + 11; omega), (by show 8 + (3 + 11) + (21) ≤ 300 * dd + 290; omega)⟩ rfl hl.1 rfl (Nat.le_of_ble_eq_true rfl) dX1_readOf_78 ⟨Nat.le_of_ble_eq_true rfl, Nat.le_of_ble_eq_true rfl⟩) hP hD hK hS hA (fun z84 u85 H locs w86 hP hD hK hS => ?_)
                  obtain ⟨V87, L88⟩ := u85
                  obtain ⟨hMV87, ajV87, axL88, rgz84⟩ := w86
                  have axL88 : L70 = L88 := Eq.symm axL88
                  subst axL88
                  have hP : va_P D vwCl (xw ad kk V87 L70 Z) H := hP
                  have hD : va_D A (xw ad kk V87 L70 Z) := hD
                  have hMV87 : rgd bX V87 := hMV87
                  have ajV87 : agr [] [42, 48] V69 V87 := ajV87
                  have agV87 : agr [(1, 3), (1, 6), (1, 8), (6, 8), (6, 9), (6, 10)] [42, 43, 44, 48] V V87 := agV69.tr ajV87 (by decide) (by decide)
                  have rgz84 : 1 ≤ z84.toInt ∧ z84.toInt ≤ 1 := rgz84
                  have rl89 : RelC V87 L70 b gT sx72 := RelC.ag rl74 (show agr [] [42, 48] V69 V87 from (agr.tr agr.rf ajV87 (by decide) (by decide))) (by decide) (show agL [] L70 L70 from agL.rf) (by decide)
                  exact W.zret (v := z84) hx hb hr (nb_ok (by omega)) (fun t ht hW => ⟨⟨z84, (V87, L70), rfl, ⟨hMV87, agV87, alL70, (show 0 ≤ z84.toInt ∧ z84.toInt ≤ 1 from by first | omega | ((try (have i_hz81 := Imp.go hz81 (by omega))); (try (have i_t33 := Imp.go t33 (by omega))); (try (have i_t12 := Imp.go t12 (by omega))); (try (have i_t11 := Imp.go t11 (by omega))); (try (have i_t11 := Imp.go t11 (by omega))); (try (have i_t12 := Imp.go t12 (by omega))); (try (have i_t33 := Imp.go t33 (by omega))); (try (have i_hz81 := Imp.go hz81 (by omega))); omega)), (Or.inl ⟨(by omega), sx72, hr76, rl89, keepS.le (keepS.tr (keepS.tr (keepS.tr (keepS.tr (keepS.rf : keepS gs 0 gs) (keepS.n1 1)) (keepS.n1 1)) kp59) kp75) (by decide)⟩)⟩, by rw [ht]; exact hP, va_K.moved hW.alike hK, hD⟩, hS.F ht⟩) hS.2.2 dX1_readOf_81
                · skip
                  have f90 : z65.toInt = 0 := b_eq rfl (by decide) c77
                  exfalso; first | omega | ((try (have i_t33 := Imp.go t33 (by omega))); (try (have i_t12 := Imp.go t12 (by omega))); (try (have i_t11 := Imp.go t11 (by omega))); (try (have i_t11 := Imp.go t11 (by omega))); (try (have i_t12 := Imp.go t12 (by omega))); (try (have i_t33 := Imp.go t33 (by omega))); omega)
              · skip
                have hb91 : ∀ k, Rc gT (Crun gs (Inum 0 (((gs.1 1 : Nat) : Int) - 1) :: Itake 46 :: Imeth :: Itake 40 :: Iexpr (gd + 1) :: Itake 41 :: k)) (Cbad (V69 1 3).toInt) := fun k => (hr60 k).tr (h73 (k))
                refine lv_if_ne (tgt := 69) hx hb dX1_readOf_64 (by decide) (fun c92 => ?_) (fun c92 => ?_)
                · skip
                  have f93 : z65.toInt ≠ 0 := b_neq rfl (by decide) c92
                  exfalso; first | omega | ((try (have i_t33 := Imp.go t33 (by omega))); (try (have i_t12 := Imp.go t12 (by omega))); (try (have i_t11 := Imp.go t11 (by omega))); (try (have i_t11 := Imp.go t11 (by omega))); (try (have i_t12 := Imp.go t12 (by omega))); (try (have i_t33 := Imp.go t33 (by omega))); omega)
                · skip
                  have f94 : z65.toInt = 0 := b_eq rfl (by decide) c92
                  refine lv_iconst (v := 0) hx hb dX1_readOf_67 (by decide) ?_
                  exact W.zret (v := 0) hx hb hr rfl (fun t ht hW => ⟨⟨0, (V69, L70), rfl, ⟨hMV69, agV69, alL70, (by decide), (Or.inr ⟨rfl, hb91⟩)⟩, by rw [ht]; exact hP, va_K.moved hW.alike hK, hD⟩, hS.F ht⟩) hS.2.2 dX1_readOf_68
            · skip
              have f95 : z47.toInt = 0 := b_eq rfl (by decide) c61
              exfalso; first | omega | ((try (have i_t33 := Imp.go t33 (by omega))); (try (have i_t12 := Imp.go t12 (by omega))); (try (have i_t11 := Imp.go t11 (by omega))); (try (have i_t11 := Imp.go t11 (by omega))); (try (have i_t12 := Imp.go t12 (by omega))); (try (have i_t33 := Imp.go t33 (by omega))); omega)
          · skip
            have hb96 : ∀ k, Rc gT (Crun gs (Inum 0 (((gs.1 1 : Nat) : Int) - 1) :: Itake 46 :: Imeth :: Itake 40 :: Iexpr (gd + 1) :: Itake 41 :: k)) (Cbad (V51 1 3).toInt) := fun k => Rc.go1 (hr42 k) (me_b h55)
            refine lv_if_ne (tgt := 54) hx hb dX1_readOf_49 (by decide) (fun c97 => ?_) (fun c97 => ?_)
            · skip
              have f98 : z47.toInt ≠ 0 := b_neq rfl (by decide) c97
              exfalso; first | omega | ((try (have i_t33 := Imp.go t33 (by omega))); (try (have i_t12 := Imp.go t12 (by omega))); (try (have i_t11 := Imp.go t11 (by omega))); (try (have i_t11 := Imp.go t11 (by omega))); (try (have i_t12 := Imp.go t12 (by omega))); (try (have i_t33 := Imp.go t33 (by omega))); omega)
            · skip
              have f99 : z47.toInt = 0 := b_eq rfl (by decide) c97
              refine lv_iconst (v := 0) hx hb dX1_readOf_52 (by decide) ?_
              exact W.zret (v := 0) hx hb hr rfl (fun t ht hW => ⟨⟨0, (V51, L52), rfl, ⟨hMV51, agV51, alL52, (by decide), (Or.inr ⟨rfl, hb96⟩)⟩, by rw [ht]; exact hP, va_K.moved hW.alike hK, hD⟩, hS.F ht⟩) hS.2.2 dX1_readOf_53
      · skip
        have hb100 : ∀ k, Rc gT (Crun gs (Inum 0 (((gs.1 1 : Nat) : Int) - 1) :: Itake 46 :: Imeth :: Itake 40 :: Iexpr (gd + 1) :: Itake 41 :: k)) (Cbad (V35 1 3).toInt) := fun k => Rc.go1 (hr26 k) ((tk_n (fun h9 => h38 (rl25.tok.1.symm.trans (h9.trans (by decide))))).trans (fl_eq rl25.tok.2.2 k39))
        refine lv_if_eq (tgt := 52) hx hb dX1_readOf_41 (by decide) (fun c101 => ?_) (fun c101 => ?_)
        · skip
          have f102 : z30.toInt = 0 := b_eq rfl (by decide) c101
          refine lv_iconst (v := 0) hx hb dX1_readOf_52 (by decide) ?_
          exact W.zret (v := 0) hx hb hr rfl (fun t ht hW => ⟨⟨0, (V35, L36), rfl, ⟨hMV35, agV35, alL36, (by decide), (Or.inr ⟨rfl, hb100⟩)⟩, by rw [ht]; exact hP, va_K.moved hW.alike hK, hD⟩, hS.F ht⟩) hS.2.2 dX1_readOf_53
        · skip
          have f103 : z30.toInt ≠ 0 := b_neq rfl (by decide) c101
          exfalso; first | omega | ((try (have i_t33 := Imp.go t33 (by omega))); (try (have i_t12 := Imp.go t12 (by omega))); (try (have i_t11 := Imp.go t11 (by omega))); (try (have i_t11 := Imp.go t11 (by omega))); (try (have i_t12 := Imp.go t12 (by omega))); (try (have i_t33 := Imp.go t33 (by omega))); omega)
    · skip
      have f104 : z8.toInt = 0 := b_eq rfl (by decide) c27
      exfalso; first | omega | ((try (have i_t12 := Imp.go t12 (by omega))); (try (have i_t11 := Imp.go t11 (by omega))); (try (have i_t11 := Imp.go t11 (by omega))); (try (have i_t12 := Imp.go t12 (by omega))); omega)
  · skip
    have hb105 : ∀ k, Rc gT (Crun gs (Inum 0 (((gs.1 1 : Nat) : Int) - 1) :: Itake 46 :: Imeth :: Itake 40 :: Iexpr (gd + 1) :: Itake 41 :: k)) (Cbad (V14 1 3).toInt) := fun k => Rc.go1 (hr6 k) ((nm_1 (fun h9 => h18 (rel.tok.1.symm.trans h9))).trans (fl_eq rel.tok.2.2 k21))
    refine lv_if_ne (tgt := 30) hx hb dX1_readOf_25 (by decide) (fun c106 => ?_) (fun c106 => ?_)
    · skip
      have f107 : z8.toInt ≠ 0 := b_neq rfl (by decide) c106
      exfalso; first | omega | ((try (have i_t12 := Imp.go t12 (by omega))); (try (have i_t11 := Imp.go t11 (by omega))); (try (have i_t11 := Imp.go t11 (by omega))); (try (have i_t12 := Imp.go t12 (by omega))); omega)
    · skip
      have f108 : z8.toInt = 0 := b_eq rfl (by decide) c106
      refine lv_iconst (v := 0) hx hb dX1_readOf_28 (by decide) ?_
      exact W.zret (v := 0) hx hb hr rfl (fun t ht hW => ⟨⟨0, (V14, L15), rfl, ⟨hMV14, agV14, alL15, (by decide), (Or.inr ⟨rfl, hb105⟩)⟩, by rw [ht]; exact hP, va_K.moved hW.alike hK, hD⟩, hS.F ht⟩) hS.2.2 dX1_readOf_29
  · skip
    have hb109 : ∀ k, Rc gT (Crun gs (Inum 0 (((gs.1 1 : Nat) : Int) - 1) :: Itake 46 :: Imeth :: Itake 40 :: Iexpr (gd + 1) :: Itake 41 :: k)) (Cbad (V14 1 3).toInt) := fun k => Rc.go1 (hr6 k) ((nm_4 (rel.tok.1.trans h18) (by omega)).trans (fl_eq rel.tok.2.2 k21))
    refine lv_if_ne (tgt := 30) hx hb dX1_readOf_25 (by decide) (fun c110 => ?_) (fun c110 => ?_)
    · skip
      have f111 : z8.toInt ≠ 0 := b_neq rfl (by decide) c110
      exfalso; first | omega | ((try (have i_t12 := Imp.go t12 (by omega))); (try (have i_t11 := Imp.go t11 (by omega))); (try (have i_t11 := Imp.go t11 (by omega))); (try (have i_t12 := Imp.go t12 (by omega))); omega)
    · skip
      have f112 : z8.toInt = 0 := b_eq rfl (by decide) c110
      refine lv_iconst (v := 0) hx hb dX1_readOf_28 (by decide) ?_
      exact W.zret (v := 0) hx hb hr rfl (fun t ht hW => ⟨⟨0, (V14, L15), rfl, ⟨hMV14, agV14, alL15, (by decide), (Or.inr ⟨rfl, hb109⟩)⟩, by rw [ht]; exact hP, va_K.moved hW.alike hK, hD⟩, hS.F ht⟩) hS.2.2 dX1_readOf_29
theorem K_xpart3 {l : Launch} {D : va_G} {ks : KS} : ∀ dd, K_x_readPart3 l D ks dd
  | 0 => x_readPart3 (fun d9 h => absurd h (by omega)) (fun d9 h => absurd h (by omega)) (fun d9 h => absurd h (by omega)) (fun d9 h => absurd h (by omega)) (fun d9 h => absurd h (by omega))
  | d + 1 => by
    have k1 := K_xpart3 (l := l) (D := D) (ks := ks) d
    have k4 := x_readExpression3 (x_readSum3 (x_readProduct3 k1))
    have kw := x_readWithin3 k4
    refine x_readPart3 (fun d9 h => ?_) (fun d9 h => ?_) (fun d9 h => ?_) (fun d9 h => ?_) (fun d9 h => ?_)
    all_goals (have e : d9 = d := by omega)
    all_goals subst e
    · exact k4
    · exact k1
    · exact x_readPick3 k4
    · exact x_readOf3 kw
    · exact kw
theorem K_xexpr3 {l : Launch} {D : va_G} {ks : KS} (dd : Nat) : K_x_readExpression3 l D ks dd := x_readExpression3 (x_readSum3 (x_readProduct3 (K_xpart3 dd)))
