theorem w1756 : Cond.fieldLink RX12 377 "WiringHouseModel" "deep" "I" ∈ GW := gw_k tk9_7 161 (by decide +kernel) rfl
theorem w2135 : Cond.code yX12_isPart cX12_isPart 1 (some .boolean) ∈ GW := gw_k tk9_9 60 (rfl) rfl
theorem w2132 : Cond.methodLink RX12 396 yX12_isPart ∈ GW := gw_k tk9_9 57 (by decide +kernel) rfl
theorem w2134 : Cond.instanceMethod yX12_isPart ∈ GW := gw_k tk9_9 59 (by decide +kernel) rfl
theorem w110 : Cond.selects RX12 yX12_isPart yX12_isPart ∈ GW := gw_mem 110 (by decide +kernel) rfl
theorem hdV_yX12_isPart : yX12_isPart.cls = RX12 ∧ yX12_isPart.cls ≠ "java/lang/invoke/MethodHandle" ∧ yX12_isPart.cls ≠ "java/lang/invoke/VarHandle" ∧ (parseMethodDescriptor yX12_isPart.desc).map (fun d => d.parameters.length) = some 0 := by decide +kernel
theorem w2143 : Cond.code yX12_partWithin cX12_partWithin 4 none ∈ GW := gw_k tk9_9 68 (rfl) rfl
theorem w2140 : Cond.methodLink RX12 399 yX12_partWithin ∈ GW := gw_k tk9_9 65 (by decide +kernel) rfl
theorem w2142 : Cond.instanceMethod yX12_partWithin ∈ GW := gw_k tk9_9 67 (by decide +kernel) rfl
theorem w112 : Cond.selects RX12 yX12_partWithin yX12_partWithin ∈ GW := gw_mem 112 (by decide +kernel) rfl
theorem hdV_yX12_partWithin : yX12_partWithin.cls = RX12 ∧ yX12_partWithin.cls ≠ "java/lang/invoke/MethodHandle" ∧ yX12_partWithin.cls ≠ "java/lang/invoke/VarHandle" ∧ (parseMethodDescriptor yX12_partWithin.desc).map (fun d => d.parameters.length) = some 0 := by decide +kernel
theorem dk9_dX12_part_0_0 : dOk cX12_part [(0, .aload_n 0, 1), (1, .getfield 267, 3), (4, .ifCond .ne 18, 3), (22, .aload_n 0, 1), (23, .getfield 267, 3), (26, .ifCond .ne 17, 3), (43, .aload_n 0, 1), (44, .dup, 1), (45, .getfield 377, 3), (48, .iconst 1, 1), (49, .iadd, 1), (50, .putfield 377, 3), (53, .aload_n 0, 1), (54, .getfield 267, 3), (57, .ifCond .ne 15, 3), (72, .aload_n 0, 1), (73, .dup, 1), (74, .getfield 377, 3), (77, .iconst 1, 1), (78, .isub, 1), (79, .putfield 377, 3), (82, .return_, 1), (7, .aload_n 0, 1), (8, .invokevirtual 396, 3)] = true ∧ dOk cX12_part [(11, .ifCond .ne 11, 3), (29, .aload_n 0, 1), (30, .getfield 377, 3), (33, .bipush 8, 2), (35, .if_icmp .ne 8, 3), (60, .aload_n 0, 1), (61, .iconst 1, 1), (62, .iconst 0, 1), (63, .iconst 0, 1), (64, .invokevirtual 383, 3), (67, .istore_n 1, 1), (68, .aload_n 0, 1), (69, .invokevirtual 399, 3), (38, .aload_n 0, 1), (39, .iconst 5, 1), (40, .invokevirtual 273, 3), (14, .aload_n 0, 1), (15, .iconst 1, 1), (16, .invokevirtual 273, 3), (19, .goto 24, 3)] = true := by decide +kernel
theorem dX12_part_0 : decode cX12_part 0 = .ok (.aload_n 0, 1) := dr9 dk9_dX12_part_0_0.1 0 (0, .aload_n 0, 1) rfl
theorem dX12_part_1 : decode cX12_part 1 = .ok (.getfield 267, 3) := dr9 dk9_dX12_part_0_0.1 1 (1, .getfield 267, 3) rfl
theorem dX12_part_4 : decode cX12_part 4 = .ok (.ifCond .ne 18, 3) := dr9 dk9_dX12_part_0_0.1 2 (4, .ifCond .ne 18, 3) rfl
theorem dX12_part_22 : decode cX12_part 22 = .ok (.aload_n 0, 1) := dr9 dk9_dX12_part_0_0.1 3 (22, .aload_n 0, 1) rfl
theorem dX12_part_23 : decode cX12_part 23 = .ok (.getfield 267, 3) := dr9 dk9_dX12_part_0_0.1 4 (23, .getfield 267, 3) rfl
theorem dX12_part_26 : decode cX12_part 26 = .ok (.ifCond .ne 17, 3) := dr9 dk9_dX12_part_0_0.1 5 (26, .ifCond .ne 17, 3) rfl
theorem dX12_part_43 : decode cX12_part 43 = .ok (.aload_n 0, 1) := dr9 dk9_dX12_part_0_0.1 6 (43, .aload_n 0, 1) rfl
theorem dX12_part_44 : decode cX12_part 44 = .ok (.dup, 1) := dr9 dk9_dX12_part_0_0.1 7 (44, .dup, 1) rfl
theorem dX12_part_45 : decode cX12_part 45 = .ok (.getfield 377, 3) := dr9 dk9_dX12_part_0_0.1 8 (45, .getfield 377, 3) rfl
theorem dX12_part_48 : decode cX12_part 48 = .ok (.iconst 1, 1) := dr9 dk9_dX12_part_0_0.1 9 (48, .iconst 1, 1) rfl
theorem dX12_part_49 : decode cX12_part 49 = .ok (.iadd, 1) := dr9 dk9_dX12_part_0_0.1 10 (49, .iadd, 1) rfl
theorem dX12_part_50 : decode cX12_part 50 = .ok (.putfield 377, 3) := dr9 dk9_dX12_part_0_0.1 11 (50, .putfield 377, 3) rfl
theorem dX12_part_53 : decode cX12_part 53 = .ok (.aload_n 0, 1) := dr9 dk9_dX12_part_0_0.1 12 (53, .aload_n 0, 1) rfl
theorem dX12_part_54 : decode cX12_part 54 = .ok (.getfield 267, 3) := dr9 dk9_dX12_part_0_0.1 13 (54, .getfield 267, 3) rfl
theorem dX12_part_57 : decode cX12_part 57 = .ok (.ifCond .ne 15, 3) := dr9 dk9_dX12_part_0_0.1 14 (57, .ifCond .ne 15, 3) rfl
theorem dX12_part_72 : decode cX12_part 72 = .ok (.aload_n 0, 1) := dr9 dk9_dX12_part_0_0.1 15 (72, .aload_n 0, 1) rfl
theorem dX12_part_73 : decode cX12_part 73 = .ok (.dup, 1) := dr9 dk9_dX12_part_0_0.1 16 (73, .dup, 1) rfl
theorem dX12_part_74 : decode cX12_part 74 = .ok (.getfield 377, 3) := dr9 dk9_dX12_part_0_0.1 17 (74, .getfield 377, 3) rfl
theorem dX12_part_77 : decode cX12_part 77 = .ok (.iconst 1, 1) := dr9 dk9_dX12_part_0_0.1 18 (77, .iconst 1, 1) rfl
theorem dX12_part_78 : decode cX12_part 78 = .ok (.isub, 1) := dr9 dk9_dX12_part_0_0.1 19 (78, .isub, 1) rfl
theorem dX12_part_79 : decode cX12_part 79 = .ok (.putfield 377, 3) := dr9 dk9_dX12_part_0_0.1 20 (79, .putfield 377, 3) rfl
theorem dX12_part_82 : decode cX12_part 82 = .ok (.return_, 1) := dr9 dk9_dX12_part_0_0.1 21 (82, .return_, 1) rfl
theorem dX12_part_7 : decode cX12_part 7 = .ok (.aload_n 0, 1) := dr9 dk9_dX12_part_0_0.1 22 (7, .aload_n 0, 1) rfl
theorem dX12_part_8 : decode cX12_part 8 = .ok (.invokevirtual 396, 3) := dr9 dk9_dX12_part_0_0.1 23 (8, .invokevirtual 396, 3) rfl
theorem dX12_part_11 : decode cX12_part 11 = .ok (.ifCond .ne 11, 3) := dr9 dk9_dX12_part_0_0.2 0 (11, .ifCond .ne 11, 3) rfl
theorem dX12_part_29 : decode cX12_part 29 = .ok (.aload_n 0, 1) := dr9 dk9_dX12_part_0_0.2 1 (29, .aload_n 0, 1) rfl
theorem dX12_part_30 : decode cX12_part 30 = .ok (.getfield 377, 3) := dr9 dk9_dX12_part_0_0.2 2 (30, .getfield 377, 3) rfl
theorem dX12_part_33 : decode cX12_part 33 = .ok (.bipush 8, 2) := dr9 dk9_dX12_part_0_0.2 3 (33, .bipush 8, 2) rfl
theorem dX12_part_35 : decode cX12_part 35 = .ok (.if_icmp .ne 8, 3) := dr9 dk9_dX12_part_0_0.2 4 (35, .if_icmp .ne 8, 3) rfl
theorem dX12_part_60 : decode cX12_part 60 = .ok (.aload_n 0, 1) := dr9 dk9_dX12_part_0_0.2 5 (60, .aload_n 0, 1) rfl
theorem dX12_part_61 : decode cX12_part 61 = .ok (.iconst 1, 1) := dr9 dk9_dX12_part_0_0.2 6 (61, .iconst 1, 1) rfl
theorem dX12_part_62 : decode cX12_part 62 = .ok (.iconst 0, 1) := dr9 dk9_dX12_part_0_0.2 7 (62, .iconst 0, 1) rfl
theorem dX12_part_63 : decode cX12_part 63 = .ok (.iconst 0, 1) := dr9 dk9_dX12_part_0_0.2 8 (63, .iconst 0, 1) rfl
theorem dX12_part_64 : decode cX12_part 64 = .ok (.invokevirtual 383, 3) := dr9 dk9_dX12_part_0_0.2 9 (64, .invokevirtual 383, 3) rfl
theorem dX12_part_67 : decode cX12_part 67 = .ok (.istore_n 1, 1) := dr9 dk9_dX12_part_0_0.2 10 (67, .istore_n 1, 1) rfl
theorem dX12_part_68 : decode cX12_part 68 = .ok (.aload_n 0, 1) := dr9 dk9_dX12_part_0_0.2 11 (68, .aload_n 0, 1) rfl
theorem dX12_part_69 : decode cX12_part 69 = .ok (.invokevirtual 399, 3) := dr9 dk9_dX12_part_0_0.2 12 (69, .invokevirtual 399, 3) rfl
theorem dX12_part_38 : decode cX12_part 38 = .ok (.aload_n 0, 1) := dr9 dk9_dX12_part_0_0.2 13 (38, .aload_n 0, 1) rfl
theorem dX12_part_39 : decode cX12_part 39 = .ok (.iconst 5, 1) := dr9 dk9_dX12_part_0_0.2 14 (39, .iconst 5, 1) rfl
theorem dX12_part_40 : decode cX12_part 40 = .ok (.invokevirtual 273, 3) := dr9 dk9_dX12_part_0_0.2 15 (40, .invokevirtual 273, 3) rfl
theorem dX12_part_14 : decode cX12_part 14 = .ok (.aload_n 0, 1) := dr9 dk9_dX12_part_0_0.2 16 (14, .aload_n 0, 1) rfl
theorem dX12_part_15 : decode cX12_part 15 = .ok (.iconst 1, 1) := dr9 dk9_dX12_part_0_0.2 17 (15, .iconst 1, 1) rfl
theorem dX12_part_16 : decode cX12_part 16 = .ok (.invokevirtual 273, 3) := dr9 dk9_dX12_part_0_0.2 18 (16, .invokevirtual 273, 3) rfl
theorem dX12_part_19 : decode cX12_part 19 = .ok (.goto 24, 3) := dr9 dk9_dX12_part_0_0.2 19 (19, .goto 24, 3) rfl
set_option maxHeartbeats 4000000 in
set_option maxRecDepth 100000 in
theorem s_part {l : Launch} {D : va_G} {ks : KS} {dd : Nat} (hk_s_partWithin : ∀ d9, dd = d9 + 1 → K_s_partWithin l D ks d9) : K_s_part l D ks dd := by
  intro sz ad kk V L  n xx nd ar hh hMV x1 x2 x3 c1 c2 c3 c4 cw c9
  refine g_met (q_s_part D ks ad kk V L  n xx nd ar hh) (by decide) (Nat.le_of_ble_eq_true rfl) ?_
  intro p e s m below meth c A ls H locs hx hb hr hml hown hg hlocks hin hnw hgk hP hK hD hS hA hl
  have hown : s.vm.findClass RX12 = some m.cls := hown
  have hl : lv_has ls 2 [(0, .ref (ad 0))] := hl
  have hP : va_P D vwCl (mw ad kk ks.1 V L) H := hP
  have hD : va_D A (mw ad kk ks.1 V L) := hD
  have hK : va_K D vwCl (mty kk) s := hK
  have agV : agr [(0, 7), (0, 8), (0, 48), (0, 50)] [35, 36, 37, 38, 45, 46, 47] V V := agr.rf
  have alL : agL [35, 36, 37, 38, 45, 46, 47] L L := agL.rf
  have r1 : 0 ≤ ((V 0 8)).toInt ∧ ((V 0 8)).toInt ≤ 70000 := hMV 0 8
  have r2 : 0 ≤ ((V 0 48)).toInt ∧ ((V 0 48)).toInt ≤ 10000 := hMV 0 48
  have r3 : 0 ≤ ((V 0 50)).toInt ∧ ((V 0 50)).toInt ≤ 9 := hMV 0 50
  refine lv_aload_n hx hb dX12_part_0 rfl (lv_at hl 0 rfl) ?_
  refine va_get (D := D) (ci := 12) (v := .int (V 0 8)) (C := RX12) (T := TX12) (N := 100) hx hb hg inX12 hown hK hP 0 rfl rfl 8 (by decide) (hg _ w1714) (fun _ h9 => h9) rfl dX12_part_1 ?_
  refine lv_if_ne (tgt := 22) hx hb dX12_part_4 (by decide) (fun c4 => ?_) (fun c4 => ?_)
  · skip
    have f5 : ((V 0 8)).toInt ≠ 0 := b_neq rfl (by decide) c4
    refine lv_aload_n hx hb dX12_part_22 rfl (lv_at hl 0 rfl) ?_
    refine va_get (D := D) (ci := 12) (v := .int (V 0 8)) (C := RX12) (T := TX12) (N := 100) hx hb hg inX12 hown hK hP 0 rfl rfl 8 (by decide) (hg _ w1714) (fun _ h9 => h9) rfl dX12_part_23 ?_
    refine lv_if_ne (tgt := 43) hx hb dX12_part_26 (by decide) (fun c6 => ?_) (fun c6 => ?_)
    · skip
      have f7 : ((V 0 8)).toInt ≠ 0 := b_neq rfl (by decide) c6
      refine lv_aload_n hx hb dX12_part_43 rfl (lv_at hl 0 rfl) ?_
      refine lv_dup hx hb dX12_part_44 rfl ?_
      refine va_get (D := D) (ci := 12) (v := .int (V 0 50)) (C := RX12) (T := TX12) (N := 100) hx hb hg inX12 hown hK hP 0 rfl rfl 50 (by decide) (hg _ w1756) (fun _ h9 => h9) rfl dX12_part_45 ?_
      refine lv_iconst (v := 1) hx hb dX12_part_48 (by decide) ?_
      refine lv_iadd hx hb dX12_part_49 ?_
      refine lv_topi (fun z8 ez8 => ?_)
      have hz8 : z8.toInt = ((V 0 50)).toInt + 1 := i_add ez8 rfl (by decide) (by omega)
      refine va_put (D := D) (ci := 12) (v := .int z8) (ty := tyX12 50) (C := RX12) (T := TX12) (N := 100) hx hb hg inX12 tyX12 tyX12_ok nmX12 hown hK hP hD hS 0 rfl rfl 50 (by decide) (hg _ w1756) (fun _ h9 => h9) rfl (tyX12_ok 50 (by decide)) rfl rfl (Nat.le_of_ble_eq_true rfl) dX12_part_50 (fun H locs hP hD hS => ?_)
      obtain ⟨V9, hV9⟩ : ∃ z, z = up2 V 0 50 z8 := ⟨_, rfl⟩
      have hP : va_P D vwCl (mw ad kk ks.1 V9 L) H := by rw [hV9]; exact hP
      have hD : va_D A (mw ad kk ks.1 V9 L) := by rw [hV9]; exact hD
      have hMV9 : rgd bM V9 := hMV.put hV9 (show 0 ≤ z8.toInt ∧ z8.toInt ≤ 9 from by first | omega | ((try (have i_cw := Imp.go cw (by omega))); (try (have i_c1 := Imp.go c1 (by omega))); (try (have i_x3 := Imp.go x3 (by omega))); (try (have i_x3 := Imp.go x3 (by omega))); (try (have i_c1 := Imp.go c1 (by omega))); (try (have i_cw := Imp.go cw (by omega))); omega))
      have agV9 : agr [(0, 7), (0, 8), (0, 48), (0, 50)] [35, 36, 37, 38, 45, 46, 47] V V9 := agV.up hV9 rfl
      refine lv_aload_n hx hb dX12_part_53 rfl (lv_at hl 0 rfl) ?_
      refine va_get (D := D) (ci := 12) (v := .int (V9 0 8)) (C := RX12) (T := TX12) (N := 100) hx hb hg inX12 hown hK hP 0 rfl rfl 8 (by decide) (hg _ w1714) (fun _ h9 => h9) rfl dX12_part_54 ?_
      refine g_top (v := (V 0 8)) (up2_k hV9 (by decide)) ?_
      refine lv_if_ne (tgt := 72) hx hb dX12_part_57 (by decide) (fun c10 => ?_) (fun c10 => ?_)
      · skip
        have f11 : ((V 0 8)).toInt ≠ 0 := b_neq rfl (by decide) c10
        refine lv_aload_n hx hb dX12_part_72 rfl (lv_at hl 0 rfl) ?_
        refine lv_dup hx hb dX12_part_73 rfl ?_
        refine va_get (D := D) (ci := 12) (v := .int (V9 0 50)) (C := RX12) (T := TX12) (N := 100) hx hb hg inX12 hown hK hP 0 rfl rfl 50 (by decide) (hg _ w1756) (fun _ h9 => h9) rfl dX12_part_74 ?_
        refine g_top (v := z8) (up2_s hV9) ?_
        refine lv_iconst (v := 1) hx hb dX12_part_77 (by decide) ?_
        refine lv_isub hx hb dX12_part_78 ?_
        refine lv_topi (fun z12 ez12 => ?_)
        have hz12 : z12.toInt = z8.toInt - 1 := i_sub ez12 rfl (by decide) (by omega)
        refine va_put (D := D) (ci := 12) (v := .int z12) (ty := tyX12 50) (C := RX12) (T := TX12) (N := 100) hx hb hg inX12 tyX12 tyX12_ok nmX12 hown hK hP hD hS 0 rfl rfl 50 (by decide) (hg _ w1756) (fun _ h9 => h9) rfl (tyX12_ok 50 (by decide)) rfl rfl (Nat.le_of_ble_eq_true rfl) dX12_part_79 (fun H locs hP hD hS => ?_)
        obtain ⟨V13, hV13⟩ : ∃ z, z = up2 V9 0 50 z12 := ⟨_, rfl⟩
        have hP : va_P D vwCl (mw ad kk ks.1 V13 L) H := by rw [hV13]; exact hP
        have hD : va_D A (mw ad kk ks.1 V13 L) := by rw [hV13]; exact hD
        have hMV13 : rgd bM V13 := hMV9.put hV13 (show 0 ≤ z12.toInt ∧ z12.toInt ≤ 9 from by first | omega | ((try (have i_cw := Imp.go cw (by omega))); (try (have i_c1 := Imp.go c1 (by omega))); (try (have i_x3 := Imp.go x3 (by omega))); (try (have i_x3 := Imp.go x3 (by omega))); (try (have i_c1 := Imp.go c1 (by omega))); (try (have i_cw := Imp.go cw (by omega))); omega))
        have agV13 : agr [(0, 7), (0, 8), (0, 48), (0, 50)] [35, 36, 37, 38, 45, 46, 47] V V13 := agV9.up hV13 rfl
        have pq14 : (V13 0 7).toInt = ((V 0 7)).toInt := congrArg Int32.toInt ((up2_k hV13 (by decide)).trans (up2_k hV9 (by decide)))
        have pq15 : (V13 0 8).toInt = ((V 0 8)).toInt := congrArg Int32.toInt ((up2_k hV13 (by decide)).trans (up2_k hV9 (by decide)))
        have pq16 : (V13 0 48).toInt = ((V 0 48)).toInt := congrArg Int32.toInt ((up2_k hV13 (by decide)).trans (up2_k hV9 (by decide)))
        have pq17 : (V13 0 50).toInt = z12.toInt := congrArg Int32.toInt (up2_s hV13)
        have hpV := pA_i hMV
        have heV := pE_i hMV
        have r18 : 0 ≤ ((V 0 49)).toInt ∧ ((V 0 49)).toInt ≤ 10000 := hMV 0 49
        have r19 : 0 ≤ (V 0 48).toInt ∧ (V 0 48).toInt ≤ 10000 := hMV 0 48
        have r20 : 0 ≤ (V 0 49).toInt ∧ (V 0 49).toInt ≤ 10000 := hMV 0 49
        have sx21 : sameX V V13 (pA V) (pE V) := (sameX.tr ((sameX.up hV9 (by decide) (by decide) (by decide)) : sameX V V9 (pA V) (pE V)) ((sameX.up hV13 (by decide) (by decide) (by decide)) : sameX V9 V13 (pA V) (pE V)) (Nat.le_refl _))
        have hpV13 := pA_i hMV13
        have heV13 := pE_i hMV13
        have pq22 : (V13 0 49).toInt = ((V 0 49)).toInt := congrArg Int32.toInt ((up2_k hV13 (by decide)).trans (up2_k hV9 (by decide)))
        have r23 : 0 ≤ (V13 0 48).toInt ∧ (V13 0 48).toInt ≤ 10000 := hMV13 0 48
        have r24 : 0 ≤ (V13 0 49).toInt ∧ (V13 0 49).toInt ≤ 10000 := hMV13 0 49
        have wr25 : Imp ((V13 0 8).toInt = 0) (WE nd ar V13 hh (pA V) (pA V13)) := Imp.mk (fun hp => by exfalso; first | omega | ((try (have i_cw := Imp.go cw (by omega))); (try (have i_c1 := Imp.go c1 (by omega))); (try (have i_x3 := Imp.go x3 (by omega))); (try (have i_x3 := Imp.go x3 (by omega))); (try (have i_c1 := Imp.go c1 (by omega))); (try (have i_cw := Imp.go cw (by omega))); omega))
        exact W.vret hx hb hr (fun t ht hW => ⟨⟨(V13, L), rfl, ⟨hMV13, agV13, alL, (Imp.mk (fun hp => have hp : (V13 0 8).toInt = 0 := hp; (show 0 ≤ (V13 0 7).toInt ∧ (V13 0 7).toInt ≤ n ∧ (V 0 8).toInt = 0 ∧ (V 0 7).toInt ≤ (V13 0 7).toInt from by first | omega | ((try (have i_cw := Imp.go cw (by omega))); (try (have i_c1 := Imp.go c1 (by omega))); (try (have i_x3 := Imp.go x3 (by omega))); (try (have i_x3 := Imp.go x3 (by omega))); (try (have i_c1 := Imp.go c1 (by omega))); (try (have i_cw := Imp.go cw (by omega))); omega)))), (Imp.mk (fun hp => have hp : (V13 0 8).toInt = 0 := hp; (show (V13 0 48).toInt - (V 0 48).toInt ≤ 2 * ((V13 0 7).toInt - (V 0 7).toInt) from by first | omega | ((try (have i_cw := Imp.go cw (by omega))); (try (have i_c1 := Imp.go c1 (by omega))); (try (have i_x3 := Imp.go x3 (by omega))); (try (have i_x3 := Imp.go x3 (by omega))); (try (have i_c1 := Imp.go c1 (by omega))); (try (have i_cw := Imp.go cw (by omega))); omega)))), (show (V 0 48).toInt ≤ (V13 0 48).toInt from by first | omega | ((try (have i_cw := Imp.go cw (by omega))); (try (have i_c1 := Imp.go c1 (by omega))); (try (have i_x3 := Imp.go x3 (by omega))); (try (have i_x3 := Imp.go x3 (by omega))); (try (have i_c1 := Imp.go c1 (by omega))); (try (have i_cw := Imp.go cw (by omega))); omega)), (show (V13 0 48).toInt ≤ 8000 + xx + 48 - 6 * (V 0 50).toInt from by first | omega | ((try (have i_cw := Imp.go cw (by omega))); (try (have i_c1 := Imp.go c1 (by omega))); (try (have i_x3 := Imp.go x3 (by omega))); (try (have i_x3 := Imp.go x3 (by omega))); (try (have i_c1 := Imp.go c1 (by omega))); (try (have i_cw := Imp.go cw (by omega))); omega)), (Imp.mk (fun hp => have hp : 1 ≤ (V 0 8).toInt := hp; (show (V13 0 48).toInt = (V 0 48).toInt from by first | omega | ((try (have i_cw := Imp.go cw (by omega))); (try (have i_c1 := Imp.go c1 (by omega))); (try (have i_x3 := Imp.go x3 (by omega))); (try (have i_x3 := Imp.go x3 (by omega))); (try (have i_c1 := Imp.go c1 (by omega))); (try (have i_cw := Imp.go cw (by omega))); omega)))), (show (V13 0 50).toInt = (V 0 50).toInt from by first | omega | ((try (have i_cw := Imp.go cw (by omega))); (try (have i_c1 := Imp.go c1 (by omega))); (try (have i_x3 := Imp.go x3 (by omega))); (try (have i_x3 := Imp.go x3 (by omega))); (try (have i_c1 := Imp.go c1 (by omega))); (try (have i_cw := Imp.go cw (by omega))); omega)), sx21, wr25⟩, by rw [ht]; exact hP, va_K.moved hW.alike hK, hD⟩, hS.F ht⟩) hS.2.2 dX12_part_82
      · skip
        have f26 : ((V 0 8)).toInt = 0 := b_eq rfl (by decide) c10
        exfalso; first | omega | ((try (have i_cw := Imp.go cw (by omega))); (try (have i_c1 := Imp.go c1 (by omega))); (try (have i_x3 := Imp.go x3 (by omega))); (try (have i_x3 := Imp.go x3 (by omega))); (try (have i_c1 := Imp.go c1 (by omega))); (try (have i_cw := Imp.go cw (by omega))); omega)
    · skip
      have f27 : ((V 0 8)).toInt = 0 := b_eq rfl (by decide) c6
      exfalso; first | omega | ((try (have i_cw := Imp.go cw (by omega))); (try (have i_c1 := Imp.go c1 (by omega))); (try (have i_x3 := Imp.go x3 (by omega))); (try (have i_x3 := Imp.go x3 (by omega))); (try (have i_c1 := Imp.go c1 (by omega))); (try (have i_cw := Imp.go cw (by omega))); omega)
  · skip
    have f28 : ((V 0 8)).toInt = 0 := b_eq rfl (by decide) c4
    refine lv_aload_n hx hb dX12_part_7 rfl (lv_at hl 0 rfl) ?_
    refine gA_int (gA_runV (As := []) (rest := []) (ci := 12) (q0 := 0) hx hb hml hown hg hP hD hK hS hA hnw hgk (s_isPart3 l D ks H.size ad kk V L (n) hMV (show (V 4 (n)).toInt = 0 from by first | omega | ((try (have i_cw := Imp.go cw (by omega))); (try (have i_c1 := Imp.go c1 (by omega))); (try (have i_x3 := Imp.go x3 (by omega))); (try (have i_x3 := Imp.go x3 (by omega))); (try (have i_c1 := Imp.go c1 (by omega))); (try (have i_cw := Imp.go cw (by omega))); omega)) (show (n) ≤ 4000 from by first | omega | ((try (have i_cw := Imp.go cw (by omega))); (try (have i_c1 := Imp.go c1 (by omega))); (try (have i_x3 := Imp.go x3 (by omega))); (try (have i_x3 := Imp.go x3 (by omega))); (try (have i_c1 := Imp.go c1 (by omega))); (try (have i_cw := Imp.go cw (by omega))); omega)) (Imp.mk (fun hp => have hp : (V 0 8).toInt = 0 := hp; (show 0 ≤ (V 0 7).toInt ∧ (V 0 7).toInt ≤ (n) from by first | omega | ((try (have i_cw := Imp.go cw (by omega))); (try (have i_c1 := Imp.go c1 (by omega))); (try (have i_x3 := Imp.go x3 (by omega))); (try (have i_x3 := Imp.go x3 (by omega))); (try (have i_c1 := Imp.go c1 (by omega))); (try (have i_cw := Imp.go cw (by omega))); omega)))) ((cP.ag cw agV alL rfl rfl (fun _ => rfl) rfl)).2.2) w2132 w2134 w110 w172 w2135 rfl rfl hdV_yX12_isPart ⟨(by show 1 + 1 ≤ 10 * dd + 10; omega), (by show 8 + (1 + 11) + (21) ≤ 300 * dd + 300; omega)⟩ rfl hl.1 rfl (Nat.le_of_ble_eq_true rfl) dX12_part_8 ⟨Nat.le_of_ble_eq_true rfl, Nat.le_of_ble_eq_true rfl⟩) hP hD hK hS hA (fun z29 u30 H locs w31 hP hD hK hS => ?_)
    obtain ⟨rgz29, t32, t33, t34⟩ := w31
    have rgz29 : 0 ≤ z29.toInt ∧ z29.toInt ≤ 1 := rgz29
    have t32 : Imp (z29.toInt = 1) ((V 0 8).toInt = 0 ∧ 0 ≤ (V 0 7).toInt ∧ (V 0 7).toInt < (n)) := t32
    have t33 : Imp (z29.toInt = 1) (0 ≤ (V 0 51).toInt ∨ ¬ atW V L 18) := t33
    have t34 : Imp (z29.toInt = 1) ((V 0 52).toInt = 1 ∨ ¬ atW V L 19) := t34
    refine lv_if_ne (tgt := 22) hx hb dX12_part_11 (by decide) (fun c35 => ?_) (fun c35 => ?_)
    · skip
      have f36 : z29.toInt ≠ 0 := b_neq rfl (by decide) c35
      refine lv_aload_n hx hb dX12_part_22 rfl (lv_at hl 0 rfl) ?_
      refine va_get (D := D) (ci := 12) (v := .int (V 0 8)) (C := RX12) (T := TX12) (N := 100) hx hb hg inX12 hown hK hP 0 rfl rfl 8 (by decide) (hg _ w1714) (fun _ h9 => h9) rfl dX12_part_23 ?_
      refine lv_if_ne (tgt := 43) hx hb dX12_part_26 (by decide) (fun c37 => ?_) (fun c37 => ?_)
      · skip
        have f38 : ((V 0 8)).toInt ≠ 0 := b_neq rfl (by decide) c37
        exfalso; first | omega | ((try (have i_t32 := Imp.go t32 (by omega))); (try (have i_cw := Imp.go cw (by omega))); (try (have i_c1 := Imp.go c1 (by omega))); (try (have i_x3 := Imp.go x3 (by omega))); first | omega | ((try (have i_x3 := Imp.go x3 (by omega))); (try (have i_c1 := Imp.go c1 (by omega))); (try (have i_cw := Imp.go cw (by omega))); (try (have i_t32 := Imp.go t32 (by omega))); omega))
      · skip
        have f39 : ((V 0 8)).toInt = 0 := b_eq rfl (by decide) c37
        refine lv_aload_n hx hb dX12_part_29 rfl (lv_at hl 0 rfl) ?_
        refine va_get (D := D) (ci := 12) (v := .int (V 0 50)) (C := RX12) (T := TX12) (N := 100) hx hb hg inX12 hown hK hP 0 rfl rfl 50 (by decide) (hg _ w1756) (fun _ h9 => h9) rfl dX12_part_30 ?_
        refine lv_bipush (v := 8) hx hb dX12_part_33 (by decide) ?_
        refine lv_icmp_ne (tgt := 43) hx hb dX12_part_35 (by decide) (fun c40 => ?_) (fun c40 => ?_)
        · skip
          have f41 : ((V 0 50)).toInt ≠ 8 := b_neq rfl (by decide) c40
          refine lv_aload_n hx hb dX12_part_43 rfl (lv_at hl 0 rfl) ?_
          refine lv_dup hx hb dX12_part_44 rfl ?_
          refine va_get (D := D) (ci := 12) (v := .int (V 0 50)) (C := RX12) (T := TX12) (N := 100) hx hb hg inX12 hown hK hP 0 rfl rfl 50 (by decide) (hg _ w1756) (fun _ h9 => h9) rfl dX12_part_45 ?_
          refine lv_iconst (v := 1) hx hb dX12_part_48 (by decide) ?_
          refine lv_iadd hx hb dX12_part_49 ?_
          refine lv_topi (fun z42 ez42 => ?_)
          have hz42 : z42.toInt = ((V 0 50)).toInt + 1 := i_add ez42 rfl (by decide) (by omega)
          refine va_put (D := D) (ci := 12) (v := .int z42) (ty := tyX12 50) (C := RX12) (T := TX12) (N := 100) hx hb hg inX12 tyX12 tyX12_ok nmX12 hown hK hP hD hS 0 rfl rfl 50 (by decide) (hg _ w1756) (fun _ h9 => h9) rfl (tyX12_ok 50 (by decide)) rfl rfl (Nat.le_of_ble_eq_true rfl) dX12_part_50 (fun H locs hP hD hS => ?_)
          obtain ⟨V43, hV43⟩ : ∃ z, z = up2 V 0 50 z42 := ⟨_, rfl⟩
          have hP : va_P D vwCl (mw ad kk ks.1 V43 L) H := by rw [hV43]; exact hP
          have hD : va_D A (mw ad kk ks.1 V43 L) := by rw [hV43]; exact hD
          have hMV43 : rgd bM V43 := hMV.put hV43 (show 0 ≤ z42.toInt ∧ z42.toInt ≤ 9 from by first | omega | ((try (have i_t32 := Imp.go t32 (by omega))); (try (have i_cw := Imp.go cw (by omega))); (try (have i_c1 := Imp.go c1 (by omega))); (try (have i_x3 := Imp.go x3 (by omega))); first | omega | ((try (have i_x3 := Imp.go x3 (by omega))); (try (have i_c1 := Imp.go c1 (by omega))); (try (have i_cw := Imp.go cw (by omega))); (try (have i_t32 := Imp.go t32 (by omega))); omega)))
          have agV43 : agr [(0, 7), (0, 8), (0, 48), (0, 50)] [35, 36, 37, 38, 45, 46, 47] V V43 := agV.up hV43 rfl
          refine lv_aload_n hx hb dX12_part_53 rfl (lv_at hl 0 rfl) ?_
          refine va_get (D := D) (ci := 12) (v := .int (V43 0 8)) (C := RX12) (T := TX12) (N := 100) hx hb hg inX12 hown hK hP 0 rfl rfl 8 (by decide) (hg _ w1714) (fun _ h9 => h9) rfl dX12_part_54 ?_
          refine g_top (v := (V 0 8)) (up2_k hV43 (by decide)) ?_
          refine lv_if_ne (tgt := 72) hx hb dX12_part_57 (by decide) (fun c44 => ?_) (fun c44 => ?_)
          · skip
            have f45 : ((V 0 8)).toInt ≠ 0 := b_neq rfl (by decide) c44
            exfalso; first | omega | ((try (have i_t32 := Imp.go t32 (by omega))); (try (have i_cw := Imp.go cw (by omega))); (try (have i_c1 := Imp.go c1 (by omega))); (try (have i_x3 := Imp.go x3 (by omega))); first | omega | ((try (have i_x3 := Imp.go x3 (by omega))); (try (have i_c1 := Imp.go c1 (by omega))); (try (have i_cw := Imp.go cw (by omega))); (try (have i_t32 := Imp.go t32 (by omega))); omega))
          · skip
            have f46 : ((V 0 8)).toInt = 0 := b_eq rfl (by decide) c44
            refine lv_aload_n hx hb dX12_part_60 rfl (lv_at hl 0 rfl) ?_
            refine lv_iconst (v := 1) hx hb dX12_part_61 (by decide) ?_
            refine lv_iconst (v := 0) hx hb dX12_part_62 (by decide) ?_
            refine lv_iconst (v := 0) hx hb dX12_part_63 (by decide) ?_
            have r47 : Int32.toInt 1 = 1 := by decide
            have r48 : Int32.toInt 0 = 0 := by decide
            have pq49 : (V43 0 48).toInt = ((V 0 48)).toInt := congrArg Int32.toInt (up2_k hV43 (by decide))
            refine gA_int (gA_runV (As := [.int 1, .int 0, .int 0]) (rest := []) (ci := 12) (q0 := 0) hx hb hml hown hg hP hD hK hS hA hnw hgk (s_emit3 l D ks H.size ad kk V43 L 1 0 0 hMV43 (show (V43 0 48).toInt ≤ 9999 from by first | omega | ((try (have i_t32 := Imp.go t32 (by omega))); (try (have i_cw := Imp.go cw (by omega))); (try (have i_c1 := Imp.go c1 (by omega))); (try (have i_x3 := Imp.go x3 (by omega))); first | omega | ((try (have i_x3 := Imp.go x3 (by omega))); (try (have i_c1 := Imp.go c1 (by omega))); (try (have i_cw := Imp.go cw (by omega))); (try (have i_t32 := Imp.go t32 (by omega))); omega)))) w2136 w2138 w111 w172 w2139 rfl rfl hdV_yX12_emit ⟨(by show 0 + 1 ≤ 10 * dd + 10; omega), (by show 8 + (4 + 11) + (0) ≤ 300 * dd + 300; omega)⟩ rfl hl.1 rfl (Nat.le_of_ble_eq_true rfl) dX12_part_64 ⟨Nat.le_of_ble_eq_true rfl, Nat.le_of_ble_eq_true rfl⟩) hP hD hK hS hA (fun z50 u51 H locs w52 hP hD hK hS => ?_)
            obtain ⟨V56, L57⟩ := u51
            obtain ⟨hMV56, ajV56, axL57, rgz50, t53, t54, t55⟩ := w52
            have axL57 : L = L57 := Eq.symm axL57
            subst axL57
            have hP : va_P D vwCl (mw ad kk ks.1 V56 L) H := hP
            have hD : va_D A (mw ad kk ks.1 V56 L) := hD
            have hMV56 : rgd bM V56 := hMV56
            have ajV56 : agr [(0, 48)] [45, 46, 47] V43 V56 := ajV56
            have agV56 : agr [(0, 7), (0, 8), (0, 48), (0, 50)] [35, 36, 37, 38, 45, 46, 47] V V56 := agV43.tr ajV56 (by decide) (by decide)
            have rgz50 : 0 ≤ z50.toInt ∧ z50.toInt ≤ 20000 := rgz50
            have t53 : (V56 0 48).toInt = (V43 0 48).toInt + 1 := t53
            have t54 : z50.toInt = (V43 0 49).toInt + (V43 0 48).toInt := t54
            have t55 : emitted V43 V56 (pA V43) 1 0 0 := t55
            have r58 : 0 ≤ ((V56 0 48)).toInt ∧ ((V56 0 48)).toInt ≤ 10000 := hMV56 0 48
            have pq59 : (V43 0 49).toInt = ((V 0 49)).toInt := congrArg Int32.toInt (up2_k hV43 (by decide))
            have r60 : 0 ≤ ((V 0 49)).toInt ∧ ((V 0 49)).toInt ≤ 10000 := hMV 0 49
            refine lv_istore_n (lv' := [(1, .int z50), (0, .ref (ad 0))]) hx hb dX12_part_67 rfl hl (by decide) rfl (fun ls hl => ?_)
            refine lv_aload_n hx hb dX12_part_68 rfl (lv_at hl 1 rfl) ?_
            obtain ⟨d9, rfl⟩ : ∃ d9, dd = d9 + 1 := ⟨dd - 1, by omega⟩
            have pq61 : (V56 4 n).toInt = ((V 4 n)).toInt := congrArg Int32.toInt ((ajV56 4 n rfl).trans (up2_o hV43 (by decide)))
            have pq62 : (V56 0 7).toInt = ((V 0 7)).toInt := congrArg Int32.toInt ((ajV56 0 7 rfl).trans (up2_k hV43 (by decide)))
            have pq63 : (V56 0 8).toInt = ((V 0 8)).toInt := congrArg Int32.toInt ((ajV56 0 8 rfl).trans (up2_k hV43 (by decide)))
            have pq64 : (V56 0 50).toInt = z42.toInt := congrArg Int32.toInt ((ajV56 0 50 rfl).trans (up2_s hV43))
            have hpV := pA_i hMV
            have heV := pE_i hMV
            have r65 : 0 ≤ (V 0 48).toInt ∧ (V 0 48).toInt ≤ 10000 := hMV 0 48
            have r66 : 0 ≤ (V 0 49).toInt ∧ (V 0 49).toInt ≤ 10000 := hMV 0 49
            have hpV56 := pA_i hMV56
            have heV56 := pE_i hMV56
            have pq67 : (V56 0 49).toInt = ((V 0 49)).toInt := congrArg Int32.toInt ((ajV56 0 49 rfl).trans (up2_k hV43 (by decide)))
            have r68 : 0 ≤ (V56 0 48).toInt ∧ (V56 0 48).toInt ≤ 10000 := hMV56 0 48
            have r69 : 0 ≤ (V56 0 49).toInt ∧ (V56 0 49).toInt ≤ 10000 := hMV56 0 49
            have hpV43 := pA_i hMV43
            have heV43 := pE_i hMV43
            have r70 : 0 ≤ (V43 0 48).toInt ∧ (V43 0 48).toInt ≤ 10000 := hMV43 0 48
            have r71 : 0 ≤ (V43 0 49).toInt ∧ (V43 0 49).toInt ≤ 10000 := hMV43 0 49
            have o72 := emitted.at3 t55
            refine gA_void (gA_runV (As := []) (rest := []) (ci := 12) (q0 := 0) hx hb hml hown hg hP hD hK hS hA hnw hgk ((hk_s_partWithin d9 rfl) H.size ad kk V56 L (n) (1) (nd) (ar) (hh) (pA V43) hMV56 (show (V56 4 (n)).toInt = 0 from by first | omega | ((try (have i_t32 := Imp.go t32 (by omega))); (try (have i_cw := Imp.go cw (by omega))); (try (have i_c1 := Imp.go c1 (by omega))); (try (have i_x3 := Imp.go x3 (by omega))); first | omega | ((try (have i_x3 := Imp.go x3 (by omega))); (try (have i_c1 := Imp.go c1 (by omega))); (try (have i_cw := Imp.go cw (by omega))); (try (have i_t32 := Imp.go t32 (by omega))); omega))) (show (n) ≤ 4000 from by first | omega | ((try (have i_t32 := Imp.go t32 (by omega))); (try (have i_cw := Imp.go cw (by omega))); (try (have i_c1 := Imp.go c1 (by omega))); (try (have i_x3 := Imp.go x3 (by omega))); first | omega | ((try (have i_x3 := Imp.go x3 (by omega))); (try (have i_c1 := Imp.go c1 (by omega))); (try (have i_cw := Imp.go cw (by omega))); (try (have i_t32 := Imp.go t32 (by omega))); omega))) (Imp.mk (fun hp => have hp : (V56 0 8).toInt = 0 := hp; (show 0 ≤ (V56 0 7).toInt ∧ (V56 0 7).toInt ≤ (n) from by first | omega | ((try (have i_t32 := Imp.go t32 (by omega))); (try (have i_cw := Imp.go cw (by omega))); (try (have i_c1 := Imp.go c1 (by omega))); (try (have i_x3 := Imp.go x3 (by omega))); first | omega | ((try (have i_x3 := Imp.go x3 (by omega))); (try (have i_c1 := Imp.go c1 (by omega))); (try (have i_cw := Imp.go cw (by omega))); (try (have i_t32 := Imp.go t32 (by omega))); omega))))) (show (V56 0 8).toInt = 0 from by first | omega | ((try (have i_t32 := Imp.go t32 (by omega))); (try (have i_cw := Imp.go cw (by omega))); (try (have i_c1 := Imp.go c1 (by omega))); (try (have i_x3 := Imp.go x3 (by omega))); first | omega | ((try (have i_x3 := Imp.go x3 (by omega))); (try (have i_c1 := Imp.go c1 (by omega))); (try (have i_cw := Imp.go cw (by omega))); (try (have i_t32 := Imp.go t32 (by omega))); omega))) (show (V56 0 48).toInt ≤ 2 * (V56 0 7).toInt + 1 from by first | omega | ((try (have i_t32 := Imp.go t32 (by omega))); (try (have i_cw := Imp.go cw (by omega))); (try (have i_c1 := Imp.go c1 (by omega))); (try (have i_x3 := Imp.go x3 (by omega))); first | omega | ((try (have i_x3 := Imp.go x3 (by omega))); (try (have i_c1 := Imp.go c1 (by omega))); (try (have i_cw := Imp.go cw (by omega))); (try (have i_t32 := Imp.go t32 (by omega))); omega))) (show (V56 0 7).toInt + 1 ≤ (n) from by first | omega | ((try (have i_t32 := Imp.go t32 (by omega))); (try (have i_cw := Imp.go cw (by omega))); (try (have i_c1 := Imp.go c1 (by omega))); (try (have i_x3 := Imp.go x3 (by omega))); first | omega | ((try (have i_x3 := Imp.go x3 (by omega))); (try (have i_c1 := Imp.go c1 (by omega))); (try (have i_cw := Imp.go cw (by omega))); (try (have i_t32 := Imp.go t32 (by omega))); omega))) (show 0 ≤ (1) ∧ (1) ≤ 100 from by first | omega | ((try (have i_t32 := Imp.go t32 (by omega))); (try (have i_cw := Imp.go cw (by omega))); (try (have i_c1 := Imp.go c1 (by omega))); (try (have i_x3 := Imp.go x3 (by omega))); first | omega | ((try (have i_x3 := Imp.go x3 (by omega))); (try (have i_c1 := Imp.go c1 (by omega))); (try (have i_cw := Imp.go cw (by omega))); (try (have i_t32 := Imp.go t32 (by omega))); omega))) (show (V56 0 50).toInt + ((d9 : Nat) : Int) = 8 from by first | omega | ((try (have i_t32 := Imp.go t32 (by omega))); (try (have i_cw := Imp.go cw (by omega))); (try (have i_c1 := Imp.go c1 (by omega))); (try (have i_x3 := Imp.go x3 (by omega))); first | omega | ((try (have i_x3 := Imp.go x3 (by omega))); (try (have i_c1 := Imp.go c1 (by omega))); (try (have i_cw := Imp.go cw (by omega))); (try (have i_t32 := Imp.go t32 (by omega))); omega))) (show 3 * ((d9 : Nat) : Int) + 4 ≤ (((hh) : Nat) : Int) from by first | omega | ((try (have i_t32 := Imp.go t32 (by omega))); (try (have i_cw := Imp.go cw (by omega))); (try (have i_c1 := Imp.go c1 (by omega))); (try (have i_x3 := Imp.go x3 (by omega))); first | omega | ((try (have i_x3 := Imp.go x3 (by omega))); (try (have i_c1 := Imp.go c1 (by omega))); (try (have i_cw := Imp.go cw (by omega))); (try (have i_t32 := Imp.go t32 (by omega))); omega))) (cP.ag cw agV56 alL rfl rfl (fun _ => rfl) rfl) ⟨by first | omega | ((try (have i_t32 := Imp.go t32 (by omega))); (try (have i_cw := Imp.go cw (by omega))); (try (have i_c1 := Imp.go c1 (by omega))); (try (have i_x3 := Imp.go x3 (by omega))); first | omega | ((try (have i_x3 := Imp.go x3 (by omega))); (try (have i_c1 := Imp.go c1 (by omega))); (try (have i_cw := Imp.go cw (by omega))); (try (have i_t32 := Imp.go t32 (by omega))); omega)), by first | omega | ((try (have i_t32 := Imp.go t32 (by omega))); (try (have i_cw := Imp.go cw (by omega))); (try (have i_c1 := Imp.go c1 (by omega))); (try (have i_x3 := Imp.go x3 (by omega))); first | omega | ((try (have i_x3 := Imp.go x3 (by omega))); (try (have i_c1 := Imp.go c1 (by omega))); (try (have i_cw := Imp.go cw (by omega))); (try (have i_t32 := Imp.go t32 (by omega))); omega))⟩ ((Imp.go t33 (by first | omega | ((try (have i_t32 := Imp.go t32 (by omega))); (try (have i_cw := Imp.go cw (by omega))); (try (have i_c1 := Imp.go c1 (by omega))); (try (have i_x3 := Imp.go x3 (by omega))); first | omega | ((try (have i_x3 := Imp.go x3 (by omega))); (try (have i_c1 := Imp.go c1 (by omega))); (try (have i_cw := Imp.go cw (by omega))); (try (have i_t32 := Imp.go t32 (by omega))); omega)))).imp (fun h => by rw [agV56 0 51 rfl]; exact h) (fun h q => h (atW.back q (by first | omega | ((try (have i_t32 := Imp.go t32 (by omega))); (try (have i_cw := Imp.go cw (by omega))); (try (have i_c1 := Imp.go c1 (by omega))); (try (have i_x3 := Imp.go x3 (by omega))); first | omega | ((try (have i_x3 := Imp.go x3 (by omega))); (try (have i_c1 := Imp.go c1 (by omega))); (try (have i_cw := Imp.go cw (by omega))); (try (have i_t32 := Imp.go t32 (by omega))); omega))) (fun i => agV56 4 i rfl)))) ((Imp.go t34 (by first | omega | ((try (have i_t32 := Imp.go t32 (by omega))); (try (have i_cw := Imp.go cw (by omega))); (try (have i_c1 := Imp.go c1 (by omega))); (try (have i_x3 := Imp.go x3 (by omega))); first | omega | ((try (have i_x3 := Imp.go x3 (by omega))); (try (have i_c1 := Imp.go c1 (by omega))); (try (have i_cw := Imp.go cw (by omega))); (try (have i_t32 := Imp.go t32 (by omega))); omega)))).imp (fun h => by rw [agV56 0 52 rfl]; exact h) (fun h q => h (atW.back q (by first | omega | ((try (have i_t32 := Imp.go t32 (by omega))); (try (have i_cw := Imp.go cw (by omega))); (try (have i_c1 := Imp.go c1 (by omega))); (try (have i_x3 := Imp.go x3 (by omega))); first | omega | ((try (have i_x3 := Imp.go x3 (by omega))); (try (have i_c1 := Imp.go c1 (by omega))); (try (have i_cw := Imp.go cw (by omega))); (try (have i_t32 := Imp.go t32 (by omega))); omega))) (fun i => agV56 4 i rfl))))) w2140 w2142 w112 w172 w2143 rfl rfl hdV_yX12_partWithin ⟨(by show 10 * d9 + 15 + 1 ≤ 10 * (d9 + 1) + 10; omega), (by show 8 + (4 + 11) + (300 * d9 + 500) ≤ 300 * (d9 + 1) + 300; omega)⟩ rfl hl.1 rfl (Nat.le_of_ble_eq_true rfl) dX12_part_69 ⟨Nat.le_of_ble_eq_true rfl, Nat.le_of_ble_eq_true rfl⟩) hP hD hK hS hA (fun u74 H locs w75 hP hD hK hS => ?_)
            obtain ⟨V83, L84⟩ := u74
            obtain ⟨hMV83, ajV83, axL84, t76, t77, t78, t79, t80, t81, t82⟩ := w75
            have alL84 : agL [35, 36, 37, 38, 45, 46, 47] L L84 := agL.tr alL axL84 (by decide)
            have hP : va_P D vwCl (mw ad kk ks.1 V83 L84) H := hP
            have hD : va_D A (mw ad kk ks.1 V83 L84) := hD
            have hMV83 : rgd bM V83 := hMV83
            have ajV83 : agr [(0, 7), (0, 8), (0, 48), (0, 50)] [35, 36, 37, 38, 45, 46, 47] V56 V83 := ajV83
            have agV83 : agr [(0, 7), (0, 8), (0, 48), (0, 50)] [35, 36, 37, 38, 45, 46, 47] V V83 := agV56.tr ajV83 (by decide) (by decide)
            have t76 : Imp ((V83 0 8).toInt = 0) (0 ≤ (V83 0 7).toInt ∧ (V83 0 7).toInt ≤ (n) ∧ (V56 0 8).toInt = 0 ∧ (V56 0 7).toInt ≤ (V83 0 7).toInt) := t76
            have t77 : Imp ((V83 0 8).toInt = 0) ((V83 0 48).toInt - (V56 0 48).toInt ≤ 2 * ((V83 0 7).toInt - (V56 0 7).toInt) - 1) := t77
            have t78 : (V56 0 48).toInt ≤ (V83 0 48).toInt := t78
            have t79 : (V83 0 48).toInt ≤ 8000 + 54 - 6 * (V56 0 50).toInt := t79
            have t80 : (V83 0 50).toInt = (V56 0 50).toInt := t80
            have t81 : sameX V56 V83 (pA V56) (pE V56) := t81
            have t82 : Imp ((V83 0 8).toInt = 0) (WE (nd) (ar) V83 (hh) (pA V43) (pA V83)) := t82
            have r85 : 0 ≤ ((V83 0 8)).toInt ∧ ((V83 0 8)).toInt ≤ 70000 := hMV83 0 8
            have r86 : 0 ≤ ((V83 0 48)).toInt ∧ ((V83 0 48)).toInt ≤ 10000 := hMV83 0 48
            have r87 : 0 ≤ ((V83 0 50)).toInt ∧ ((V83 0 50)).toInt ≤ 9 := hMV83 0 50
            refine lv_aload_n hx hb dX12_part_72 rfl (lv_at hl 1 rfl) ?_
            refine lv_dup hx hb dX12_part_73 rfl ?_
            refine va_get (D := D) (ci := 12) (v := .int (V83 0 50)) (C := RX12) (T := TX12) (N := 100) hx hb hg inX12 hown hK hP 0 rfl rfl 50 (by decide) (hg _ w1756) (fun _ h9 => h9) rfl dX12_part_74 ?_
            refine lv_iconst (v := 1) hx hb dX12_part_77 (by decide) ?_
            refine lv_isub hx hb dX12_part_78 ?_
            refine lv_topi (fun z88 ez88 => ?_)
            have hz88 : z88.toInt = ((V83 0 50)).toInt - 1 := i_sub ez88 rfl (by decide) (by omega)
            refine va_put (D := D) (ci := 12) (v := .int z88) (ty := tyX12 50) (C := RX12) (T := TX12) (N := 100) hx hb hg inX12 tyX12 tyX12_ok nmX12 hown hK hP hD hS 0 rfl rfl 50 (by decide) (hg _ w1756) (fun _ h9 => h9) rfl (tyX12_ok 50 (by decide)) rfl rfl (Nat.le_of_ble_eq_true rfl) dX12_part_79 (fun H locs hP hD hS => ?_)
            obtain ⟨V89, hV89⟩ : ∃ z, z = up2 V83 0 50 z88 := ⟨_, rfl⟩
            have hP : va_P D vwCl (mw ad kk ks.1 V89 L84) H := by rw [hV89]; exact hP
            have hD : va_D A (mw ad kk ks.1 V89 L84) := by rw [hV89]; exact hD
            have hMV89 : rgd bM V89 := hMV83.put hV89 (show 0 ≤ z88.toInt ∧ z88.toInt ≤ 9 from by first | omega | ((try (have i_t77 := Imp.go t77 (by omega))); (try (have i_t76 := Imp.go t76 (by omega))); (try (have i_t32 := Imp.go t32 (by omega))); (try (have i_cw := Imp.go cw (by omega))); first | omega | ((try (have i_c1 := Imp.go c1 (by omega))); (try (have i_x3 := Imp.go x3 (by omega))); (try (have i_x3 := Imp.go x3 (by omega))); (try (have i_c1 := Imp.go c1 (by omega))); first | omega | ((try (have i_cw := Imp.go cw (by omega))); (try (have i_t32 := Imp.go t32 (by omega))); (try (have i_t76 := Imp.go t76 (by omega))); (try (have i_t77 := Imp.go t77 (by omega))); omega))))
            have agV89 : agr [(0, 7), (0, 8), (0, 48), (0, 50)] [35, 36, 37, 38, 45, 46, 47] V V89 := agV83.up hV89 rfl
            have pq90 : (V89 0 7).toInt = ((V83 0 7)).toInt := congrArg Int32.toInt (up2_k hV89 (by decide))
            have pq91 : (V89 0 8).toInt = ((V83 0 8)).toInt := congrArg Int32.toInt (up2_k hV89 (by decide))
            have pq92 : (V89 0 48).toInt = ((V83 0 48)).toInt := congrArg Int32.toInt (up2_k hV89 (by decide))
            have pq93 : (V89 0 50).toInt = z88.toInt := congrArg Int32.toInt (up2_s hV89)
            have hpV83 := pA_i hMV83
            have heV83 := pE_i hMV83
            have pq94 : (V83 0 49).toInt = ((V 0 49)).toInt := congrArg Int32.toInt ((ajV83 0 49 rfl).trans ((ajV56 0 49 rfl).trans (up2_k hV43 (by decide))))
            have r95 : 0 ≤ (V83 0 48).toInt ∧ (V83 0 48).toInt ≤ 10000 := hMV83 0 48
            have r96 : 0 ≤ (V83 0 49).toInt ∧ (V83 0 49).toInt ≤ 10000 := hMV83 0 49
            have sx97 : sameX V V89 (pA V) (pE V) := (sameX.tr (sameX.tr (sameX.tr ((sameX.up hV43 (by decide) (by decide) (by decide)) : sameX V V43 (pA V) (pE V)) ((emitted.X t55 (by omega) (by omega)) : sameX V43 V56 (pA V) (pE V)) (Nat.le_refl _)) ((sameX.cut t81 (by omega) (by omega)) : sameX V56 V83 (pA V) (pE V)) (Nat.le_refl _)) ((sameX.up hV89 (by decide) (by decide) (by decide)) : sameX V83 V89 (pA V) (pE V)) (Nat.le_refl _))
            have hpV89 := pA_i hMV89
            have heV89 := pE_i hMV89
            have pq98 : (V89 0 49).toInt = ((V 0 49)).toInt := congrArg Int32.toInt ((up2_k hV89 (by decide)).trans ((ajV83 0 49 rfl).trans ((ajV56 0 49 rfl).trans (up2_k hV43 (by decide)))))
            have r99 : 0 ≤ (V89 0 48).toInt ∧ (V89 0 48).toInt ≤ 10000 := hMV89 0 48
            have r100 : 0 ≤ (V89 0 49).toInt ∧ (V89 0 49).toInt ≤ 10000 := hMV89 0 49
            have sx101 : sameX V83 V89 (pA V83) (pE V) := ((sameX.up hV89 (by decide) (by decide) (by decide)) : sameX V83 V89 (pA V83) (pE V))
            have we102 : Imp ((V89 0 8).toInt = 0) (WE nd ar V89 hh (pA V43) (pA V83)) := Imp.mk (fun hp => (WE.mv (Imp.go t82 (flt_up hV89 (Or.inr (by decide)) hp)) sx101 (Nat.le_refl _)))
            have wr103 : Imp ((V89 0 8).toInt = 0) (WE nd ar V89 hh (pA V) (pA V89)) := Imp.mk (fun hp => WE.cast (Imp.go we102 hp) (by omega) (by omega))
            exact W.vret hx hb hr (fun t ht hW => ⟨⟨(V89, L84), rfl, ⟨hMV89, agV89, alL84, (Imp.mk (fun hp => have hp : (V89 0 8).toInt = 0 := hp; (show 0 ≤ (V89 0 7).toInt ∧ (V89 0 7).toInt ≤ n ∧ (V 0 8).toInt = 0 ∧ (V 0 7).toInt ≤ (V89 0 7).toInt from by first | omega | ((try (have i_t77 := Imp.go t77 (by omega))); (try (have i_t76 := Imp.go t76 (by omega))); (try (have i_t32 := Imp.go t32 (by omega))); (try (have i_cw := Imp.go cw (by omega))); first | omega | ((try (have i_c1 := Imp.go c1 (by omega))); (try (have i_x3 := Imp.go x3 (by omega))); (try (have i_x3 := Imp.go x3 (by omega))); (try (have i_c1 := Imp.go c1 (by omega))); first | omega | ((try (have i_cw := Imp.go cw (by omega))); (try (have i_t32 := Imp.go t32 (by omega))); (try (have i_t76 := Imp.go t76 (by omega))); (try (have i_t77 := Imp.go t77 (by omega))); omega)))))), (Imp.mk (fun hp => have hp : (V89 0 8).toInt = 0 := hp; (show (V89 0 48).toInt - (V 0 48).toInt ≤ 2 * ((V89 0 7).toInt - (V 0 7).toInt) from by first | omega | ((try (have i_t77 := Imp.go t77 (by omega))); (try (have i_t76 := Imp.go t76 (by omega))); (try (have i_t32 := Imp.go t32 (by omega))); (try (have i_cw := Imp.go cw (by omega))); first | omega | ((try (have i_c1 := Imp.go c1 (by omega))); (try (have i_x3 := Imp.go x3 (by omega))); (try (have i_x3 := Imp.go x3 (by omega))); (try (have i_c1 := Imp.go c1 (by omega))); first | omega | ((try (have i_cw := Imp.go cw (by omega))); (try (have i_t32 := Imp.go t32 (by omega))); (try (have i_t76 := Imp.go t76 (by omega))); (try (have i_t77 := Imp.go t77 (by omega))); omega)))))), (show (V 0 48).toInt ≤ (V89 0 48).toInt from by first | omega | ((try (have i_t77 := Imp.go t77 (by omega))); (try (have i_t76 := Imp.go t76 (by omega))); (try (have i_t32 := Imp.go t32 (by omega))); (try (have i_cw := Imp.go cw (by omega))); first | omega | ((try (have i_c1 := Imp.go c1 (by omega))); (try (have i_x3 := Imp.go x3 (by omega))); (try (have i_x3 := Imp.go x3 (by omega))); (try (have i_c1 := Imp.go c1 (by omega))); first | omega | ((try (have i_cw := Imp.go cw (by omega))); (try (have i_t32 := Imp.go t32 (by omega))); (try (have i_t76 := Imp.go t76 (by omega))); (try (have i_t77 := Imp.go t77 (by omega))); omega)))), (show (V89 0 48).toInt ≤ 8000 + xx + 48 - 6 * (V 0 50).toInt from by first | omega | ((try (have i_t77 := Imp.go t77 (by omega))); (try (have i_t76 := Imp.go t76 (by omega))); (try (have i_t32 := Imp.go t32 (by omega))); (try (have i_cw := Imp.go cw (by omega))); first | omega | ((try (have i_c1 := Imp.go c1 (by omega))); (try (have i_x3 := Imp.go x3 (by omega))); (try (have i_x3 := Imp.go x3 (by omega))); (try (have i_c1 := Imp.go c1 (by omega))); first | omega | ((try (have i_cw := Imp.go cw (by omega))); (try (have i_t32 := Imp.go t32 (by omega))); (try (have i_t76 := Imp.go t76 (by omega))); (try (have i_t77 := Imp.go t77 (by omega))); omega)))), (Imp.mk (fun hp => have hp : 1 ≤ (V 0 8).toInt := hp; (show (V89 0 48).toInt = (V 0 48).toInt from by first | omega | ((try (have i_t77 := Imp.go t77 (by omega))); (try (have i_t76 := Imp.go t76 (by omega))); (try (have i_t32 := Imp.go t32 (by omega))); (try (have i_cw := Imp.go cw (by omega))); first | omega | ((try (have i_c1 := Imp.go c1 (by omega))); (try (have i_x3 := Imp.go x3 (by omega))); (try (have i_x3 := Imp.go x3 (by omega))); (try (have i_c1 := Imp.go c1 (by omega))); first | omega | ((try (have i_cw := Imp.go cw (by omega))); (try (have i_t32 := Imp.go t32 (by omega))); (try (have i_t76 := Imp.go t76 (by omega))); (try (have i_t77 := Imp.go t77 (by omega))); omega)))))), (show (V89 0 50).toInt = (V 0 50).toInt from by first | omega | ((try (have i_t77 := Imp.go t77 (by omega))); (try (have i_t76 := Imp.go t76 (by omega))); (try (have i_t32 := Imp.go t32 (by omega))); (try (have i_cw := Imp.go cw (by omega))); first | omega | ((try (have i_c1 := Imp.go c1 (by omega))); (try (have i_x3 := Imp.go x3 (by omega))); (try (have i_x3 := Imp.go x3 (by omega))); (try (have i_c1 := Imp.go c1 (by omega))); first | omega | ((try (have i_cw := Imp.go cw (by omega))); (try (have i_t32 := Imp.go t32 (by omega))); (try (have i_t76 := Imp.go t76 (by omega))); (try (have i_t77 := Imp.go t77 (by omega))); omega)))), sx97, wr103⟩, by rw [ht]; exact hP, va_K.moved hW.alike hK, hD⟩, hS.F ht⟩) hS.2.2 dX12_part_82
        · skip
          have f104 : ((V 0 50)).toInt = 8 := b_eq rfl (by decide) c40
          refine lv_aload_n hx hb dX12_part_38 rfl (lv_at hl 0 rfl) ?_
          refine lv_iconst (v := 5) hx hb dX12_part_39 (by decide) ?_
          have r105 : Int32.toInt 5 = 5 := by decide
          refine gA_void (gA_runV (As := [.int 5]) (rest := []) (ci := 12) (q0 := 0) hx hb hml hown hg hP hD hK hS hA hnw hgk (s_wrong l D ks H.size ad kk V L 5 (n) hMV (by decide) (show (V 4 (n)).toInt = 0 from by first | omega | ((try (have i_t32 := Imp.go t32 (by omega))); (try (have i_cw := Imp.go cw (by omega))); (try (have i_c1 := Imp.go c1 (by omega))); (try (have i_x3 := Imp.go x3 (by omega))); first | omega | ((try (have i_x3 := Imp.go x3 (by omega))); (try (have i_c1 := Imp.go c1 (by omega))); (try (have i_cw := Imp.go cw (by omega))); (try (have i_t32 := Imp.go t32 (by omega))); omega))) (show (n) ≤ 4000 from by first | omega | ((try (have i_t32 := Imp.go t32 (by omega))); (try (have i_cw := Imp.go cw (by omega))); (try (have i_c1 := Imp.go c1 (by omega))); (try (have i_x3 := Imp.go x3 (by omega))); first | omega | ((try (have i_x3 := Imp.go x3 (by omega))); (try (have i_c1 := Imp.go c1 (by omega))); (try (have i_cw := Imp.go cw (by omega))); (try (have i_t32 := Imp.go t32 (by omega))); omega))) (Imp.mk (fun hp => have hp : (V 0 8).toInt = 0 := hp; (show 0 ≤ (V 0 7).toInt ∧ (V 0 7).toInt ≤ (n) from by first | omega | ((try (have i_t32 := Imp.go t32 (by omega))); (try (have i_cw := Imp.go cw (by omega))); (try (have i_c1 := Imp.go c1 (by omega))); (try (have i_x3 := Imp.go x3 (by omega))); first | omega | ((try (have i_x3 := Imp.go x3 (by omega))); (try (have i_c1 := Imp.go c1 (by omega))); (try (have i_cw := Imp.go cw (by omega))); (try (have i_t32 := Imp.go t32 (by omega))); omega)))))) w2035 w2037 w86 w172 w2038 rfl rfl hdV_yX12_wrong ⟨(by show 0 + 1 ≤ 10 * dd + 10; omega), (by show 8 + (2 + 11) + (0) ≤ 300 * dd + 300; omega)⟩ rfl hl.1 rfl (Nat.le_of_ble_eq_true rfl) dX12_part_40 ⟨Nat.le_of_ble_eq_true rfl, Nat.le_of_ble_eq_true rfl⟩) hP hD hK hS hA (fun u107 H locs w108 hP hD hK hS => ?_)
          obtain ⟨V110, L111⟩ := u107
          obtain ⟨hMV110, ajV110, axL111, t109⟩ := w108
          have axL111 : L = L111 := Eq.symm axL111
          subst axL111
          have hP : va_P D vwCl (mw ad kk ks.1 V110 L) H := hP
          have hD : va_D A (mw ad kk ks.1 V110 L) := hD
          have hMV110 : rgd bM V110 := hMV110
          have ajV110 : agr [(0, 8)] [] V V110 := ajV110
          have agV110 : agr [(0, 7), (0, 8), (0, 48), (0, 50)] [35, 36, 37, 38, 45, 46, 47] V V110 := agV.tr ajV110 (by decide) (by decide)
          have t109 : 1 ≤ (V110 0 8).toInt := t109
          have r112 : 0 ≤ ((V110 0 8)).toInt ∧ ((V110 0 8)).toInt ≤ 70000 := hMV110 0 8
          refine lv_aload_n hx hb dX12_part_43 rfl (lv_at hl 0 rfl) ?_
          refine lv_dup hx hb dX12_part_44 rfl ?_
          refine va_get (D := D) (ci := 12) (v := .int (V110 0 50)) (C := RX12) (T := TX12) (N := 100) hx hb hg inX12 hown hK hP 0 rfl rfl 50 (by decide) (hg _ w1756) (fun _ h9 => h9) rfl dX12_part_45 ?_
          refine g_top (v := (V 0 50)) (ajV110 0 50 rfl) ?_
          refine lv_iconst (v := 1) hx hb dX12_part_48 (by decide) ?_
          refine lv_iadd hx hb dX12_part_49 ?_
          refine lv_topi (fun z113 ez113 => ?_)
          have hz113 : z113.toInt = ((V 0 50)).toInt + 1 := i_add ez113 rfl (by decide) (by omega)
          refine va_put (D := D) (ci := 12) (v := .int z113) (ty := tyX12 50) (C := RX12) (T := TX12) (N := 100) hx hb hg inX12 tyX12 tyX12_ok nmX12 hown hK hP hD hS 0 rfl rfl 50 (by decide) (hg _ w1756) (fun _ h9 => h9) rfl (tyX12_ok 50 (by decide)) rfl rfl (Nat.le_of_ble_eq_true rfl) dX12_part_50 (fun H locs hP hD hS => ?_)
          obtain ⟨V114, hV114⟩ : ∃ z, z = up2 V110 0 50 z113 := ⟨_, rfl⟩
          have hP : va_P D vwCl (mw ad kk ks.1 V114 L) H := by rw [hV114]; exact hP
          have hD : va_D A (mw ad kk ks.1 V114 L) := by rw [hV114]; exact hD
          have hMV114 : rgd bM V114 := hMV110.put hV114 (show 0 ≤ z113.toInt ∧ z113.toInt ≤ 9 from by first | omega | ((try (have i_t32 := Imp.go t32 (by omega))); (try (have i_cw := Imp.go cw (by omega))); (try (have i_c1 := Imp.go c1 (by omega))); (try (have i_x3 := Imp.go x3 (by omega))); first | omega | ((try (have i_x3 := Imp.go x3 (by omega))); (try (have i_c1 := Imp.go c1 (by omega))); (try (have i_cw := Imp.go cw (by omega))); (try (have i_t32 := Imp.go t32 (by omega))); omega)))
          have agV114 : agr [(0, 7), (0, 8), (0, 48), (0, 50)] [35, 36, 37, 38, 45, 46, 47] V V114 := agV110.up hV114 rfl
          refine lv_aload_n hx hb dX12_part_53 rfl (lv_at hl 0 rfl) ?_
          refine va_get (D := D) (ci := 12) (v := .int (V114 0 8)) (C := RX12) (T := TX12) (N := 100) hx hb hg inX12 hown hK hP 0 rfl rfl 8 (by decide) (hg _ w1714) (fun _ h9 => h9) rfl dX12_part_54 ?_
          refine g_top (v := (V110 0 8)) (up2_k hV114 (by decide)) ?_
          refine lv_if_ne (tgt := 72) hx hb dX12_part_57 (by decide) (fun c115 => ?_) (fun c115 => ?_)
          · skip
            have f116 : ((V110 0 8)).toInt ≠ 0 := b_neq rfl (by decide) c115
            refine lv_aload_n hx hb dX12_part_72 rfl (lv_at hl 0 rfl) ?_
            refine lv_dup hx hb dX12_part_73 rfl ?_
            refine va_get (D := D) (ci := 12) (v := .int (V114 0 50)) (C := RX12) (T := TX12) (N := 100) hx hb hg inX12 hown hK hP 0 rfl rfl 50 (by decide) (hg _ w1756) (fun _ h9 => h9) rfl dX12_part_74 ?_
            refine g_top (v := z113) (up2_s hV114) ?_
            refine lv_iconst (v := 1) hx hb dX12_part_77 (by decide) ?_
            refine lv_isub hx hb dX12_part_78 ?_
            refine lv_topi (fun z117 ez117 => ?_)
            have hz117 : z117.toInt = z113.toInt - 1 := i_sub ez117 rfl (by decide) (by omega)
            refine va_put (D := D) (ci := 12) (v := .int z117) (ty := tyX12 50) (C := RX12) (T := TX12) (N := 100) hx hb hg inX12 tyX12 tyX12_ok nmX12 hown hK hP hD hS 0 rfl rfl 50 (by decide) (hg _ w1756) (fun _ h9 => h9) rfl (tyX12_ok 50 (by decide)) rfl rfl (Nat.le_of_ble_eq_true rfl) dX12_part_79 (fun H locs hP hD hS => ?_)
            obtain ⟨V118, hV118⟩ : ∃ z, z = up2 V114 0 50 z117 := ⟨_, rfl⟩
            have hP : va_P D vwCl (mw ad kk ks.1 V118 L) H := by rw [hV118]; exact hP
            have hD : va_D A (mw ad kk ks.1 V118 L) := by rw [hV118]; exact hD
            have hMV118 : rgd bM V118 := hMV114.put hV118 (show 0 ≤ z117.toInt ∧ z117.toInt ≤ 9 from by first | omega | ((try (have i_t32 := Imp.go t32 (by omega))); (try (have i_cw := Imp.go cw (by omega))); (try (have i_c1 := Imp.go c1 (by omega))); (try (have i_x3 := Imp.go x3 (by omega))); first | omega | ((try (have i_x3 := Imp.go x3 (by omega))); (try (have i_c1 := Imp.go c1 (by omega))); (try (have i_cw := Imp.go cw (by omega))); (try (have i_t32 := Imp.go t32 (by omega))); omega)))
            have agV118 : agr [(0, 7), (0, 8), (0, 48), (0, 50)] [35, 36, 37, 38, 45, 46, 47] V V118 := agV114.up hV118 rfl
            have pq119 : (V118 0 7).toInt = ((V 0 7)).toInt := congrArg Int32.toInt ((up2_k hV118 (by decide)).trans ((up2_k hV114 (by decide)).trans (ajV110 0 7 rfl)))
            have pq120 : (V118 0 8).toInt = ((V110 0 8)).toInt := congrArg Int32.toInt ((up2_k hV118 (by decide)).trans (up2_k hV114 (by decide)))
            have pq121 : (V118 0 48).toInt = ((V 0 48)).toInt := congrArg Int32.toInt ((up2_k hV118 (by decide)).trans ((up2_k hV114 (by decide)).trans (ajV110 0 48 rfl)))
            have pq122 : (V118 0 50).toInt = z117.toInt := congrArg Int32.toInt (up2_s hV118)
            have hpV := pA_i hMV
            have heV := pE_i hMV
            have r123 : 0 ≤ ((V 0 49)).toInt ∧ ((V 0 49)).toInt ≤ 10000 := hMV 0 49
            have r124 : 0 ≤ (V 0 48).toInt ∧ (V 0 48).toInt ≤ 10000 := hMV 0 48
            have r125 : 0 ≤ (V 0 49).toInt ∧ (V 0 49).toInt ≤ 10000 := hMV 0 49
            have sx126 : sameX V V118 (pA V) (pE V) := (sameX.tr (sameX.tr ((sameX.agr ajV110 (fun _ => rfl) (fun _ => rfl) (fun _ => rfl)) : sameX V V110 (pA V) (pE V)) ((sameX.up hV114 (by decide) (by decide) (by decide)) : sameX V110 V114 (pA V) (pE V)) (Nat.le_refl _)) ((sameX.up hV118 (by decide) (by decide) (by decide)) : sameX V114 V118 (pA V) (pE V)) (Nat.le_refl _))
            have hpV118 := pA_i hMV118
            have heV118 := pE_i hMV118
            have pq127 : (V118 0 49).toInt = ((V 0 49)).toInt := congrArg Int32.toInt ((up2_k hV118 (by decide)).trans ((up2_k hV114 (by decide)).trans (ajV110 0 49 rfl)))
            have r128 : 0 ≤ (V118 0 48).toInt ∧ (V118 0 48).toInt ≤ 10000 := hMV118 0 48
            have r129 : 0 ≤ (V118 0 49).toInt ∧ (V118 0 49).toInt ≤ 10000 := hMV118 0 49
            have wr130 : Imp ((V118 0 8).toInt = 0) (WE nd ar V118 hh (pA V) (pA V118)) := Imp.mk (fun hp => by exfalso; first | omega | ((try (have i_t32 := Imp.go t32 (by omega))); (try (have i_cw := Imp.go cw (by omega))); (try (have i_c1 := Imp.go c1 (by omega))); (try (have i_x3 := Imp.go x3 (by omega))); first | omega | ((try (have i_x3 := Imp.go x3 (by omega))); (try (have i_c1 := Imp.go c1 (by omega))); (try (have i_cw := Imp.go cw (by omega))); (try (have i_t32 := Imp.go t32 (by omega))); omega)))
            exact W.vret hx hb hr (fun t ht hW => ⟨⟨(V118, L), rfl, ⟨hMV118, agV118, alL, (Imp.mk (fun hp => have hp : (V118 0 8).toInt = 0 := hp; (show 0 ≤ (V118 0 7).toInt ∧ (V118 0 7).toInt ≤ n ∧ (V 0 8).toInt = 0 ∧ (V 0 7).toInt ≤ (V118 0 7).toInt from by first | omega | ((try (have i_t32 := Imp.go t32 (by omega))); (try (have i_cw := Imp.go cw (by omega))); (try (have i_c1 := Imp.go c1 (by omega))); (try (have i_x3 := Imp.go x3 (by omega))); first | omega | ((try (have i_x3 := Imp.go x3 (by omega))); (try (have i_c1 := Imp.go c1 (by omega))); (try (have i_cw := Imp.go cw (by omega))); (try (have i_t32 := Imp.go t32 (by omega))); omega))))), (Imp.mk (fun hp => have hp : (V118 0 8).toInt = 0 := hp; (show (V118 0 48).toInt - (V 0 48).toInt ≤ 2 * ((V118 0 7).toInt - (V 0 7).toInt) from by first | omega | ((try (have i_t32 := Imp.go t32 (by omega))); (try (have i_cw := Imp.go cw (by omega))); (try (have i_c1 := Imp.go c1 (by omega))); (try (have i_x3 := Imp.go x3 (by omega))); first | omega | ((try (have i_x3 := Imp.go x3 (by omega))); (try (have i_c1 := Imp.go c1 (by omega))); (try (have i_cw := Imp.go cw (by omega))); (try (have i_t32 := Imp.go t32 (by omega))); omega))))), (show (V 0 48).toInt ≤ (V118 0 48).toInt from by first | omega | ((try (have i_t32 := Imp.go t32 (by omega))); (try (have i_cw := Imp.go cw (by omega))); (try (have i_c1 := Imp.go c1 (by omega))); (try (have i_x3 := Imp.go x3 (by omega))); first | omega | ((try (have i_x3 := Imp.go x3 (by omega))); (try (have i_c1 := Imp.go c1 (by omega))); (try (have i_cw := Imp.go cw (by omega))); (try (have i_t32 := Imp.go t32 (by omega))); omega))), (show (V118 0 48).toInt ≤ 8000 + xx + 48 - 6 * (V 0 50).toInt from by first | omega | ((try (have i_t32 := Imp.go t32 (by omega))); (try (have i_cw := Imp.go cw (by omega))); (try (have i_c1 := Imp.go c1 (by omega))); (try (have i_x3 := Imp.go x3 (by omega))); first | omega | ((try (have i_x3 := Imp.go x3 (by omega))); (try (have i_c1 := Imp.go c1 (by omega))); (try (have i_cw := Imp.go cw (by omega))); (try (have i_t32 := Imp.go t32 (by omega))); omega))), (Imp.mk (fun hp => have hp : 1 ≤ (V 0 8).toInt := hp; (show (V118 0 48).toInt = (V 0 48).toInt from by first | omega | ((try (have i_t32 := Imp.go t32 (by omega))); (try (have i_cw := Imp.go cw (by omega))); (try (have i_c1 := Imp.go c1 (by omega))); (try (have i_x3 := Imp.go x3 (by omega))); first | omega | ((try (have i_x3 := Imp.go x3 (by omega))); (try (have i_c1 := Imp.go c1 (by omega))); (try (have i_cw := Imp.go cw (by omega))); (try (have i_t32 := Imp.go t32 (by omega))); omega))))), (show (V118 0 50).toInt = (V 0 50).toInt from by first | omega | ((try (have i_t32 := Imp.go t32 (by omega))); (try (have i_cw := Imp.go cw (by omega))); (try (have i_c1 := Imp.go c1 (by omega))); (try (have i_x3 := Imp.go x3 (by omega))); first | omega | ((try (have i_x3 := Imp.go x3 (by omega))); (try (have i_c1 := Imp.go c1 (by omega))); (try (have i_cw := Imp.go cw (by omega))); (try (have i_t32 := Imp.go t32 (by omega))); omega))), sx126, wr130⟩, by rw [ht]; exact hP, va_K.moved hW.alike hK, hD⟩, hS.F ht⟩) hS.2.2 dX12_part_82
          · skip
            have f131 : ((V110 0 8)).toInt = 0 := b_eq rfl (by decide) c115
            exfalso; first | omega | ((try (have i_t32 := Imp.go t32 (by omega))); (try (have i_cw := Imp.go cw (by omega))); (try (have i_c1 := Imp.go c1 (by omega))); (try (have i_x3 := Imp.go x3 (by omega))); first | omega | ((try (have i_x3 := Imp.go x3 (by omega))); (try (have i_c1 := Imp.go c1 (by omega))); (try (have i_cw := Imp.go cw (by omega))); (try (have i_t32 := Imp.go t32 (by omega))); omega))
    · skip
      have f132 : z29.toInt = 0 := b_eq rfl (by decide) c35
      refine lv_aload_n hx hb dX12_part_14 rfl (lv_at hl 0 rfl) ?_
      refine lv_iconst (v := 1) hx hb dX12_part_15 (by decide) ?_
      have r133 : Int32.toInt 1 = 1 := by decide
      refine gA_void (gA_runV (As := [.int 1]) (rest := []) (ci := 12) (q0 := 0) hx hb hml hown hg hP hD hK hS hA hnw hgk (s_wrong l D ks H.size ad kk V L 1 (n) hMV (by decide) (show (V 4 (n)).toInt = 0 from by first | omega | ((try (have i_t32 := Imp.go t32 (by omega))); (try (have i_cw := Imp.go cw (by omega))); (try (have i_c1 := Imp.go c1 (by omega))); (try (have i_x3 := Imp.go x3 (by omega))); first | omega | ((try (have i_x3 := Imp.go x3 (by omega))); (try (have i_c1 := Imp.go c1 (by omega))); (try (have i_cw := Imp.go cw (by omega))); (try (have i_t32 := Imp.go t32 (by omega))); omega))) (show (n) ≤ 4000 from by first | omega | ((try (have i_t32 := Imp.go t32 (by omega))); (try (have i_cw := Imp.go cw (by omega))); (try (have i_c1 := Imp.go c1 (by omega))); (try (have i_x3 := Imp.go x3 (by omega))); first | omega | ((try (have i_x3 := Imp.go x3 (by omega))); (try (have i_c1 := Imp.go c1 (by omega))); (try (have i_cw := Imp.go cw (by omega))); (try (have i_t32 := Imp.go t32 (by omega))); omega))) (Imp.mk (fun hp => have hp : (V 0 8).toInt = 0 := hp; (show 0 ≤ (V 0 7).toInt ∧ (V 0 7).toInt ≤ (n) from by first | omega | ((try (have i_t32 := Imp.go t32 (by omega))); (try (have i_cw := Imp.go cw (by omega))); (try (have i_c1 := Imp.go c1 (by omega))); (try (have i_x3 := Imp.go x3 (by omega))); first | omega | ((try (have i_x3 := Imp.go x3 (by omega))); (try (have i_c1 := Imp.go c1 (by omega))); (try (have i_cw := Imp.go cw (by omega))); (try (have i_t32 := Imp.go t32 (by omega))); omega)))))) w2035 w2037 w86 w172 w2038 rfl rfl hdV_yX12_wrong ⟨(by show 0 + 1 ≤ 10 * dd + 10; omega), (by show 8 + (2 + 11) + (0) ≤ 300 * dd + 300; omega)⟩ rfl hl.1 rfl (Nat.le_of_ble_eq_true rfl) dX12_part_16 ⟨Nat.le_of_ble_eq_true rfl, Nat.le_of_ble_eq_true rfl⟩) hP hD hK hS hA (fun u135 H locs w136 hP hD hK hS => ?_)
      obtain ⟨V138, L139⟩ := u135
      obtain ⟨hMV138, ajV138, axL139, t137⟩ := w136
      have axL139 : L = L139 := Eq.symm axL139
      subst axL139
      have hP : va_P D vwCl (mw ad kk ks.1 V138 L) H := hP
      have hD : va_D A (mw ad kk ks.1 V138 L) := hD
      have hMV138 : rgd bM V138 := hMV138
      have ajV138 : agr [(0, 8)] [] V V138 := ajV138
      have agV138 : agr [(0, 7), (0, 8), (0, 48), (0, 50)] [35, 36, 37, 38, 45, 46, 47] V V138 := agV.tr ajV138 (by decide) (by decide)
      have t137 : 1 ≤ (V138 0 8).toInt := t137
      have r140 : 0 ≤ ((V138 0 8)).toInt ∧ ((V138 0 8)).toInt ≤ 70000 := hMV138 0 8
      refine lv_goto (tgt := 43) hx hb dX12_part_19 (by decide) ?_
      refine lv_aload_n hx hb dX12_part_43 rfl (lv_at hl 0 rfl) ?_
      refine lv_dup hx hb dX12_part_44 rfl ?_
      refine va_get (D := D) (ci := 12) (v := .int (V138 0 50)) (C := RX12) (T := TX12) (N := 100) hx hb hg inX12 hown hK hP 0 rfl rfl 50 (by decide) (hg _ w1756) (fun _ h9 => h9) rfl dX12_part_45 ?_
      refine g_top (v := (V 0 50)) (ajV138 0 50 rfl) ?_
      refine lv_iconst (v := 1) hx hb dX12_part_48 (by decide) ?_
      refine lv_iadd hx hb dX12_part_49 ?_
      refine lv_topi (fun z141 ez141 => ?_)
      have hz141 : z141.toInt = ((V 0 50)).toInt + 1 := i_add ez141 rfl (by decide) (by omega)
      refine va_put (D := D) (ci := 12) (v := .int z141) (ty := tyX12 50) (C := RX12) (T := TX12) (N := 100) hx hb hg inX12 tyX12 tyX12_ok nmX12 hown hK hP hD hS 0 rfl rfl 50 (by decide) (hg _ w1756) (fun _ h9 => h9) rfl (tyX12_ok 50 (by decide)) rfl rfl (Nat.le_of_ble_eq_true rfl) dX12_part_50 (fun H locs hP hD hS => ?_)
      obtain ⟨V142, hV142⟩ : ∃ z, z = up2 V138 0 50 z141 := ⟨_, rfl⟩
      have hP : va_P D vwCl (mw ad kk ks.1 V142 L) H := by rw [hV142]; exact hP
      have hD : va_D A (mw ad kk ks.1 V142 L) := by rw [hV142]; exact hD
      have hMV142 : rgd bM V142 := hMV138.put hV142 (show 0 ≤ z141.toInt ∧ z141.toInt ≤ 9 from by first | omega | ((try (have i_t32 := Imp.go t32 (by omega))); (try (have i_cw := Imp.go cw (by omega))); (try (have i_c1 := Imp.go c1 (by omega))); (try (have i_x3 := Imp.go x3 (by omega))); first | omega | ((try (have i_x3 := Imp.go x3 (by omega))); (try (have i_c1 := Imp.go c1 (by omega))); (try (have i_cw := Imp.go cw (by omega))); (try (have i_t32 := Imp.go t32 (by omega))); omega)))
      have agV142 : agr [(0, 7), (0, 8), (0, 48), (0, 50)] [35, 36, 37, 38, 45, 46, 47] V V142 := agV138.up hV142 rfl
      refine lv_aload_n hx hb dX12_part_53 rfl (lv_at hl 0 rfl) ?_
      refine va_get (D := D) (ci := 12) (v := .int (V142 0 8)) (C := RX12) (T := TX12) (N := 100) hx hb hg inX12 hown hK hP 0 rfl rfl 8 (by decide) (hg _ w1714) (fun _ h9 => h9) rfl dX12_part_54 ?_
      refine g_top (v := (V138 0 8)) (up2_k hV142 (by decide)) ?_
      refine lv_if_ne (tgt := 72) hx hb dX12_part_57 (by decide) (fun c143 => ?_) (fun c143 => ?_)
      · skip
        have f144 : ((V138 0 8)).toInt ≠ 0 := b_neq rfl (by decide) c143
        refine lv_aload_n hx hb dX12_part_72 rfl (lv_at hl 0 rfl) ?_
        refine lv_dup hx hb dX12_part_73 rfl ?_
        refine va_get (D := D) (ci := 12) (v := .int (V142 0 50)) (C := RX12) (T := TX12) (N := 100) hx hb hg inX12 hown hK hP 0 rfl rfl 50 (by decide) (hg _ w1756) (fun _ h9 => h9) rfl dX12_part_74 ?_
        refine g_top (v := z141) (up2_s hV142) ?_
        refine lv_iconst (v := 1) hx hb dX12_part_77 (by decide) ?_
        refine lv_isub hx hb dX12_part_78 ?_
        refine lv_topi (fun z145 ez145 => ?_)
        have hz145 : z145.toInt = z141.toInt - 1 := i_sub ez145 rfl (by decide) (by omega)
        refine va_put (D := D) (ci := 12) (v := .int z145) (ty := tyX12 50) (C := RX12) (T := TX12) (N := 100) hx hb hg inX12 tyX12 tyX12_ok nmX12 hown hK hP hD hS 0 rfl rfl 50 (by decide) (hg _ w1756) (fun _ h9 => h9) rfl (tyX12_ok 50 (by decide)) rfl rfl (Nat.le_of_ble_eq_true rfl) dX12_part_79 (fun H locs hP hD hS => ?_)
        obtain ⟨V146, hV146⟩ : ∃ z, z = up2 V142 0 50 z145 := ⟨_, rfl⟩
        have hP : va_P D vwCl (mw ad kk ks.1 V146 L) H := by rw [hV146]; exact hP
        have hD : va_D A (mw ad kk ks.1 V146 L) := by rw [hV146]; exact hD
        have hMV146 : rgd bM V146 := hMV142.put hV146 (show 0 ≤ z145.toInt ∧ z145.toInt ≤ 9 from by first | omega | ((try (have i_t32 := Imp.go t32 (by omega))); (try (have i_cw := Imp.go cw (by omega))); (try (have i_c1 := Imp.go c1 (by omega))); (try (have i_x3 := Imp.go x3 (by omega))); first | omega | ((try (have i_x3 := Imp.go x3 (by omega))); (try (have i_c1 := Imp.go c1 (by omega))); (try (have i_cw := Imp.go cw (by omega))); (try (have i_t32 := Imp.go t32 (by omega))); omega)))
        have agV146 : agr [(0, 7), (0, 8), (0, 48), (0, 50)] [35, 36, 37, 38, 45, 46, 47] V V146 := agV142.up hV146 rfl
        have pq147 : (V146 0 7).toInt = ((V 0 7)).toInt := congrArg Int32.toInt ((up2_k hV146 (by decide)).trans ((up2_k hV142 (by decide)).trans (ajV138 0 7 rfl)))
        have pq148 : (V146 0 8).toInt = ((V138 0 8)).toInt := congrArg Int32.toInt ((up2_k hV146 (by decide)).trans (up2_k hV142 (by decide)))
        have pq149 : (V146 0 48).toInt = ((V 0 48)).toInt := congrArg Int32.toInt ((up2_k hV146 (by decide)).trans ((up2_k hV142 (by decide)).trans (ajV138 0 48 rfl)))
        have pq150 : (V146 0 50).toInt = z145.toInt := congrArg Int32.toInt (up2_s hV146)
        have hpV := pA_i hMV
        have heV := pE_i hMV
        have r151 : 0 ≤ ((V 0 49)).toInt ∧ ((V 0 49)).toInt ≤ 10000 := hMV 0 49
        have r152 : 0 ≤ (V 0 48).toInt ∧ (V 0 48).toInt ≤ 10000 := hMV 0 48
        have r153 : 0 ≤ (V 0 49).toInt ∧ (V 0 49).toInt ≤ 10000 := hMV 0 49
        have sx154 : sameX V V146 (pA V) (pE V) := (sameX.tr (sameX.tr ((sameX.agr ajV138 (fun _ => rfl) (fun _ => rfl) (fun _ => rfl)) : sameX V V138 (pA V) (pE V)) ((sameX.up hV142 (by decide) (by decide) (by decide)) : sameX V138 V142 (pA V) (pE V)) (Nat.le_refl _)) ((sameX.up hV146 (by decide) (by decide) (by decide)) : sameX V142 V146 (pA V) (pE V)) (Nat.le_refl _))
        have hpV146 := pA_i hMV146
        have heV146 := pE_i hMV146
        have pq155 : (V146 0 49).toInt = ((V 0 49)).toInt := congrArg Int32.toInt ((up2_k hV146 (by decide)).trans ((up2_k hV142 (by decide)).trans (ajV138 0 49 rfl)))
        have r156 : 0 ≤ (V146 0 48).toInt ∧ (V146 0 48).toInt ≤ 10000 := hMV146 0 48
        have r157 : 0 ≤ (V146 0 49).toInt ∧ (V146 0 49).toInt ≤ 10000 := hMV146 0 49
        have wr158 : Imp ((V146 0 8).toInt = 0) (WE nd ar V146 hh (pA V) (pA V146)) := Imp.mk (fun hp => by exfalso; first | omega | ((try (have i_t32 := Imp.go t32 (by omega))); (try (have i_cw := Imp.go cw (by omega))); (try (have i_c1 := Imp.go c1 (by omega))); (try (have i_x3 := Imp.go x3 (by omega))); first | omega | ((try (have i_x3 := Imp.go x3 (by omega))); (try (have i_c1 := Imp.go c1 (by omega))); (try (have i_cw := Imp.go cw (by omega))); (try (have i_t32 := Imp.go t32 (by omega))); omega)))
        exact W.vret hx hb hr (fun t ht hW => ⟨⟨(V146, L), rfl, ⟨hMV146, agV146, alL, (Imp.mk (fun hp => have hp : (V146 0 8).toInt = 0 := hp; (show 0 ≤ (V146 0 7).toInt ∧ (V146 0 7).toInt ≤ n ∧ (V 0 8).toInt = 0 ∧ (V 0 7).toInt ≤ (V146 0 7).toInt from by first | omega | ((try (have i_t32 := Imp.go t32 (by omega))); (try (have i_cw := Imp.go cw (by omega))); (try (have i_c1 := Imp.go c1 (by omega))); (try (have i_x3 := Imp.go x3 (by omega))); first | omega | ((try (have i_x3 := Imp.go x3 (by omega))); (try (have i_c1 := Imp.go c1 (by omega))); (try (have i_cw := Imp.go cw (by omega))); (try (have i_t32 := Imp.go t32 (by omega))); omega))))), (Imp.mk (fun hp => have hp : (V146 0 8).toInt = 0 := hp; (show (V146 0 48).toInt - (V 0 48).toInt ≤ 2 * ((V146 0 7).toInt - (V 0 7).toInt) from by first | omega | ((try (have i_t32 := Imp.go t32 (by omega))); (try (have i_cw := Imp.go cw (by omega))); (try (have i_c1 := Imp.go c1 (by omega))); (try (have i_x3 := Imp.go x3 (by omega))); first | omega | ((try (have i_x3 := Imp.go x3 (by omega))); (try (have i_c1 := Imp.go c1 (by omega))); (try (have i_cw := Imp.go cw (by omega))); (try (have i_t32 := Imp.go t32 (by omega))); omega))))), (show (V 0 48).toInt ≤ (V146 0 48).toInt from by first | omega | ((try (have i_t32 := Imp.go t32 (by omega))); (try (have i_cw := Imp.go cw (by omega))); (try (have i_c1 := Imp.go c1 (by omega))); (try (have i_x3 := Imp.go x3 (by omega))); first | omega | ((try (have i_x3 := Imp.go x3 (by omega))); (try (have i_c1 := Imp.go c1 (by omega))); (try (have i_cw := Imp.go cw (by omega))); (try (have i_t32 := Imp.go t32 (by omega))); omega))), (show (V146 0 48).toInt ≤ 8000 + xx + 48 - 6 * (V 0 50).toInt from by first | omega | ((try (have i_t32 := Imp.go t32 (by omega))); (try (have i_cw := Imp.go cw (by omega))); (try (have i_c1 := Imp.go c1 (by omega))); (try (have i_x3 := Imp.go x3 (by omega))); first | omega | ((try (have i_x3 := Imp.go x3 (by omega))); (try (have i_c1 := Imp.go c1 (by omega))); (try (have i_cw := Imp.go cw (by omega))); (try (have i_t32 := Imp.go t32 (by omega))); omega))), (Imp.mk (fun hp => have hp : 1 ≤ (V 0 8).toInt := hp; (show (V146 0 48).toInt = (V 0 48).toInt from by first | omega | ((try (have i_t32 := Imp.go t32 (by omega))); (try (have i_cw := Imp.go cw (by omega))); (try (have i_c1 := Imp.go c1 (by omega))); (try (have i_x3 := Imp.go x3 (by omega))); first | omega | ((try (have i_x3 := Imp.go x3 (by omega))); (try (have i_c1 := Imp.go c1 (by omega))); (try (have i_cw := Imp.go cw (by omega))); (try (have i_t32 := Imp.go t32 (by omega))); omega))))), (show (V146 0 50).toInt = (V 0 50).toInt from by first | omega | ((try (have i_t32 := Imp.go t32 (by omega))); (try (have i_cw := Imp.go cw (by omega))); (try (have i_c1 := Imp.go c1 (by omega))); (try (have i_x3 := Imp.go x3 (by omega))); first | omega | ((try (have i_x3 := Imp.go x3 (by omega))); (try (have i_c1 := Imp.go c1 (by omega))); (try (have i_cw := Imp.go cw (by omega))); (try (have i_t32 := Imp.go t32 (by omega))); omega))), sx154, wr158⟩, by rw [ht]; exact hP, va_K.moved hW.alike hK, hD⟩, hS.F ht⟩) hS.2.2 dX12_part_82
      · skip
        have f159 : ((V138 0 8)).toInt = 0 := b_eq rfl (by decide) c143
        exfalso; first | omega | ((try (have i_t32 := Imp.go t32 (by omega))); (try (have i_cw := Imp.go cw (by omega))); (try (have i_c1 := Imp.go c1 (by omega))); (try (have i_x3 := Imp.go x3 (by omega))); first | omega | ((try (have i_x3 := Imp.go x3 (by omega))); (try (have i_c1 := Imp.go c1 (by omega))); (try (have i_cw := Imp.go cw (by omega))); (try (have i_t32 := Imp.go t32 (by omega))); omega))
theorem K_part {l : Launch} {D : va_G} {ks : KS} : ∀ dd, K_s_part l D ks dd
  | 0 => s_part (fun d9 h => absurd h (by omega))
  | d + 1 => by
    refine s_part (fun d9 h => ?_)
    have e : d9 = d := by omega
    subst e
    have k1 := K_part (l := l) (D := D) (ks := ks) d9
    have k2 := s_product k1
    have k3 := s_sum k2
    have k4 := s_expression k3
    exact s_partWithin k4 k1 (s_bracketed k4) (s_pick k4)
theorem K_expr {l : Launch} {D : va_G} {ks : KS} (dd : Nat) : K_s_expression l D ks dd := s_expression (s_sum (s_product (K_part dd)))
