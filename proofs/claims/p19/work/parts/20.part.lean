section
theorem w1756 : Cond.fieldLink RX12 377 "WiringHouseModel" "deep" "I" ∈ GW := gw_k tk9_7 161 (by decide +kernel) rfl
theorem w2135 : Cond.code yX12_isPart cX12_isPart 1 (some .boolean) ∈ GW := gw_k tk9_9 60 (rfl) rfl
theorem w2132 : Cond.methodLink RX12 396 yX12_isPart ∈ GW := gw_k tk9_9 57 (by decide +kernel) rfl
theorem w2134 : Cond.instanceMethod yX12_isPart ∈ GW := gw_k tk9_9 59 (by decide +kernel) rfl
theorem w110 : Cond.selects RX12 yX12_isPart yX12_isPart ∈ GW := gw_mem 110 (by decide +kernel) rfl
theorem hdV_yX12_isPart : yX12_isPart.cls = RX12 ∧ yX12_isPart.cls ≠ "java/lang/invoke/MethodHandle" ∧ yX12_isPart.cls ≠ "java/lang/invoke/VarHandle" ∧ (parseMethodDescriptor yX12_isPart.desc).map (fun d => d.parameters.length) = some 0 := by decide +kernel
theorem w2143 : Cond.code yX12_partWithin cX12_partWithin 4 none ∈ GW := gw_k tk9_9 68 (rfl) rfl
theorem w2140 : Cond.methodLink RX12 399 yX12_partWithin ∈ GW := gw_k tk9_9 65 (by decide +kernel) rfl
theorem w2142 : Cond.instanceMethod yX12_partWithin ∈ GW := gw_k tk9_9 67 (by decide +kernel) rfl
theorem w112 : Cond.selects RX12 yX12_partWithin yX12_partWithin ∈ GW := gw_mem 112 (by decide +kernel) rfl
theorem hdV_yX12_partWithin : yX12_partWithin.cls = RX12 ∧ yX12_partWithin.cls ≠ "java/lang/invoke/MethodHandle" ∧ yX12_partWithin.cls ≠ "java/lang/invoke/VarHandle" ∧ (parseMethodDescriptor yX12_partWithin.desc).map (fun d => d.parameters.length) = some 0 := by decide +kernel
theorem dk9_dX12_part_0_0 : dOk cX12_part [(0, .aload_n 0, 1), (1, .getfield 267, 3), (4, .ifCond .ne 18, 3), (22, .aload_n 0, 1), (23, .getfield 267, 3), (26, .ifCond .ne 17, 3), (43, .aload_n 0, 1), (44, .dup, 1), (45, .getfield 377, 3), (48, .iconst 1, 1), (49, .iadd, 1), (50, .putfield 377, 3), (53, .aload_n 0, 1), (54, .getfield 267, 3), (57, .ifCond .ne 15, 3), (72, .aload_n 0, 1), (73, .dup, 1), (74, .getfield 377, 3), (77, .iconst 1, 1), (78, .isub, 1), (79, .putfield 377, 3), (82, .return_, 1), (7, .aload_n 0, 1), (8, .invokevirtual 396, 3)] = true ∧ dOk cX12_part [(11, .ifCond .ne 11, 3), (29, .aload_n 0, 1), (30, .getfield 377, 3), (33, .bipush 8, 2), (35, .if_icmp .ne 8, 3), (60, .aload_n 0, 1), (61, .iconst 1, 1), (62, .iconst 0, 1), (63, .iconst 0, 1), (64, .invokevirtual 383, 3), (67, .istore_n 1, 1), (68, .aload_n 0, 1), (69, .invokevirtual 399, 3), (38, .aload_n 0, 1), (39, .iconst 5, 1), (40, .invokevirtual 273, 3), (14, .aload_n 0, 1), (15, .iconst 1, 1), (16, .invokevirtual 273, 3), (19, .goto 24, 3)] = true := by decide +kernel
theorem dX12_part_0 : decode cX12_part 0 = .ok (.aload_n 0, 1) := dr9 dk9_dX12_part_0_0.1 0 (0, .aload_n 0, 1) rfl
theorem dX12_part_1 : decode cX12_part 1 = .ok (.getfield 267, 3) := dr9 dk9_dX12_part_0_0.1 1 (1, .getfield 267, 3) rfl
theorem dX12_part_4 : decode cX12_part 4 = .ok (.ifCond .ne 18, 3) := dr9 dk9_dX12_part_0_0.1 2 (4, .ifCond .ne 18, 3) rfl
theorem dX12_part_22 : decode cX12_part 22 = .ok (.aload_n 0, 1) := dr9 dk9_dX12_part_0_0.1 3 (22, .aload_n 0, 1) rfl
theorem dX12_part_23 : decode cX12_part 23 = .ok (.getfield 267, 3) := dr9 dk9_dX12_part_0_0.1 4 (23, .getfield 267, 3) rfl
theorem dX12_part_26 : decode cX12_part 26 = .ok (.ifCond .ne 17, 3) := dr9 dk9_dX12_part_0_0.1 5 (26, .ifCond .ne 17, 3) rfl
theorem dX12_part_43 : decode cX12_part 43 = .ok (.aload_n 0, 1) := dr9 dk9_dX12_part_0_0.1 6 (43, .aload_n 0, 1) rfl
theorem dX12_part_44 : decode cX12_part 44 = .ok (.dup, 1) := dr9 dk9_dX12_part_0_0.1 7 (44, .dup, 1) rfl
theorem dX12_part_45 : decode cX12_part 45 = .ok (.getfield 377, 3) := dr9 dk9_dX12_part_0_0.1 8 (45, .getfield 377, 3) rfl
theorem dX12_part_48 : decode cX12_part 48 = .ok (.iconst 1, 1) := dr9 dk9_dX12_part_0_0.1 9 (48, .iconst 1, 1) rfl
theorem dX12_part_49 : decode cX12_part 49 = .ok (.iadd, 1) := dr9 dk9_dX12_part_0_0.1 10 (49, .iadd, 1) rfl
theorem dX12_part_50 : decode cX12_part 50 = .ok (.putfield 377, 3) := dr9 dk9_dX12_part_0_0.1 11 (50, .putfield 377, 3) rfl
theorem dX12_part_53 : decode cX12_part 53 = .ok (.aload_n 0, 1) := dr9 dk9_dX12_part_0_0.1 12 (53, .aload_n 0, 1) rfl
theorem dX12_part_54 : decode cX12_part 54 = .ok (.getfield 267, 3) := dr9 dk9_dX12_part_0_0.1 13 (54, .getfield 267, 3) rfl
theorem dX12_part_57 : decode cX12_part 57 = .ok (.ifCond .ne 15, 3) := dr9 dk9_dX12_part_0_0.1 14 (57, .ifCond .ne 15, 3) rfl
theorem dX12_part_72 : decode cX12_part 72 = .ok (.aload_n 0, 1) := dr9 dk9_dX12_part_0_0.1 15 (72, .aload_n 0, 1) rfl
theorem dX12_part_73 : decode cX12_part 73 = .ok (.dup, 1) := dr9 dk9_dX12_part_0_0.1 16 (73, .dup, 1) rfl
theorem dX12_part_74 : decode cX12_part 74 = .ok (.getfield 377, 3) := dr9 dk9_dX12_part_0_0.1 17 (74, .getfield 377, 3) rfl
theorem dX12_part_77 : decode cX12_part 77 = .ok (.iconst 1, 1) := dr9 dk9_dX12_part_0_0.1 18 (77, .iconst 1, 1) rfl
theorem dX12_part_78 : decode cX12_part 78 = .ok (.isub, 1) := dr9 dk9_dX12_part_0_0.1 19 (78, .isub, 1) rfl
theorem dX12_part_79 : decode cX12_part 79 = .ok (.putfield 377, 3) := dr9 dk9_dX12_part_0_0.1 20 (79, .putfield 377, 3) rfl
theorem dX12_part_82 : decode cX12_part 82 = .ok (.return_, 1) := dr9 dk9_dX12_part_0_0.1 21 (82, .return_, 1) rfl
theorem dX12_part_7 : decode cX12_part 7 = .ok (.aload_n 0, 1) := dr9 dk9_dX12_part_0_0.1 22 (7, .aload_n 0, 1) rfl
theorem dX12_part_8 : decode cX12_part 8 = .ok (.invokevirtual 396, 3) := dr9 dk9_dX12_part_0_0.1 23 (8, .invokevirtual 396, 3) rfl
theorem dX12_part_11 : decode cX12_part 11 = .ok (.ifCond .ne 11, 3) := dr9 dk9_dX12_part_0_0.2 0 (11, .ifCond .ne 11, 3) rfl
theorem dX12_part_29 : decode cX12_part 29 = .ok (.aload_n 0, 1) := dr9 dk9_dX12_part_0_0.2 1 (29, .aload_n 0, 1) rfl
theorem dX12_part_30 : decode cX12_part 30 = .ok (.getfield 377, 3) := dr9 dk9_dX12_part_0_0.2 2 (30, .getfield 377, 3) rfl
theorem dX12_part_33 : decode cX12_part 33 = .ok (.bipush 8, 2) := dr9 dk9_dX12_part_0_0.2 3 (33, .bipush 8, 2) rfl
theorem dX12_part_35 : decode cX12_part 35 = .ok (.if_icmp .ne 8, 3) := dr9 dk9_dX12_part_0_0.2 4 (35, .if_icmp .ne 8, 3) rfl
theorem dX12_part_60 : decode cX12_part 60 = .ok (.aload_n 0, 1) := dr9 dk9_dX12_part_0_0.2 5 (60, .aload_n 0, 1) rfl
theorem dX12_part_61 : decode cX12_part 61 = .ok (.iconst 1, 1) := dr9 dk9_dX12_part_0_0.2 6 (61, .iconst 1, 1) rfl
theorem dX12_part_62 : decode cX12_part 62 = .ok (.iconst 0, 1) := dr9 dk9_dX12_part_0_0.2 7 (62, .iconst 0, 1) rfl
theorem dX12_part_63 : decode cX12_part 63 = .ok (.iconst 0, 1) := dr9 dk9_dX12_part_0_0.2 8 (63, .iconst 0, 1) rfl
theorem dX12_part_64 : decode cX12_part 64 = .ok (.invokevirtual 383, 3) := dr9 dk9_dX12_part_0_0.2 9 (64, .invokevirtual 383, 3) rfl
theorem dX12_part_67 : decode cX12_part 67 = .ok (.istore_n 1, 1) := dr9 dk9_dX12_part_0_0.2 10 (67, .istore_n 1, 1) rfl
theorem dX12_part_68 : decode cX12_part 68 = .ok (.aload_n 0, 1) := dr9 dk9_dX12_part_0_0.2 11 (68, .aload_n 0, 1) rfl
theorem dX12_part_69 : decode cX12_part 69 = .ok (.invokevirtual 399, 3) := dr9 dk9_dX12_part_0_0.2 12 (69, .invokevirtual 399, 3) rfl
theorem dX12_part_38 : decode cX12_part 38 = .ok (.aload_n 0, 1) := dr9 dk9_dX12_part_0_0.2 13 (38, .aload_n 0, 1) rfl
theorem dX12_part_39 : decode cX12_part 39 = .ok (.iconst 5, 1) := dr9 dk9_dX12_part_0_0.2 14 (39, .iconst 5, 1) rfl
theorem dX12_part_40 : decode cX12_part 40 = .ok (.invokevirtual 273, 3) := dr9 dk9_dX12_part_0_0.2 15 (40, .invokevirtual 273, 3) rfl
theorem dX12_part_14 : decode cX12_part 14 = .ok (.aload_n 0, 1) := dr9 dk9_dX12_part_0_0.2 16 (14, .aload_n 0, 1) rfl
theorem dX12_part_15 : decode cX12_part 15 = .ok (.iconst 1, 1) := dr9 dk9_dX12_part_0_0.2 17 (15, .iconst 1, 1) rfl
theorem dX12_part_16 : decode cX12_part 16 = .ok (.invokevirtual 273, 3) := dr9 dk9_dX12_part_0_0.2 18 (16, .invokevirtual 273, 3) rfl
theorem dX12_part_19 : decode cX12_part 19 = .ok (.goto 24, 3) := dr9 dk9_dX12_part_0_0.2 19 (19, .goto 24, 3) rfl
set_option maxHeartbeats 4000000 in
set_option maxRecDepth 100000 in
theorem s_part {l : Launch} {D : va_G} {ks : KS} {dd : Nat} (hk_s_partWithin : ∀ d9, dd = d9 + 1 → K_s_partWithin l D ks d9) : K_s_part l D ks dd := by
  intro sz ad kk V L  n xx nd ar hh hMV x1 x2 x3 c1 c2 c3 c4 cw c9
  refine g_met (q_s_part D ks ad kk V L  n xx nd ar hh) (by decide) (Nat.le_of_ble_eq_true rfl) ?_
  intro p e s m below meth c A ls H locs hx hb hr hml hown hg hlocks hin hnw hgk hP hK hD hS hA hl
  have hown : s.vm.findClass RX12 = some m.cls := hown
  have hl : lv_has ls 2 [(0, .ref (ad 0))] := hl
  have hP : va_P D vwCl (mw ad kk ks.1 V L) H := hP
  have hD : va_D A (mw ad kk ks.1 V L) := hD
  have hK : va_K D vwCl (mty kk) s := hK
  have agV : agr [(0, 7), (0, 8), (0, 48), (0, 50)] [35, 36, 37, 38, 45, 46, 47] V V := agr.rf
  have alL : agL [35, 36, 37, 38, 45, 46, 47] L L := agL.rf
  have r1 : 0 ≤ ((V 0 8)).toInt ∧ ((V 0 8)).toInt ≤ 70000 := hMV 0 8
  have r2 : 0 ≤ ((V 0 48)).toInt ∧ ((V 0 48)).toInt ≤ 10000 := hMV 0 48
  have r3 : 0 ≤ ((V 0 50)).toInt ∧ ((V 0 50)).toInt ≤ 9 := hMV 0 50
  refine lv_aload_n hx hb dX12_part_0 rfl (lv_at hl 0 rfl) ?_
  refine va_get (D := D) (ci := 12) (v := .int (V 0 8)) (C := RX12) (T := TX12) (N := 100) hx hb hg inX12 hown hK hP 0 rfl rfl 8 (by decide) (hg _ w1714) (fun _ h9 => h9) rfl dX12_part_1 ?_
  refine lv_if_ne (tgt := 22) hx hb dX12_part_4 (by decide) (fun c4 => ?_) (fun c4 => ?_)
  · skip
    have f5 : ((V 0 8)).toInt ≠ 0 := b_neq rfl (by decide) c4
    refine lv_aload_n hx hb dX12_part_22 rfl (lv_at hl 0 rfl) ?_
    refine va_get (D := D) (ci := 12) (v := .int (V 0 8)) (C := RX12) (T := TX12) (N := 100) hx hb hg inX12 hown hK hP 0 rfl rfl 8 (by decide) (hg _ w1714) (fun _ h9 => h9) rfl dX12_part_23 ?_
    refine lv_if_ne (tgt := 43) hx hb dX12_part_26 (by decide) (fun c6 => ?_) (fun c6 => ?_)
    · skip
      have f7 : ((V 0 8)).toInt ≠ 0 := b_neq rfl (by decide) c6
      refine lv_aload_n hx hb dX12_part_43 rfl (lv_at hl 0 rfl) ?_
      refine lv_dup hx hb dX12_part_44 rfl ?_
      refine va_get (D := D) (ci := 12) (v := .int (V 0 50)) (C := RX12) (T := TX12) (N := 100) hx hb hg inX12 hown hK hP 0 rfl rfl 50 (by decide) (hg _ w1756) (fun _ h9 => h9) rfl dX12_part_45 ?_
      refine lv_iconst (v := 1) hx hb dX12_part_48 (by decide) ?_
      refine lv_iadd hx hb dX12_part_49 ?_
      refine lv_topi (fun z8 ez8 => ?_)
      have hz8 : z8.toInt = ((V 0 50)).toInt + 1 := i_add ez8 rfl (by decide) (by (first | exact om_bd3e92610e5a c4 r3.1 | omega))
      refine va_put (D := D) (ci := 12) (v := .int z8) (ty := tyX12 50) (C := RX12) (T := TX12) (N := 100) hx hb hg inX12 tyX12 tyX12_ok nmX12 hown hK hP hD hS 0 rfl rfl 50 (by decide) (hg _ w1756) (fun _ h9 => h9) rfl (tyX12_ok 50 (by decide)) rfl rfl (Nat.le_of_ble_eq_true rfl) dX12_part_50 (fun H locs hP hD hS => ?_)
      obtain ⟨V9, hV9⟩ : ∃ z, z = up2 V 0 50 z8 := ⟨_, rfl⟩
      have hP : va_P D vwCl (mw ad kk ks.1 V9 L) H := by rw [hV9]; exact hP
      have hD : va_D A (mw ad kk ks.1 V9 L) := by rw [hV9]; exact hD
      have hMV9 : rgd bM V9 := hMV.put hV9 (show 0 ≤ z8.toInt ∧ z8.toInt ≤ 9 from by first | exact om_8d7445b480e1 c4 r3.1 hz8 | first | omega | ((try (have i_cw := Imp.go cw (by omega))); (try (have i_c1 := Imp.go c1 (by omega))); (try (have i_x3 := Imp.go x3 (by omega))); (try (have i_x3 := Imp.go x3 (by omega))); (try (have i_c1 := Imp.go c1 (by omega))); (try (have i_cw := Imp.go cw (by omega))); omega))
      have agV9 : agr [(0, 7), (0, 8), (0, 48), (0, 50)] [35, 36, 37, 38, 45, 46, 47] V V9 := agV.up hV9 rfl
      refine lv_aload_n hx hb dX12_part_53 rfl (lv_at hl 0 rfl) ?_
      refine va_get (D := D) (ci := 12) (v := .int (V9 0 8)) (C := RX12) (T := TX12) (N := 100) hx hb hg inX12 hown hK hP 0 rfl rfl 8 (by decide) (hg _ w1714) (fun _ h9 => h9) rfl dX12_part_54 ?_
      refine g_top (v := (V 0 8)) (up2_k hV9 (by decide)) ?_
      refine lv_if_ne (tgt := 72) hx hb dX12_part_57 (by decide) (fun c10 => ?_) (fun c10 => ?_)
      · skip
        have f11 : ((V 0 8)).toInt ≠ 0 := b_neq rfl (by decide) c10
        refine lv_aload_n hx hb dX12_part_72 rfl (lv_at hl 0 rfl) ?_
        refine lv_dup hx hb dX12_part_73 rfl ?_
        refine va_get (D := D) (ci := 12) (v := .int (V9 0 50)) (C := RX12) (T := TX12) (N := 100) hx hb hg inX12 hown hK hP 0 rfl rfl 50 (by decide) (hg _ w1756) (fun _ h9 => h9) rfl dX12_part_74 ?_
        refine g_top (v := z8) (up2_s hV9) ?_
        refine lv_iconst (v := 1) hx hb dX12_part_77 (by decide) ?_
        refine lv_isub hx hb dX12_part_78 ?_
        refine lv_topi (fun z12 ez12 => ?_)
        have hz12 : z12.toInt = z8.toInt - 1 := i_sub ez12 rfl (by decide) (by (first | exact om_492a70219c59 c4 r3.1 hz8 | omega))
        refine va_put (D := D) (ci := 12) (v := .int z12) (ty := tyX12 50) (C := RX12) (T := TX12) (N := 100) hx hb hg inX12 tyX12 tyX12_ok nmX12 hown hK hP hD hS 0 rfl rfl 50 (by decide) (hg _ w1756) (fun _ h9 => h9) rfl (tyX12_ok 50 (by decide)) rfl rfl (Nat.le_of_ble_eq_true rfl) dX12_part_79 (fun H locs hP hD hS => ?_)
        obtain ⟨V13, hV13⟩ : ∃ z, z = up2 V9 0 50 z12 := ⟨_, rfl⟩
        have hP : va_P D vwCl (mw ad kk ks.1 V13 L) H := by rw [hV13]; exact hP
        have hD : va_D A (mw ad kk ks.1 V13 L) := by rw [hV13]; exact hD
        have hMV13 : rgd bM V13 := hMV9.put hV13 (show 0 ≤ z12.toInt ∧ z12.toInt ≤ 9 from by first | exact om_9895f85a8d60 c4 r3.1 hz8 hz12 | first | omega | ((try (have i_cw := Imp.go cw (by omega))); (try (have i_c1 := Imp.go c1 (by omega))); (try (have i_x3 := Imp.go x3 (by omega))); (try (have i_x3 := Imp.go x3 (by omega))); (try (have i_c1 := Imp.go c1 (by omega))); (try (have i_cw := Imp.go cw (by omega))); omega))
        have agV13 : agr [(0, 7), (0, 8), (0, 48), (0, 50)] [35, 36, 37, 38, 45, 46, 47] V V13 := agV9.up hV13 rfl
        have pq14 : (V13 0 7).toInt = ((V 0 7)).toInt := congrArg Int32.toInt ((up2_k hV13 (by decide)).trans (up2_k hV9 (by decide)))
        have pq15 : (V13 0 8).toInt = ((V 0 8)).toInt := congrArg Int32.toInt ((up2_k hV13 (by decide)).trans (up2_k hV9 (by decide)))
        have pq16 : (V13 0 48).toInt = ((V 0 48)).toInt := congrArg Int32.toInt ((up2_k hV13 (by decide)).trans (up2_k hV9 (by decide)))
        have pq17 : (V13 0 50).toInt = z12.toInt := congrArg Int32.toInt (up2_s hV13)
        have hpV := pA_i hMV
        have heV := pE_i hMV
        have r18 : 0 ≤ ((V 0 49)).toInt ∧ ((V 0 49)).toInt ≤ 10000 := hMV 0 49
        have r19 : 0 ≤ (V 0 48).toInt ∧ (V 0 48).toInt ≤ 10000 := hMV 0 48
        have r20 : 0 ≤ (V 0 49).toInt ∧ (V 0 49).toInt ≤ 10000 := hMV 0 49
        have sx21 : sameX V V13 (pA V) (pE V) := (sameX.tr ((sameX.up hV9 (by decide) (by decide) (by decide)) : sameX V V9 (pA V) (pE V)) ((sameX.up hV13 (by decide) (by decide) (by decide)) : sameX V9 V13 (pA V) (pE V)) (Nat.le_refl _))
        have hpV13 := pA_i hMV13
        have heV13 := pE_i hMV13
        have pq22 : (V13 0 49).toInt = ((V 0 49)).toInt := congrArg Int32.toInt ((up2_k hV13 (by decide)).trans (up2_k hV9 (by decide)))
        have r23 : 0 ≤ (V13 0 48).toInt ∧ (V13 0 48).toInt ≤ 10000 := hMV13 0 48
        have r24 : 0 ≤ (V13 0 49).toInt ∧ (V13 0 49).toInt ≤ 10000 := hMV13 0 49
        have wr25 : Imp ((V13 0 8).toInt = 0) (WE nd ar V13 hh (pA V) (pA V13)) := Imp.mk (fun hp => by exfalso; first | exact om_bba64d4dacc5 r1.1 f5 pq15 hp | first | omega | ((try (have i_cw := Imp.go cw (by omega))); (try (have i_c1 := Imp.go c1 (by omega))); (try (have i_x3 := Imp.go x3 (by omega))); (try (have i_x3 := Imp.go x3 (by omega))); (try (have i_c1 := Imp.go c1 (by omega))); (try (have i_cw := Imp.go cw (by omega))); omega))
        exact W.vret hx hb hr (fun t ht hW => ⟨⟨(V13, L), rfl, ⟨hMV13, agV13, alL, (Imp.mk (fun hp => have hp : (V13 0 8).toInt = 0 := hp; (show 0 ≤ (V13 0 7).toInt ∧ (V13 0 7).toInt ≤ n ∧ (V 0 8).toInt = 0 ∧ (V 0 7).toInt ≤ (V13 0 7).toInt from by first | omega | ((try (have i_cw := Imp.go cw (by omega))); (try (have i_c1 := Imp.go c1 (by omega))); (try (have i_x3 := Imp.go x3 (by omega))); (try (have i_x3 := Imp.go x3 (by omega))); (try (have i_c1 := Imp.go c1 (by omega))); (try (have i_cw := Imp.go cw (by omega))); omega)))), (Imp.mk (fun hp => have hp : (V13 0 8).toInt = 0 := hp; (show (V13 0 48).toInt - (V 0 48).toInt ≤ 2 * ((V13 0 7).toInt - (V 0 7).toInt) from by first | omega | ((try (have i_cw := Imp.go cw (by omega))); (try (have i_c1 := Imp.go c1 (by omega))); (try (have i_x3 := Imp.go x3 (by omega))); (try (have i_x3 := Imp.go x3 (by omega))); (try (have i_c1 := Imp.go c1 (by omega))); (try (have i_cw := Imp.go cw (by omega))); omega)))), (show (V 0 48).toInt ≤ (V13 0 48).toInt from by first | exact om_abdc88b0c8fc pq16 | first | omega | ((try (have i_cw := Imp.go cw (by omega))); (try (have i_c1 := Imp.go c1 (by omega))); (try (have i_x3 := Imp.go x3 (by omega))); (try (have i_x3 := Imp.go x3 (by omega))); (try (have i_c1 := Imp.go c1 (by omega))); (try (have i_cw := Imp.go cw (by omega))); omega)), (show (V13 0 48).toInt ≤ 8000 + xx + 48 - 6 * (V 0 50).toInt from by first | exact om_0a598dcb6d05 c2 c4 pq16 | first | omega | ((try (have i_cw := Imp.go cw (by omega))); (try (have i_c1 := Imp.go c1 (by omega))); (try (have i_x3 := Imp.go x3 (by omega))); (try (have i_x3 := Imp.go x3 (by omega))); (try (have i_c1 := Imp.go c1 (by omega))); (try (have i_cw := Imp.go cw (by omega))); omega)), (Imp.mk (fun hp => have hp : 1 ≤ (V 0 8).toInt := hp; (show (V13 0 48).toInt = (V 0 48).toInt from by first | exact om_570b691c1130 pq16 | first | omega | ((try (have i_cw := Imp.go cw (by omega))); (try (have i_c1 := Imp.go c1 (by omega))); (try (have i_x3 := Imp.go x3 (by omega))); (try (have i_x3 := Imp.go x3 (by omega))); (try (have i_c1 := Imp.go c1 (by omega))); (try (have i_cw := Imp.go cw (by omega))); omega)))), (show (V13 0 50).toInt = (V 0 50).toInt from by first | exact om_688aeadf4b2f hz8 hz12 pq17 | first | omega | ((try (have i_cw := Imp.go cw (by omega))); (try (have i_c1 := Imp.go c1 (by omega))); (try (have i_x3 := Imp.go x3 (by omega))); (try (have i_x3 := Imp.go x3 (by omega))); (try (have i_c1 := Imp.go c1 (by omega))); (try (have i_cw := Imp.go cw (by omega))); omega)), sx21, wr25⟩, by rw [ht]; exact hP, va_K.moved hW.alike hK, hD⟩, hS.F ht⟩) hS.2.2 dX12_part_82
      · skip
        have f26 : ((V 0 8)).toInt = 0 := b_eq rfl (by decide) c10
        exfalso; first | exact om_0abcda13baee r1.1 f5 f26 | first | omega | ((try (have i_cw := Imp.go cw (by omega))); (try (have i_c1 := Imp.go c1 (by omega))); (try (have i_x3 := Imp.go x3 (by omega))); (try (have i_x3 := Imp.go x3 (by omega))); (try (have i_c1 := Imp.go c1 (by omega))); (try (have i_cw := Imp.go cw (by omega))); omega)
    · skip
      have f27 : ((V 0 8)).toInt = 0 := b_eq rfl (by decide) c6
      exfalso; first | exact om_0abcda13baee r1.1 f5 f27 | first | omega | ((try (have i_cw := Imp.go cw (by omega))); (try (have i_c1 := Imp.go c1 (by omega))); (try (have i_x3 := Imp.go x3 (by omega))); (try (have i_x3 := Imp.go x3 (by omega))); (try (have i_c1 := Imp.go c1 (by omega))); (try (have i_cw := Imp.go cw (by omega))); omega)
  · skip
    have f28 : ((V 0 8)).toInt = 0 := b_eq rfl (by decide) c4
    refine lv_aload_n hx hb dX12_part_7 rfl (lv_at hl 0 rfl) ?_
    refine gA_int (gA_runV (As := []) (rest := []) (ci := 12) (q0 := 0) hx hb hml hown hg hP hD hK hS hA hnw hgk (s_isPart3 l D ks H.size ad kk V L (n) hMV (show (V 4 (n)).toInt = 0 from by first | exact om_b66ba74381d5 x1 | first | omega | ((try (have i_cw := Imp.go cw (by omega))); (try (have i_c1 := Imp.go c1 (by omega))); (try (have i_x3 := Imp.go x3 (by omega))); (try (have i_x3 := Imp.go x3 (by omega))); (try (have i_c1 := Imp.go c1 (by omega))); (try (have i_cw := Imp.go cw (by omega))); omega)) (show (n) ≤ 4000 from by first | exact om_af64e361c991 x2 | first | omega | ((try (have i_cw := Imp.go cw (by omega))); (try (have i_c1 := Imp.go c1 (by omega))); (try (have i_x3 := Imp.go x3 (by omega))); (try (have i_x3 := Imp.go x3 (by omega))); (try (have i_c1 := Imp.go c1 (by omega))); (try (have i_cw := Imp.go cw (by omega))); omega)) (Imp.mk (fun hp => have hp : (V 0 8).toInt = 0 := hp; (show 0 ≤ (V 0 7).toInt ∧ (V 0 7).toInt ≤ (n) from by first | exact om_408b46baf51e ((Imp.go x3 (hp)).1) ((Imp.go x3 (hp)).2) | first | omega | ((try (have i_cw := Imp.go cw (by omega))); (try (have i_c1 := Imp.go c1 (by omega))); (try (have i_x3 := Imp.go x3 (by omega))); (try (have i_x3 := Imp.go x3 (by omega))); (try (have i_c1 := Imp.go c1 (by omega))); (try (have i_cw := Imp.go cw (by omega))); omega)))) ((cP.ag cw agV alL rfl rfl (fun _ => rfl) rfl)).2.2) w2132 w2134 w110 w172 w2135 rfl rfl hdV_yX12_isPart ⟨(by show 1 + 1 ≤ 10 * dd + 10; (first | exact om_37214edc89bb | omega)), (by show 8 + (1 + 11) + (21) ≤ 300 * dd + 300; (first | exact om_e1a0806c2c53 | omega))⟩ rfl hl.1 rfl (Nat.le_of_ble_eq_true rfl) dX12_part_8 ⟨Nat.le_of_ble_eq_true rfl, Nat.le_of_ble_eq_true rfl⟩) hP hD hK hS hA (fun z29 u30 H locs w31 hP hD hK hS => ?_)
    obtain ⟨rgz29, t32, t33, t34⟩ := w31
    have rgz29 : 0 ≤ z29.toInt ∧ z29.toInt ≤ 1 := rgz29
    have t32 : Imp (z29.toInt = 1) ((V 0 8).toInt = 0 ∧ 0 ≤ (V 0 7).toInt ∧ (V 0 7).toInt < (n)) := t32
    have t33 : Imp (z29.toInt = 1) (0 ≤ (V 0 51).toInt ∨ ¬ atW V L 18) := t33
    have t34 : Imp (z29.toInt = 1) ((V 0 52).toInt = 1 ∨ ¬ atW V L 19) := t34
    refine lv_if_ne (tgt := 22) hx hb dX12_part_11 (by decide) (fun c35 => ?_) (fun c35 => ?_)
    · skip
      have f36 : z29.toInt ≠ 0 := b_neq rfl (by decide) c35
      refine lv_aload_n hx hb dX12_part_22 rfl (lv_at hl 0 rfl) ?_
      refine va_get (D := D) (ci := 12) (v := .int (V 0 8)) (C := RX12) (T := TX12) (N := 100) hx hb hg inX12 hown hK hP 0 rfl rfl 8 (by decide) (hg _ w1714) (fun _ h9 => h9) rfl dX12_part_23 ?_
      refine lv_if_ne (tgt := 43) hx hb dX12_part_26 (by decide) (fun c37 => ?_) (fun c37 => ?_)
      · skip
        have f38 : ((V 0 8)).toInt ≠ 0 := b_neq rfl (by decide) c37
        exfalso; first | exact om_fb320d7600b7 r1.1 f28 f38 | first | omega | ((try (have i_t32 := Imp.go t32 (imp_a (rgz29.1) (rgz29.2) (f36)))); omega) | ((try (have i_t32 := Imp.go t32 (by omega))); (try (have i_cw := Imp.go cw (by omega))); (try (have i_c1 := Imp.go c1 (by omega))); (try (have i_x3 := Imp.go x3 (by omega))); first | omega | ((try (have i_x3 := Imp.go x3 (by omega))); (try (have i_c1 := Imp.go c1 (by omega))); (try (have i_cw := Imp.go cw (by omega))); (try (have i_t32 := Imp.go t32 (by omega))); omega))
      · skip
        have f39 : ((V 0 8)).toInt = 0 := b_eq rfl (by decide) c37
        refine lv_aload_n hx hb dX12_part_29 rfl (lv_at hl 0 rfl) ?_
        refine va_get (D := D) (ci := 12) (v := .int (V 0 50)) (C := RX12) (T := TX12) (N := 100) hx hb hg inX12 hown hK hP 0 rfl rfl 50 (by decide) (hg _ w1756) (fun _ h9 => h9) rfl dX12_part_30 ?_
        refine lv_bipush (v := 8) hx hb dX12_part_33 (by decide) ?_
        refine lv_icmp_ne (tgt := 43) hx hb dX12_part_35 (by decide) (fun c40 => ?_) (fun c40 => ?_)
        · skip
          have f41 : ((V 0 50)).toInt ≠ 8 := b_neq rfl (by decide) c40
          refine lv_aload_n hx hb dX12_part_43 rfl (lv_at hl 0 rfl) ?_
          refine lv_dup hx hb dX12_part_44 rfl ?_
          refine va_get (D := D) (ci := 12) (v := .int (V 0 50)) (C := RX12) (T := TX12) (N := 100) hx hb hg inX12 hown hK hP 0 rfl rfl 50 (by decide) (hg _ w1756) (fun _ h9 => h9) rfl dX12_part_45 ?_
          refine lv_iconst (v := 1) hx hb dX12_part_48 (by decide) ?_
          refine lv_iadd hx hb dX12_part_49 ?_
          refine lv_topi (fun z42 ez42 => ?_)
          have hz42 : z42.toInt = ((V 0 50)).toInt + 1 := i_add ez42 rfl (by decide) (by (first | exact om_bd3e92610e5a c4 r3.1 | omega))
          refine va_put (D := D) (ci := 12) (v := .int z42) (ty := tyX12 50) (C := RX12) (T := TX12) (N := 100) hx hb hg inX12 tyX12 tyX12_ok nmX12 hown hK hP hD hS 0 rfl rfl 50 (by decide) (hg _ w1756) (fun _ h9 => h9) rfl (tyX12_ok 50 (by decide)) rfl rfl (Nat.le_of_ble_eq_true rfl) dX12_part_50 (fun H locs hP hD hS => ?_)
          obtain ⟨V43, hV43⟩ : ∃ z, z = up2 V 0 50 z42 := ⟨_, rfl⟩
          have hP : va_P D vwCl (mw ad kk ks.1 V43 L) H := by rw [hV43]; exact hP
          have hD : va_D A (mw ad kk ks.1 V43 L) := by rw [hV43]; exact hD
          have hMV43 : rgd bM V43 := hMV.put hV43 (show 0 ≤ z42.toInt ∧ z42.toInt ≤ 9 from by first | exact om_8d7445b480e1 c4 r3.1 hz42 | first | omega | ((try (have i_t32 := Imp.go t32 (imp_a (rgz29.1) (rgz29.2) (f36)))); omega) | ((try (have i_t32 := Imp.go t32 (by omega))); (try (have i_cw := Imp.go cw (by omega))); (try (have i_c1 := Imp.go c1 (by omega))); (try (have i_x3 := Imp.go x3 (by omega))); first | omega | ((try (have i_x3 := Imp.go x3 (by omega))); (try (have i_c1 := Imp.go c1 (by omega))); (try (have i_cw := Imp.go cw (by omega))); (try (have i_t32 := Imp.go t32 (by omega))); omega)))
          have agV43 : agr [(0, 7), (0, 8), (0, 48), (0, 50)] [35, 36, 37, 38, 45, 46, 47] V V43 := agV.up hV43 rfl
          refine lv_aload_n hx hb dX12_part_53 rfl (lv_at hl 0 rfl) ?_
          refine va_get (D := D) (ci := 12) (v := .int (V43 0 8)) (C := RX12) (T := TX12) (N := 100) hx hb hg inX12 hown hK hP 0 rfl rfl 8 (by decide) (hg _ w1714) (fun _ h9 => h9) rfl dX12_part_54 ?_
          refine g_top (v := (V 0 8)) (up2_k hV43 (by decide)) ?_
          refine lv_if_ne (tgt := 72) hx hb dX12_part_57 (by decide) (fun c44 => ?_) (fun c44 => ?_)
          · skip
            have f45 : ((V 0 8)).toInt ≠ 0 := b_neq rfl (by decide) c44
            exfalso; first | exact om_fb320d7600b7 r1.1 f28 f45 | first | omega | ((try (have i_t32 := Imp.go t32 (imp_a (rgz29.1) (rgz29.2) (f36)))); omega) | ((try (have i_t32 := Imp.go t32 (by omega))); (try (have i_cw := Imp.go cw (by omega))); (try (have i_c1 := Imp.go c1 (by omega))); (try (have i_x3 := Imp.go x3 (by omega))); first | omega | ((try (have i_x3 := Imp.go x3 (by omega))); (try (have i_c1 := Imp.go c1 (by omega))); (try (have i_cw := Imp.go cw (by omega))); (try (have i_t32 := Imp.go t32 (by omega))); omega))
          · skip
            have f46 : ((V 0 8)).toInt = 0 := b_eq rfl (by decide) c44
            refine lv_aload_n hx hb dX12_part_60 rfl (lv_at hl 0 rfl) ?_
            refine lv_iconst (v := 1) hx hb dX12_part_61 (by decide) ?_
            refine lv_iconst (v := 0) hx hb dX12_part_62 (by decide) ?_
            refine lv_iconst (v := 0) hx hb dX12_part_63 (by decide) ?_
            have r47 : Int32.toInt 1 = 1 := by decide
            have r48 : Int32.toInt 0 = 0 := by decide
            have pq49 : (V43 0 48).toInt = ((V 0 48)).toInt := congrArg Int32.toInt (up2_k hV43 (by decide))
            refine gA_int (gA_runV (As := [.int 1, .int 0, .int 0]) (rest := []) (ci := 12) (q0 := 0) hx hb hml hown hg hP hD hK hS hA hnw hgk (s_emit3 l D ks H.size ad kk V43 L 1 0 0 hMV43 (show (V43 0 48).toInt ≤ 9999 from by first | exact om_9da456c5c631 x2 pq49 ((Imp.go c1 (f46))) ((Imp.go t32 (imp_a (rgz29.1) (rgz29.2) (f36))).2.2) | first | omega | ((try (have i_t32 := Imp.go t32 (imp_a (rgz29.1) (rgz29.2) (f36)))); omega) | ((try (have i_t32 := Imp.go t32 (by omega))); (try (have i_cw := Imp.go cw (by omega))); (try (have i_c1 := Imp.go c1 (by omega))); (try (have i_x3 := Imp.go x3 (by omega))); first | omega | ((try (have i_x3 := Imp.go x3 (by omega))); (try (have i_c1 := Imp.go c1 (by omega))); (try (have i_cw := Imp.go cw (by omega))); (try (have i_t32 := Imp.go t32 (by omega))); omega)))) w2136 w2138 w111 w172 w2139 rfl rfl hdV_yX12_emit ⟨(by show 0 + 1 ≤ 10 * dd + 10; (first | exact om_bb4bde652b63 | omega)), (by show 8 + (4 + 11) + (0) ≤ 300 * dd + 300; (first | exact om_f0732bfeccce | omega))⟩ rfl hl.1 rfl (Nat.le_of_ble_eq_true rfl) dX12_part_64 ⟨Nat.le_of_ble_eq_true rfl, Nat.le_of_ble_eq_true rfl⟩) hP hD hK hS hA (fun z50 u51 H locs w52 hP hD hK hS => ?_)
            obtain ⟨V56, L57⟩ := u51
            obtain ⟨hMV56, ajV56, axL57, rgz50, t53, t54, t55⟩ := w52
            have axL57 : L = L57 := Eq.symm axL57
            subst axL57
            have hP : va_P D vwCl (mw ad kk ks.1 V56 L) H := hP
            have hD : va_D A (mw ad kk ks.1 V56 L) := hD
            have hMV56 : rgd bM V56 := hMV56
            have ajV56 : agr [(0, 48)] [45, 46, 47] V43 V56 := ajV56
            have agV56 : agr [(0, 7), (0, 8), (0, 48), (0, 50)] [35, 36, 37, 38, 45, 46, 47] V V56 := agV43.tr ajV56 (by decide) (by decide)
            have rgz50 : 0 ≤ z50.toInt ∧ z50.toInt ≤ 20000 := rgz50
            have t53 : (V56 0 48).toInt = (V43 0 48).toInt + 1 := t53
            have t54 : z50.toInt = (V43 0 49).toInt + (V43 0 48).toInt := t54
            have t55 : emitted V43 V56 (pA V43) 1 0 0 := t55
            have r58 : 0 ≤ ((V56 0 48)).toInt ∧ ((V56 0 48)).toInt ≤ 10000 := hMV56 0 48
            have pq59 : (V43 0 49).toInt = ((V 0 49)).toInt := congrArg Int32.toInt (up2_k hV43 (by decide))
            have r60 : 0 ≤ ((V 0 49)).toInt ∧ ((V 0 49)).toInt ≤ 10000 := hMV 0 49
            refine lv_istore_n (lv' := [(1, .int z50), (0, .ref (ad 0))]) hx hb dX12_part_67 rfl hl (by decide) rfl (fun ls hl => ?_)
            refine lv_aload_n hx hb dX12_part_68 rfl (lv_at hl 1 rfl) ?_
            obtain ⟨d9, rfl⟩ : ∃ d9, dd = d9 + 1 := ⟨dd - 1, by omega⟩
            have pq61 : (V56 4 n).toInt = ((V 4 n)).toInt := congrArg Int32.toInt ((ajV56 4 n rfl).trans (up2_o hV43 (by decide)))
            have pq62 : (V56 0 7).toInt = ((V 0 7)).toInt := congrArg Int32.toInt ((ajV56 0 7 rfl).trans (up2_k hV43 (by decide)))
            have pq63 : (V56 0 8).toInt = ((V 0 8)).toInt := congrArg Int32.toInt ((ajV56 0 8 rfl).trans (up2_k hV43 (by decide)))
            have pq64 : (V56 0 50).toInt = z42.toInt := congrArg Int32.toInt ((ajV56 0 50 rfl).trans (up2_s hV43))
            have hpV := pA_i hMV
            have heV := pE_i hMV
            have r65 : 0 ≤ (V 0 48).toInt ∧ (V 0 48).toInt ≤ 10000 := hMV 0 48
            have r66 : 0 ≤ (V 0 49).toInt ∧ (V 0 49).toInt ≤ 10000 := hMV 0 49
            have hpV56 := pA_i hMV56
            have heV56 := pE_i hMV56
            have pq67 : (V56 0 49).toInt = ((V 0 49)).toInt := congrArg Int32.toInt ((ajV56 0 49 rfl).trans (up2_k hV43 (by decide)))
            have r68 : 0 ≤ (V56 0 48).toInt ∧ (V56 0 48).toInt ≤ 10000 := hMV56 0 48
            have r69 : 0 ≤ (V56 0 49).toInt ∧ (V56 0 49).toInt ≤ 10000 := hMV56 0 49
            have hpV43 := pA_i hMV43
            have heV43 := pE_i hMV43
            have r70 : 0 ≤ (V43 0 48).toInt ∧ (V43 0 48).toInt ≤ 10000 := hMV43 0 48
            have r71 : 0 ≤ (V43 0 49).toInt ∧ (V43 0 49).toInt ≤ 10000 := hMV43 0 49
            have o72 := emitted.at3 t55
            refine gA_void (gA_runV (As := []) (rest := []) (ci := 12) (q0 := 0) hx hb hml hown hg hP hD hK hS hA hnw hgk ((hk_s_partWithin d9 rfl) H.size ad kk V56 L (n) (1) (nd) (ar) (hh) (pA V43) hMV56 (show (V56 4 (n)).toInt = 0 from by first | exact om_36161e850215 x1 pq61 | first | omega | ((try (have i_t32 := Imp.go t32 (imp_a (rgz29.1) (rgz29.2) (f36)))); omega) | ((try (have i_t32 := Imp.go t32 (by omega))); (try (have i_cw := Imp.go cw (by omega))); (try (have i_c1 := Imp.go c1 (by omega))); (try (have i_x3 := Imp.go x3 (by omega))); first | omega | ((try (have i_x3 := Imp.go x3 (by omega))); (try (have i_c1 := Imp.go c1 (by omega))); (try (have i_cw := Imp.go cw (by omega))); (try (have i_t32 := Imp.go t32 (by omega))); omega))) (show (n) ≤ 4000 from by first | exact om_af64e361c991 x2 | first | omega | ((try (have i_t32 := Imp.go t32 (imp_a (rgz29.1) (rgz29.2) (f36)))); omega) | ((try (have i_t32 := Imp.go t32 (by omega))); (try (have i_cw := Imp.go cw (by omega))); (try (have i_c1 := Imp.go c1 (by omega))); (try (have i_x3 := Imp.go x3 (by omega))); first | omega | ((try (have i_x3 := Imp.go x3 (by omega))); (try (have i_c1 := Imp.go c1 (by omega))); (try (have i_cw := Imp.go cw (by omega))); (try (have i_t32 := Imp.go t32 (by omega))); omega))) (Imp.mk (fun hp => have hp : (V56 0 8).toInt = 0 := hp; (show 0 ≤ (V56 0 7).toInt ∧ (V56 0 7).toInt ≤ (n) from by first | exact om_cafeb52ee1f0 r2.1 pq62 ((Imp.go c1 (f46))) ((Imp.go t32 (imp_a (rgz29.1) (rgz29.2) (f36))).2.2) | first | omega | ((try (have i_t32 := Imp.go t32 (imp_a (rgz29.1) (rgz29.2) (f36)))); omega) | ((try (have i_t32 := Imp.go t32 (by omega))); (try (have i_cw := Imp.go cw (by omega))); (try (have i_c1 := Imp.go c1 (by omega))); (try (have i_x3 := Imp.go x3 (by omega))); first | omega | ((try (have i_x3 := Imp.go x3 (by omega))); (try (have i_c1 := Imp.go c1 (by omega))); (try (have i_cw := Imp.go cw (by omega))); (try (have i_t32 := Imp.go t32 (by omega))); omega))))) (show (V56 0 8).toInt = 0 from by first | exact om_97b844acc88a r1.1 f28 pq63 | first | omega | ((try (have i_t32 := Imp.go t32 (imp_a (rgz29.1) (rgz29.2) (f36)))); omega) | ((try (have i_t32 := Imp.go t32 (by omega))); (try (have i_cw := Imp.go cw (by omega))); (try (have i_c1 := Imp.go c1 (by omega))); (try (have i_x3 := Imp.go x3 (by omega))); first | omega | ((try (have i_x3 := Imp.go x3 (by omega))); (try (have i_c1 := Imp.go c1 (by omega))); (try (have i_cw := Imp.go cw (by omega))); (try (have i_t32 := Imp.go t32 (by omega))); omega))) (show (V56 0 48).toInt ≤ 2 * (V56 0 7).toInt + 1 from by first | exact om_1497c8047a90 pq49 t53 pq62 ((Imp.go c1 (f46))) | first | omega | ((try (have i_t32 := Imp.go t32 (imp_a (rgz29.1) (rgz29.2) (f36)))); omega) | ((try (have i_t32 := Imp.go t32 (by omega))); (try (have i_cw := Imp.go cw (by omega))); (try (have i_c1 := Imp.go c1 (by omega))); (try (have i_x3 := Imp.go x3 (by omega))); first | omega | ((try (have i_x3 := Imp.go x3 (by omega))); (try (have i_c1 := Imp.go c1 (by omega))); (try (have i_cw := Imp.go cw (by omega))); (try (have i_t32 := Imp.go t32 (by omega))); omega))) (show (V56 0 7).toInt + 1 ≤ (n) from by first | exact om_e0a0b72ae916 pq62 ((Imp.go t32 (imp_a (rgz29.1) (rgz29.2) (f36))).2.2) | first | omega | ((try (have i_t32 := Imp.go t32 (imp_a (rgz29.1) (rgz29.2) (f36)))); omega) | ((try (have i_t32 := Imp.go t32 (by omega))); (try (have i_cw := Imp.go cw (by omega))); (try (have i_c1 := Imp.go c1 (by omega))); (try (have i_x3 := Imp.go x3 (by omega))); first | omega | ((try (have i_x3 := Imp.go x3 (by omega))); (try (have i_c1 := Imp.go c1 (by omega))); (try (have i_cw := Imp.go cw (by omega))); (try (have i_t32 := Imp.go t32 (by omega))); omega))) (show 0 ≤ (1) ∧ (1) ≤ 100 from by first | omega | ((try (have i_t32 := Imp.go t32 (imp_a (rgz29.1) (rgz29.2) (f36)))); omega) | ((try (have i_t32 := Imp.go t32 (by omega))); (try (have i_cw := Imp.go cw (by omega))); (try (have i_c1 := Imp.go c1 (by omega))); (try (have i_x3 := Imp.go x3 (by omega))); first | omega | ((try (have i_x3 := Imp.go x3 (by omega))); (try (have i_c1 := Imp.go c1 (by omega))); (try (have i_cw := Imp.go cw (by omega))); (try (have i_t32 := Imp.go t32 (by omega))); omega))) (show (V56 0 50).toInt + ((d9 : Nat) : Int) = 8 from by first | exact om_a157956d2316 c4 hz42 pq64 | first | omega | ((try (have i_t32 := Imp.go t32 (imp_a (rgz29.1) (rgz29.2) (f36)))); omega) | ((try (have i_t32 := Imp.go t32 (by omega))); (try (have i_cw := Imp.go cw (by omega))); (try (have i_c1 := Imp.go c1 (by omega))); (try (have i_x3 := Imp.go x3 (by omega))); first | omega | ((try (have i_x3 := Imp.go x3 (by omega))); (try (have i_c1 := Imp.go c1 (by omega))); (try (have i_cw := Imp.go cw (by omega))); (try (have i_t32 := Imp.go t32 (by omega))); omega))) (show 3 * ((d9 : Nat) : Int) + 4 ≤ (((hh) : Nat) : Int) from by first | exact om_f1272a409b69 c9 | first | omega | ((try (have i_t32 := Imp.go t32 (imp_a (rgz29.1) (rgz29.2) (f36)))); omega) | ((try (have i_t32 := Imp.go t32 (by omega))); (try (have i_cw := Imp.go cw (by omega))); (try (have i_c1 := Imp.go c1 (by omega))); (try (have i_x3 := Imp.go x3 (by omega))); first | omega | ((try (have i_x3 := Imp.go x3 (by omega))); (try (have i_c1 := Imp.go c1 (by omega))); (try (have i_cw := Imp.go cw (by omega))); (try (have i_t32 := Imp.go t32 (by omega))); omega))) (cP.ag cw agV56 alL rfl rfl (fun _ => rfl) rfl) ⟨by first | omega | ((try (have i_t32 := Imp.go t32 (imp_a (rgz29.1) (rgz29.2) (f36)))); omega) | ((try (have i_t32 := Imp.go t32 (by omega))); (try (have i_cw := Imp.go cw (by omega))); (try (have i_c1 := Imp.go c1 (by omega))); (try (have i_x3 := Imp.go x3 (by omega))); first | omega | ((try (have i_x3 := Imp.go x3 (by omega))); (try (have i_c1 := Imp.go c1 (by omega))); (try (have i_cw := Imp.go cw (by omega))); (try (have i_t32 := Imp.go t32 (by omega))); omega)), by first | omega | ((try (have i_t32 := Imp.go t32 (imp_a (rgz29.1) (rgz29.2) (f36)))); omega) | ((try (have i_t32 := Imp.go t32 (by omega))); (try (have i_cw := Imp.go cw (by omega))); (try (have i_c1 := Imp.go c1 (by omega))); (try (have i_x3 := Imp.go x3 (by omega))); first | omega | ((try (have i_x3 := Imp.go x3 (by omega))); (try (have i_c1 := Imp.go c1 (by omega))); (try (have i_cw := Imp.go cw (by omega))); (try (have i_t32 := Imp.go t32 (by omega))); omega))⟩ ((Imp.go t33 (by first | exact om_2ebe32d50835 rgz29.1 rgz29.2 f36 | first | omega | ((try (have i_t32 := Imp.go t32 (imp_a (rgz29.1) (rgz29.2) (f36)))); omega) | ((try (have i_t32 := Imp.go t32 (by omega))); (try (have i_cw := Imp.go cw (by omega))); (try (have i_c1 := Imp.go c1 (by omega))); (try (have i_x3 := Imp.go x3 (by omega))); first | omega | ((try (have i_x3 := Imp.go x3 (by omega))); (try (have i_c1 := Imp.go c1 (by omega))); (try (have i_cw := Imp.go cw (by omega))); (try (have i_t32 := Imp.go t32 (by omega))); omega)))).imp (fun h => by rw [agV56 0 51 rfl]; exact h) (fun h q => h (atW.back q (by first | omega | ((try (have i_t32 := Imp.go t32 (imp_a (rgz29.1) (rgz29.2) (f36)))); omega) | ((try (have i_t32 := Imp.go t32 (by omega))); (try (have i_cw := Imp.go cw (by omega))); (try (have i_c1 := Imp.go c1 (by omega))); (try (have i_x3 := Imp.go x3 (by omega))); first | omega | ((try (have i_x3 := Imp.go x3 (by omega))); (try (have i_c1 := Imp.go c1 (by omega))); (try (have i_cw := Imp.go cw (by omega))); (try (have i_t32 := Imp.go t32 (by omega))); omega))) (fun i => agV56 4 i rfl)))) ((Imp.go t34 (by first | exact om_2ebe32d50835 rgz29.1 rgz29.2 f36 | first | omega | ((try (have i_t32 := Imp.go t32 (imp_a (rgz29.1) (rgz29.2) (f36)))); omega) | ((try (have i_t32 := Imp.go t32 (by omega))); (try (have i_cw := Imp.go cw (by omega))); (try (have i_c1 := Imp.go c1 (by omega))); (try (have i_x3 := Imp.go x3 (by omega))); first | omega | ((try (have i_x3 := Imp.go x3 (by omega))); (try (have i_c1 := Imp.go c1 (by omega))); (try (have i_cw := Imp.go cw (by omega))); (try (have i_t32 := Imp.go t32 (by omega))); omega)))).imp (fun h => by rw [agV56 0 52 rfl]; exact h) (fun h q => h (atW.back q (by first | omega | ((try (have i_t32 := Imp.go t32 (imp_a (rgz29.1) (rgz29.2) (f36)))); omega) | ((try (have i_t32 := Imp.go t32 (by omega))); (try (have i_cw := Imp.go cw (by omega))); (try (have i_c1 := Imp.go c1 (by omega))); (try (have i_x3 := Imp.go x3 (by omega))); first | omega | ((try (have i_x3 := Imp.go x3 (by omega))); (try (have i_c1 := Imp.go c1 (by omega))); (try (have i_cw := Imp.go cw (by omega))); (try (have i_t32 := Imp.go t32 (by omega))); omega))) (fun i => agV56 4 i rfl))))) w2140 w2142 w112 w172 w2143 rfl rfl hdV_yX12_partWithin ⟨(by show 10 * d9 + 15 + 1 ≤ 10 * (d9 + 1) + 10; (first | exact om_ab8fa222da09 | omega)), (by show 8 + (4 + 11) + (300 * d9 + 500) ≤ 300 * (d9 + 1) + 300; (first | exact om_8b7c8284da4e | omega))⟩ rfl hl.1 rfl (Nat.le_of_ble_eq_true rfl) dX12_part_69 ⟨Nat.le_of_ble_eq_true rfl, Nat.le_of_ble_eq_true rfl⟩) hP hD hK hS hA (fun u74 H locs w75 hP hD hK hS => ?_)
            obtain ⟨V83, L84⟩ := u74
            obtain ⟨hMV83, ajV83, axL84, t76, t77, t78, t79, t80, t81, t82⟩ := w75
            have alL84 : agL [35, 36, 37, 38, 45, 46, 47] L L84 := agL.tr alL axL84 (by decide)
            have hP : va_P D vwCl (mw ad kk ks.1 V83 L84) H := hP
            have hD : va_D A (mw ad kk ks.1 V83 L84) := hD
            have hMV83 : rgd bM V83 := hMV83
            have ajV83 : agr [(0, 7), (0, 8), (0, 48), (0, 50)] [35, 36, 37, 38, 45, 46, 47] V56 V83 := ajV83
            have agV83 : agr [(0, 7), (0, 8), (0, 48), (0, 50)] [35, 36, 37, 38, 45, 46, 47] V V83 := agV56.tr ajV83 (by decide) (by decide)
            have t76 : Imp ((V83 0 8).toInt = 0) (0 ≤ (V83 0 7).toInt ∧ (V83 0 7).toInt ≤ (n) ∧ (V56 0 8).toInt = 0 ∧ (V56 0 7).toInt ≤ (V83 0 7).toInt) := t76
            have t77 : Imp ((V83 0 8).toInt = 0) ((V83 0 48).toInt - (V56 0 48).toInt ≤ 2 * ((V83 0 7).toInt - (V56 0 7).toInt) - 1) := t77
            have t78 : (V56 0 48).toInt ≤ (V83 0 48).toInt := t78
            have t79 : (V83 0 48).toInt ≤ 8000 + 54 - 6 * (V56 0 50).toInt := t79
            have t80 : (V83 0 50).toInt = (V56 0 50).toInt := t80
            have t81 : sameX V56 V83 (pA V56) (pE V56) := t81
            have t82 : Imp ((V83 0 8).toInt = 0) (WE (nd) (ar) V83 (hh) (pA V43) (pA V83)) := t82
            have r85 : 0 ≤ ((V83 0 8)).toInt ∧ ((V83 0 8)).toInt ≤ 70000 := hMV83 0 8
            have r86 : 0 ≤ ((V83 0 48)).toInt ∧ ((V83 0 48)).toInt ≤ 10000 := hMV83 0 48
            have r87 : 0 ≤ ((V83 0 50)).toInt ∧ ((V83 0 50)).toInt ≤ 9 := hMV83 0 50
            refine lv_aload_n hx hb dX12_part_72 rfl (lv_at hl 1 rfl) ?_
            refine lv_dup hx hb dX12_part_73 rfl ?_
            refine va_get (D := D) (ci := 12) (v := .int (V83 0 50)) (C := RX12) (T := TX12) (N := 100) hx hb hg inX12 hown hK hP 0 rfl rfl 50 (by decide) (hg _ w1756) (fun _ h9 => h9) rfl dX12_part_74 ?_
            refine lv_iconst (v := 1) hx hb dX12_part_77 (by decide) ?_
            refine lv_isub hx hb dX12_part_78 ?_
            refine lv_topi (fun z88 ez88 => ?_)
            have hz88 : z88.toInt = ((V83 0 50)).toInt - 1 := i_sub ez88 rfl (by decide) (by (first | exact om_a99e9373e089 r3.1 hz42 pq64 t80 r87.2 | omega))
            refine va_put (D := D) (ci := 12) (v := .int z88) (ty := tyX12 50) (C := RX12) (T := TX12) (N := 100) hx hb hg inX12 tyX12 tyX12_ok nmX12 hown hK hP hD hS 0 rfl rfl 50 (by decide) (hg _ w1756) (fun _ h9 => h9) rfl (tyX12_ok 50 (by decide)) rfl rfl (Nat.le_of_ble_eq_true rfl) dX12_part_79 (fun H locs hP hD hS => ?_)
            obtain ⟨V89, hV89⟩ : ∃ z, z = up2 V83 0 50 z88 := ⟨_, rfl⟩
            have hP : va_P D vwCl (mw ad kk ks.1 V89 L84) H := by rw [hV89]; exact hP
            have hD : va_D A (mw ad kk ks.1 V89 L84) := by rw [hV89]; exact hD
            have hMV89 : rgd bM V89 := hMV83.put hV89 (show 0 ≤ z88.toInt ∧ z88.toInt ≤ 9 from by first | exact om_82d7566284b9 r3.1 hz42 pq64 t80 r87.2 hz88 | first | omega | ((try (have i_t32 := Imp.go t32 (imp_a (rgz29.1) (rgz29.2) (f36)))); omega) | ((try (have i_t77 := Imp.go t77 (by omega))); (try (have i_t76 := Imp.go t76 (by omega))); (try (have i_t32 := Imp.go t32 (by omega))); (try (have i_cw := Imp.go cw (by omega))); first | omega | ((try (have i_c1 := Imp.go c1 (by omega))); (try (have i_x3 := Imp.go x3 (by omega))); (try (have i_x3 := Imp.go x3 (by omega))); (try (have i_c1 := Imp.go c1 (by omega))); first | omega | ((try (have i_cw := Imp.go cw (by omega))); (try (have i_t32 := Imp.go t32 (by omega))); (try (have i_t76 := Imp.go t76 (by omega))); (try (have i_t77 := Imp.go t77 (by omega))); omega))))
            have agV89 : agr [(0, 7), (0, 8), (0, 48), (0, 50)] [35, 36, 37, 38, 45, 46, 47] V V89 := agV83.up hV89 rfl
            have pq90 : (V89 0 7).toInt = ((V83 0 7)).toInt := congrArg Int32.toInt (up2_k hV89 (by decide))
            have pq91 : (V89 0 8).toInt = ((V83 0 8)).toInt := congrArg Int32.toInt (up2_k hV89 (by decide))
            have pq92 : (V89 0 48).toInt = ((V83 0 48)).toInt := congrArg Int32.toInt (up2_k hV89 (by decide))
            have pq93 : (V89 0 50).toInt = z88.toInt := congrArg Int32.toInt (up2_s hV89)
            have hpV83 := pA_i hMV83
            have heV83 := pE_i hMV83
            have pq94 : (V83 0 49).toInt = ((V 0 49)).toInt := congrArg Int32.toInt ((ajV83 0 49 rfl).trans ((ajV56 0 49 rfl).trans (up2_k hV43 (by decide))))
            have r95 : 0 ≤ (V83 0 48).toInt ∧ (V83 0 48).toInt ≤ 10000 := hMV83 0 48
            have r96 : 0 ≤ (V83 0 49).toInt ∧ (V83 0 49).toInt ≤ 10000 := hMV83 0 49
            have sx97 : sameX V V89 (pA V) (pE V) := (sameX.tr (sameX.tr (sameX.tr ((sameX.up hV43 (by decide) (by decide) (by decide)) : sameX V V43 (pA V) (pE V)) ((emitted.X t55 (by (first | exact om_26834030edca pq49 pq59 hpV hpV43 | omega)) (by (first | exact om_a9d85fad488b r3.1 hz42 t53 pq59 pq64 heV hpV43 t78 t79 | omega))) : sameX V43 V56 (pA V) (pE V)) (Nat.le_refl _)) ((sameX.cut t81 (by (first | exact om_d24f4fac5c1a pq49 t53 hpV hpV56 pq67 | omega)) (by (first | exact om_dd1080e0131d heV heV56 pq67 | omega))) : sameX V56 V83 (pA V) (pE V)) (Nat.le_refl _)) ((sameX.up hV89 (by decide) (by decide) (by decide)) : sameX V83 V89 (pA V) (pE V)) (Nat.le_refl _))
            have hpV89 := pA_i hMV89
            have heV89 := pE_i hMV89
            have pq98 : (V89 0 49).toInt = ((V 0 49)).toInt := congrArg Int32.toInt ((up2_k hV89 (by decide)).trans ((ajV83 0 49 rfl).trans ((ajV56 0 49 rfl).trans (up2_k hV43 (by decide)))))
            have r99 : 0 ≤ (V89 0 48).toInt ∧ (V89 0 48).toInt ≤ 10000 := hMV89 0 48
            have r100 : 0 ≤ (V89 0 49).toInt ∧ (V89 0 49).toInt ≤ 10000 := hMV89 0 49
            have sx101 : sameX V83 V89 (pA V83) (pE V) := ((sameX.up hV89 (by decide) (by decide) (by decide)) : sameX V83 V89 (pA V83) (pE V))
            have we102 : Imp ((V89 0 8).toInt = 0) (WE nd ar V89 hh (pA V43) (pA V83)) := Imp.mk (fun hp => (WE.mv (Imp.go t82 (flt_up hV89 (Or.inr (by decide)) hp)) sx101 (Nat.le_refl _)))
            have wr103 : Imp ((V89 0 8).toInt = 0) (WE nd ar V89 hh (pA V) (pA V89)) := Imp.mk (fun hp => WE.cast (Imp.go we102 hp) (by omega) (by omega))
            exact W.vret hx hb hr (fun t ht hW => ⟨⟨(V89, L84), rfl, ⟨hMV89, agV89, alL84, (Imp.mk (fun hp => have hp : (V89 0 8).toInt = 0 := hp; (show 0 ≤ (V89 0 7).toInt ∧ (V89 0 7).toInt ≤ n ∧ (V 0 8).toInt = 0 ∧ (V 0 7).toInt ≤ (V89 0 7).toInt from by first | exact om_64d8b034a785 r1.1 f28 pq62 t78 pq90 ((Imp.go x3 (f46)).1) ((Imp.go t76 ((pq91.symm).trans (hp))).2.1) ((Imp.go t77 ((pq91.symm).trans (hp)))) | first | omega | ((try (have i_t77 := Imp.go t77 ((pq91.symm).trans (hp)))); (try (have i_t76 := Imp.go t76 ((pq91.symm).trans (hp)))); (try (have i_t32 := Imp.go t32 (imp_a (rgz29.1) (rgz29.2) (f36)))); omega) | ((try (have i_t77 := Imp.go t77 (by omega))); (try (have i_t76 := Imp.go t76 (by omega))); (try (have i_t32 := Imp.go t32 (by omega))); (try (have i_cw := Imp.go cw (by omega))); first | omega | ((try (have i_c1 := Imp.go c1 (by omega))); (try (have i_x3 := Imp.go x3 (by omega))); (try (have i_x3 := Imp.go x3 (by omega))); (try (have i_c1 := Imp.go c1 (by omega))); first | omega | ((try (have i_cw := Imp.go cw (by omega))); (try (have i_t32 := Imp.go t32 (by omega))); (try (have i_t76 := Imp.go t76 (by omega))); (try (have i_t77 := Imp.go t77 (by omega))); omega)))))), (Imp.mk (fun hp => have hp : (V89 0 8).toInt = 0 := hp; (show (V89 0 48).toInt - (V 0 48).toInt ≤ 2 * ((V89 0 7).toInt - (V 0 7).toInt) from by first | exact om_5402cc127e31 pq49 t53 pq62 pq90 pq92 ((Imp.go t77 ((pq91.symm).trans (hp)))) | first | omega | ((try (have i_t77 := Imp.go t77 ((pq91.symm).trans (hp)))); (try (have i_t76 := Imp.go t76 ((pq91.symm).trans (hp)))); (try (have i_t32 := Imp.go t32 (imp_a (rgz29.1) (rgz29.2) (f36)))); omega) | ((try (have i_t77 := Imp.go t77 (by omega))); (try (have i_t76 := Imp.go t76 (by omega))); (try (have i_t32 := Imp.go t32 (by omega))); (try (have i_cw := Imp.go cw (by omega))); first | omega | ((try (have i_c1 := Imp.go c1 (by omega))); (try (have i_x3 := Imp.go x3 (by omega))); (try (have i_x3 := Imp.go x3 (by omega))); (try (have i_c1 := Imp.go c1 (by omega))); first | omega | ((try (have i_cw := Imp.go cw (by omega))); (try (have i_t32 := Imp.go t32 (by omega))); (try (have i_t76 := Imp.go t76 (by omega))); (try (have i_t77 := Imp.go t77 (by omega))); omega)))))), (show (V 0 48).toInt ≤ (V89 0 48).toInt from by first | exact om_58b6fa9c404f pq49 t53 t78 pq92 | first | omega | ((try (have i_t32 := Imp.go t32 (imp_a (rgz29.1) (rgz29.2) (f36)))); omega) | ((try (have i_t77 := Imp.go t77 (by omega))); (try (have i_t76 := Imp.go t76 (by omega))); (try (have i_t32 := Imp.go t32 (by omega))); (try (have i_cw := Imp.go cw (by omega))); first | omega | ((try (have i_c1 := Imp.go c1 (by omega))); (try (have i_x3 := Imp.go x3 (by omega))); (try (have i_x3 := Imp.go x3 (by omega))); (try (have i_c1 := Imp.go c1 (by omega))); first | omega | ((try (have i_cw := Imp.go cw (by omega))); (try (have i_t32 := Imp.go t32 (by omega))); (try (have i_t76 := Imp.go t76 (by omega))); (try (have i_t77 := Imp.go t77 (by omega))); omega)))), (show (V89 0 48).toInt ≤ 8000 + xx + 48 - 6 * (V 0 50).toInt from by first | exact om_dfdb5084ceb1 c3.1 hz42 pq64 t79 pq92 | first | omega | ((try (have i_t32 := Imp.go t32 (imp_a (rgz29.1) (rgz29.2) (f36)))); omega) | ((try (have i_t77 := Imp.go t77 (by omega))); (try (have i_t76 := Imp.go t76 (by omega))); (try (have i_t32 := Imp.go t32 (by omega))); (try (have i_cw := Imp.go cw (by omega))); first | omega | ((try (have i_c1 := Imp.go c1 (by omega))); (try (have i_x3 := Imp.go x3 (by omega))); (try (have i_x3 := Imp.go x3 (by omega))); (try (have i_c1 := Imp.go c1 (by omega))); first | omega | ((try (have i_cw := Imp.go cw (by omega))); (try (have i_t32 := Imp.go t32 (by omega))); (try (have i_t76 := Imp.go t76 (by omega))); (try (have i_t77 := Imp.go t77 (by omega))); omega)))), (Imp.mk (fun hp => have hp : 1 ≤ (V 0 8).toInt := hp; (show (V89 0 48).toInt = (V 0 48).toInt from by first | omega | ((try (have i_t32 := Imp.go t32 (imp_a (rgz29.1) (rgz29.2) (f36)))); omega) | ((try (have i_t77 := Imp.go t77 (by omega))); (try (have i_t76 := Imp.go t76 (by omega))); (try (have i_t32 := Imp.go t32 (by omega))); (try (have i_cw := Imp.go cw (by omega))); first | omega | ((try (have i_c1 := Imp.go c1 (by omega))); (try (have i_x3 := Imp.go x3 (by omega))); (try (have i_x3 := Imp.go x3 (by omega))); (try (have i_c1 := Imp.go c1 (by omega))); first | omega | ((try (have i_cw := Imp.go cw (by omega))); (try (have i_t32 := Imp.go t32 (by omega))); (try (have i_t76 := Imp.go t76 (by omega))); (try (have i_t77 := Imp.go t77 (by omega))); omega)))))), (show (V89 0 50).toInt = (V 0 50).toInt from by first | exact om_1d7e93547bc9 hz42 pq64 t80 hz88 pq93 | first | omega | ((try (have i_t32 := Imp.go t32 (imp_a (rgz29.1) (rgz29.2) (f36)))); omega) | ((try (have i_t77 := Imp.go t77 (by omega))); (try (have i_t76 := Imp.go t76 (by omega))); (try (have i_t32 := Imp.go t32 (by omega))); (try (have i_cw := Imp.go cw (by omega))); first | omega | ((try (have i_c1 := Imp.go c1 (by omega))); (try (have i_x3 := Imp.go x3 (by omega))); (try (have i_x3 := Imp.go x3 (by omega))); (try (have i_c1 := Imp.go c1 (by omega))); first | omega | ((try (have i_cw := Imp.go cw (by omega))); (try (have i_t32 := Imp.go t32 (by omega))); (try (have i_t76 := Imp.go t76 (by omega))); (try (have i_t77 := Imp.go t77 (by omega))); omega)))), sx97, wr103⟩, by rw [ht]; exact hP, va_K.moved hW.alike hK, hD⟩, hS.F ht⟩) hS.2.2 dX12_part_82
        · skip
          have f104 : ((V 0 50)).toInt = 8 := b_eq rfl (by decide) c40
          refine lv_aload_n hx hb dX12_part_38 rfl (lv_at hl 0 rfl) ?_
          refine lv_iconst (v := 5) hx hb dX12_part_39 (by decide) ?_
          have r105 : Int32.toInt 5 = 5 := by decide
          refine gA_void (gA_runV (As := [.int 5]) (rest := []) (ci := 12) (q0 := 0) hx hb hml hown hg hP hD hK hS hA hnw hgk (s_wrong l D ks H.size ad kk V L 5 (n) hMV (by decide) (show (V 4 (n)).toInt = 0 from by first | exact om_b66ba74381d5 x1 | first | omega | ((try (have i_t32 := Imp.go t32 (imp_a (rgz29.1) (rgz29.2) (f36)))); omega) | ((try (have i_t32 := Imp.go t32 (by omega))); (try (have i_cw := Imp.go cw (by omega))); (try (have i_c1 := Imp.go c1 (by omega))); (try (have i_x3 := Imp.go x3 (by omega))); first | omega | ((try (have i_x3 := Imp.go x3 (by omega))); (try (have i_c1 := Imp.go c1 (by omega))); (try (have i_cw := Imp.go cw (by omega))); (try (have i_t32 := Imp.go t32 (by omega))); omega))) (show (n) ≤ 4000 from by first | exact om_af64e361c991 x2 | first | omega | ((try (have i_t32 := Imp.go t32 (imp_a (rgz29.1) (rgz29.2) (f36)))); omega) | ((try (have i_t32 := Imp.go t32 (by omega))); (try (have i_cw := Imp.go cw (by omega))); (try (have i_c1 := Imp.go c1 (by omega))); (try (have i_x3 := Imp.go x3 (by omega))); first | omega | ((try (have i_x3 := Imp.go x3 (by omega))); (try (have i_c1 := Imp.go c1 (by omega))); (try (have i_cw := Imp.go cw (by omega))); (try (have i_t32 := Imp.go t32 (by omega))); omega))) (Imp.mk (fun hp => have hp : (V 0 8).toInt = 0 := hp; (show 0 ≤ (V 0 7).toInt ∧ (V 0 7).toInt ≤ (n) from by first | exact om_7a329117c856 ((Imp.go x3 (hp)).1) ((Imp.go t32 (imp_a (rgz29.1) (rgz29.2) (f36))).2.2) | first | omega | ((try (have i_t32 := Imp.go t32 (imp_a (rgz29.1) (rgz29.2) (f36)))); omega) | ((try (have i_t32 := Imp.go t32 (by omega))); (try (have i_cw := Imp.go cw (by omega))); (try (have i_c1 := Imp.go c1 (by omega))); (try (have i_x3 := Imp.go x3 (by omega))); first | omega | ((try (have i_x3 := Imp.go x3 (by omega))); (try (have i_c1 := Imp.go c1 (by omega))); (try (have i_cw := Imp.go cw (by omega))); (try (have i_t32 := Imp.go t32 (by omega))); omega)))))) w2035 w2037 w86 w172 w2038 rfl rfl hdV_yX12_wrong ⟨(by show 0 + 1 ≤ 10 * dd + 10; (first | exact om_bb4bde652b63 | omega)), (by show 8 + (2 + 11) + (0) ≤ 300 * dd + 300; (first | exact om_1f97efb5c0c8 | omega))⟩ rfl hl.1 rfl (Nat.le_of_ble_eq_true rfl) dX12_part_40 ⟨Nat.le_of_ble_eq_true rfl, Nat.le_of_ble_eq_true rfl⟩) hP hD hK hS hA (fun u107 H locs w108 hP hD hK hS => ?_)
          obtain ⟨V110, L111⟩ := u107
          obtain ⟨hMV110, ajV110, axL111, t109⟩ := w108
          have axL111 : L = L111 := Eq.symm axL111
          subst axL111
          have hP : va_P D vwCl (mw ad kk ks.1 V110 L) H := hP
          have hD : va_D A (mw ad kk ks.1 V110 L) := hD
          have hMV110 : rgd bM V110 := hMV110
          have ajV110 : agr [(0, 8)] [] V V110 := ajV110
          have agV110 : agr [(0, 7), (0, 8), (0, 48), (0, 50)] [35, 36, 37, 38, 45, 46, 47] V V110 := agV.tr ajV110 (by decide) (by decide)
          have t109 : 1 ≤ (V110 0 8).toInt := t109
          have r112 : 0 ≤ ((V110 0 8)).toInt ∧ ((V110 0 8)).toInt ≤ 70000 := hMV110 0 8
          refine lv_aload_n hx hb dX12_part_43 rfl (lv_at hl 0 rfl) ?_
          refine lv_dup hx hb dX12_part_44 rfl ?_
          refine va_get (D := D) (ci := 12) (v := .int (V110 0 50)) (C := RX12) (T := TX12) (N := 100) hx hb hg inX12 hown hK hP 0 rfl rfl 50 (by decide) (hg _ w1756) (fun _ h9 => h9) rfl dX12_part_45 ?_
          refine g_top (v := (V 0 50)) (ajV110 0 50 rfl) ?_
          refine lv_iconst (v := 1) hx hb dX12_part_48 (by decide) ?_
          refine lv_iadd hx hb dX12_part_49 ?_
          refine lv_topi (fun z113 ez113 => ?_)
          have hz113 : z113.toInt = ((V 0 50)).toInt + 1 := i_add ez113 rfl (by decide) (by (first | exact om_5799d5b78762 f104 | omega))
          refine va_put (D := D) (ci := 12) (v := .int z113) (ty := tyX12 50) (C := RX12) (T := TX12) (N := 100) hx hb hg inX12 tyX12 tyX12_ok nmX12 hown hK hP hD hS 0 rfl rfl 50 (by decide) (hg _ w1756) (fun _ h9 => h9) rfl (tyX12_ok 50 (by decide)) rfl rfl (Nat.le_of_ble_eq_true rfl) dX12_part_50 (fun H locs hP hD hS => ?_)
          obtain ⟨V114, hV114⟩ : ∃ z, z = up2 V110 0 50 z113 := ⟨_, rfl⟩
          have hP : va_P D vwCl (mw ad kk ks.1 V114 L) H := by rw [hV114]; exact hP
          have hD : va_D A (mw ad kk ks.1 V114 L) := by rw [hV114]; exact hD
          have hMV114 : rgd bM V114 := hMV110.put hV114 (show 0 ≤ z113.toInt ∧ z113.toInt ≤ 9 from by first | exact om_85525124a780 f104 hz113 | first | omega | ((try (have i_t32 := Imp.go t32 (imp_a (rgz29.1) (rgz29.2) (f36)))); omega) | ((try (have i_t32 := Imp.go t32 (by omega))); (try (have i_cw := Imp.go cw (by omega))); (try (have i_c1 := Imp.go c1 (by omega))); (try (have i_x3 := Imp.go x3 (by omega))); first | omega | ((try (have i_x3 := Imp.go x3 (by omega))); (try (have i_c1 := Imp.go c1 (by omega))); (try (have i_cw := Imp.go cw (by omega))); (try (have i_t32 := Imp.go t32 (by omega))); omega)))
          have agV114 : agr [(0, 7), (0, 8), (0, 48), (0, 50)] [35, 36, 37, 38, 45, 46, 47] V V114 := agV110.up hV114 rfl
          refine lv_aload_n hx hb dX12_part_53 rfl (lv_at hl 0 rfl) ?_
          refine va_get (D := D) (ci := 12) (v := .int (V114 0 8)) (C := RX12) (T := TX12) (N := 100) hx hb hg inX12 hown hK hP 0 rfl rfl 8 (by decide) (hg _ w1714) (fun _ h9 => h9) rfl dX12_part_54 ?_
          refine g_top (v := (V110 0 8)) (up2_k hV114 (by decide)) ?_
          refine lv_if_ne (tgt := 72) hx hb dX12_part_57 (by decide) (fun c115 => ?_) (fun c115 => ?_)
          · skip
            have f116 : ((V110 0 8)).toInt ≠ 0 := b_neq rfl (by decide) c115
            refine lv_aload_n hx hb dX12_part_72 rfl (lv_at hl 0 rfl) ?_
            refine lv_dup hx hb dX12_part_73 rfl ?_
            refine va_get (D := D) (ci := 12) (v := .int (V114 0 50)) (C := RX12) (T := TX12) (N := 100) hx hb hg inX12 hown hK hP 0 rfl rfl 50 (by decide) (hg _ w1756) (fun _ h9 => h9) rfl dX12_part_74 ?_
            refine g_top (v := z113) (up2_s hV114) ?_
            refine lv_iconst (v := 1) hx hb dX12_part_77 (by decide) ?_
            refine lv_isub hx hb dX12_part_78 ?_
            refine lv_topi (fun z117 ez117 => ?_)
            have hz117 : z117.toInt = z113.toInt - 1 := i_sub ez117 rfl (by decide) (by (first | exact om_e5d95af54b9a f104 hz113 | omega))
            refine va_put (D := D) (ci := 12) (v := .int z117) (ty := tyX12 50) (C := RX12) (T := TX12) (N := 100) hx hb hg inX12 tyX12 tyX12_ok nmX12 hown hK hP hD hS 0 rfl rfl 50 (by decide) (hg _ w1756) (fun _ h9 => h9) rfl (tyX12_ok 50 (by decide)) rfl rfl (Nat.le_of_ble_eq_true rfl) dX12_part_79 (fun H locs hP hD hS => ?_)
            obtain ⟨V118, hV118⟩ : ∃ z, z = up2 V114 0 50 z117 := ⟨_, rfl⟩
            have hP : va_P D vwCl (mw ad kk ks.1 V118 L) H := by rw [hV118]; exact hP
            have hD : va_D A (mw ad kk ks.1 V118 L) := by rw [hV118]; exact hD
            have hMV118 : rgd bM V118 := hMV114.put hV118 (show 0 ≤ z117.toInt ∧ z117.toInt ≤ 9 from by first | exact om_3659b9a5dc43 f104 hz113 hz117 | first | omega | ((try (have i_t32 := Imp.go t32 (imp_a (rgz29.1) (rgz29.2) (f36)))); omega) | ((try (have i_t32 := Imp.go t32 (by omega))); (try (have i_cw := Imp.go cw (by omega))); (try (have i_c1 := Imp.go c1 (by omega))); (try (have i_x3 := Imp.go x3 (by omega))); first | omega | ((try (have i_x3 := Imp.go x3 (by omega))); (try (have i_c1 := Imp.go c1 (by omega))); (try (have i_cw := Imp.go cw (by omega))); (try (have i_t32 := Imp.go t32 (by omega))); omega)))
            have agV118 : agr [(0, 7), (0, 8), (0, 48), (0, 50)] [35, 36, 37, 38, 45, 46, 47] V V118 := agV114.up hV118 rfl
            have pq119 : (V118 0 7).toInt = ((V 0 7)).toInt := congrArg Int32.toInt ((up2_k hV118 (by decide)).trans ((up2_k hV114 (by decide)).trans (ajV110 0 7 rfl)))
            have pq120 : (V118 0 8).toInt = ((V110 0 8)).toInt := congrArg Int32.toInt ((up2_k hV118 (by decide)).trans (up2_k hV114 (by decide)))
            have pq121 : (V118 0 48).toInt = ((V 0 48)).toInt := congrArg Int32.toInt ((up2_k hV118 (by decide)).trans ((up2_k hV114 (by decide)).trans (ajV110 0 48 rfl)))
            have pq122 : (V118 0 50).toInt = z117.toInt := congrArg Int32.toInt (up2_s hV118)
            have hpV := pA_i hMV
            have heV := pE_i hMV
            have r123 : 0 ≤ ((V 0 49)).toInt ∧ ((V 0 49)).toInt ≤ 10000 := hMV 0 49
            have r124 : 0 ≤ (V 0 48).toInt ∧ (V 0 48).toInt ≤ 10000 := hMV 0 48
            have r125 : 0 ≤ (V 0 49).toInt ∧ (V 0 49).toInt ≤ 10000 := hMV 0 49
            have sx126 : sameX V V118 (pA V) (pE V) := (sameX.tr (sameX.tr ((sameX.agr ajV110 (fun _ => rfl) (fun _ => rfl) (fun _ => rfl)) : sameX V V110 (pA V) (pE V)) ((sameX.up hV114 (by decide) (by decide) (by decide)) : sameX V110 V114 (pA V) (pE V)) (Nat.le_refl _)) ((sameX.up hV118 (by decide) (by decide) (by decide)) : sameX V114 V118 (pA V) (pE V)) (Nat.le_refl _))
            have hpV118 := pA_i hMV118
            have heV118 := pE_i hMV118
            have pq127 : (V118 0 49).toInt = ((V 0 49)).toInt := congrArg Int32.toInt ((up2_k hV118 (by decide)).trans ((up2_k hV114 (by decide)).trans (ajV110 0 49 rfl)))
            have r128 : 0 ≤ (V118 0 48).toInt ∧ (V118 0 48).toInt ≤ 10000 := hMV118 0 48
            have r129 : 0 ≤ (V118 0 49).toInt ∧ (V118 0 49).toInt ≤ 10000 := hMV118 0 49
            have wr130 : Imp ((V118 0 8).toInt = 0) (WE nd ar V118 hh (pA V) (pA V118)) := Imp.mk (fun hp => by exfalso; first | exact om_64d2999bcf7c t109 pq120 hp | first | omega | ((try (have i_t32 := Imp.go t32 (imp_a (rgz29.1) (rgz29.2) (f36)))); omega) | ((try (have i_t32 := Imp.go t32 (by omega))); (try (have i_cw := Imp.go cw (by omega))); (try (have i_c1 := Imp.go c1 (by omega))); (try (have i_x3 := Imp.go x3 (by omega))); first | omega | ((try (have i_x3 := Imp.go x3 (by omega))); (try (have i_c1 := Imp.go c1 (by omega))); (try (have i_cw := Imp.go cw (by omega))); (try (have i_t32 := Imp.go t32 (by omega))); omega)))
            exact W.vret hx hb hr (fun t ht hW => ⟨⟨(V118, L), rfl, ⟨hMV118, agV118, alL, (Imp.mk (fun hp => have hp : (V118 0 8).toInt = 0 := hp; (show 0 ≤ (V118 0 7).toInt ∧ (V118 0 7).toInt ≤ n ∧ (V 0 8).toInt = 0 ∧ (V 0 7).toInt ≤ (V118 0 7).toInt from by first | omega | ((try (have i_t32 := Imp.go t32 (imp_a (rgz29.1) (rgz29.2) (f36)))); omega) | ((try (have i_t32 := Imp.go t32 (by omega))); (try (have i_cw := Imp.go cw (by omega))); (try (have i_c1 := Imp.go c1 (by omega))); (try (have i_x3 := Imp.go x3 (by omega))); first | omega | ((try (have i_x3 := Imp.go x3 (by omega))); (try (have i_c1 := Imp.go c1 (by omega))); (try (have i_cw := Imp.go cw (by omega))); (try (have i_t32 := Imp.go t32 (by omega))); omega))))), (Imp.mk (fun hp => have hp : (V118 0 8).toInt = 0 := hp; (show (V118 0 48).toInt - (V 0 48).toInt ≤ 2 * ((V118 0 7).toInt - (V 0 7).toInt) from by first | omega | ((try (have i_t32 := Imp.go t32 (imp_a (rgz29.1) (rgz29.2) (f36)))); omega) | ((try (have i_t32 := Imp.go t32 (by omega))); (try (have i_cw := Imp.go cw (by omega))); (try (have i_c1 := Imp.go c1 (by omega))); (try (have i_x3 := Imp.go x3 (by omega))); first | omega | ((try (have i_x3 := Imp.go x3 (by omega))); (try (have i_c1 := Imp.go c1 (by omega))); (try (have i_cw := Imp.go cw (by omega))); (try (have i_t32 := Imp.go t32 (by omega))); omega))))), (show (V 0 48).toInt ≤ (V118 0 48).toInt from by first | exact om_abdc88b0c8fc pq121 | first | omega | ((try (have i_t32 := Imp.go t32 (imp_a (rgz29.1) (rgz29.2) (f36)))); omega) | ((try (have i_t32 := Imp.go t32 (by omega))); (try (have i_cw := Imp.go cw (by omega))); (try (have i_c1 := Imp.go c1 (by omega))); (try (have i_x3 := Imp.go x3 (by omega))); first | omega | ((try (have i_x3 := Imp.go x3 (by omega))); (try (have i_c1 := Imp.go c1 (by omega))); (try (have i_cw := Imp.go cw (by omega))); (try (have i_t32 := Imp.go t32 (by omega))); omega))), (show (V118 0 48).toInt ≤ 8000 + xx + 48 - 6 * (V 0 50).toInt from by first | exact om_b94d721ee17b x2 c3.1 f104 pq121 ((Imp.go c1 (f39))) ((Imp.go t32 (imp_a (rgz29.1) (rgz29.2) (f36))).2.2) | first | omega | ((try (have i_t32 := Imp.go t32 (imp_a (rgz29.1) (rgz29.2) (f36)))); omega) | ((try (have i_t32 := Imp.go t32 (by omega))); (try (have i_cw := Imp.go cw (by omega))); (try (have i_c1 := Imp.go c1 (by omega))); (try (have i_x3 := Imp.go x3 (by omega))); first | omega | ((try (have i_x3 := Imp.go x3 (by omega))); (try (have i_c1 := Imp.go c1 (by omega))); (try (have i_cw := Imp.go cw (by omega))); (try (have i_t32 := Imp.go t32 (by omega))); omega))), (Imp.mk (fun hp => have hp : 1 ≤ (V 0 8).toInt := hp; (show (V118 0 48).toInt = (V 0 48).toInt from by first | omega | ((try (have i_t32 := Imp.go t32 (imp_a (rgz29.1) (rgz29.2) (f36)))); omega) | ((try (have i_t32 := Imp.go t32 (by omega))); (try (have i_cw := Imp.go cw (by omega))); (try (have i_c1 := Imp.go c1 (by omega))); (try (have i_x3 := Imp.go x3 (by omega))); first | omega | ((try (have i_x3 := Imp.go x3 (by omega))); (try (have i_c1 := Imp.go c1 (by omega))); (try (have i_cw := Imp.go cw (by omega))); (try (have i_t32 := Imp.go t32 (by omega))); omega))))), (show (V118 0 50).toInt = (V 0 50).toInt from by first | exact om_688aeadf4b2f hz113 hz117 pq122 | first | omega | ((try (have i_t32 := Imp.go t32 (imp_a (rgz29.1) (rgz29.2) (f36)))); omega) | ((try (have i_t32 := Imp.go t32 (by omega))); (try (have i_cw := Imp.go cw (by omega))); (try (have i_c1 := Imp.go c1 (by omega))); (try (have i_x3 := Imp.go x3 (by omega))); first | omega | ((try (have i_x3 := Imp.go x3 (by omega))); (try (have i_c1 := Imp.go c1 (by omega))); (try (have i_cw := Imp.go cw (by omega))); (try (have i_t32 := Imp.go t32 (by omega))); omega))), sx126, wr130⟩, by rw [ht]; exact hP, va_K.moved hW.alike hK, hD⟩, hS.F ht⟩) hS.2.2 dX12_part_82
          · skip
            have f131 : ((V110 0 8)).toInt = 0 := b_eq rfl (by decide) c115
            exfalso; first | exact om_09885ab343b9 t109 f131 | first | omega | ((try (have i_t32 := Imp.go t32 (imp_a (rgz29.1) (rgz29.2) (f36)))); omega) | ((try (have i_t32 := Imp.go t32 (by omega))); (try (have i_cw := Imp.go cw (by omega))); (try (have i_c1 := Imp.go c1 (by omega))); (try (have i_x3 := Imp.go x3 (by omega))); first | omega | ((try (have i_x3 := Imp.go x3 (by omega))); (try (have i_c1 := Imp.go c1 (by omega))); (try (have i_cw := Imp.go cw (by omega))); (try (have i_t32 := Imp.go t32 (by omega))); omega))
    · skip
      have f132 : z29.toInt = 0 := b_eq rfl (by decide) c35
      refine lv_aload_n hx hb dX12_part_14 rfl (lv_at hl 0 rfl) ?_
      refine lv_iconst (v := 1) hx hb dX12_part_15 (by decide) ?_
      have r133 : Int32.toInt 1 = 1 := by decide
      refine gA_void (gA_runV (As := [.int 1]) (rest := []) (ci := 12) (q0 := 0) hx hb hml hown hg hP hD hK hS hA hnw hgk (s_wrong l D ks H.size ad kk V L 1 (n) hMV (by decide) (show (V 4 (n)).toInt = 0 from by first | exact om_b66ba74381d5 x1 | first | omega | ((try (have i_t32 := Imp.go t32 (by omega))); (try (have i_cw := Imp.go cw (by omega))); (try (have i_c1 := Imp.go c1 (by omega))); (try (have i_x3 := Imp.go x3 (by omega))); first | omega | ((try (have i_x3 := Imp.go x3 (by omega))); (try (have i_c1 := Imp.go c1 (by omega))); (try (have i_cw := Imp.go cw (by omega))); (try (have i_t32 := Imp.go t32 (by omega))); omega))) (show (n) ≤ 4000 from by first | exact om_af64e361c991 x2 | first | omega | ((try (have i_t32 := Imp.go t32 (by omega))); (try (have i_cw := Imp.go cw (by omega))); (try (have i_c1 := Imp.go c1 (by omega))); (try (have i_x3 := Imp.go x3 (by omega))); first | omega | ((try (have i_x3 := Imp.go x3 (by omega))); (try (have i_c1 := Imp.go c1 (by omega))); (try (have i_cw := Imp.go cw (by omega))); (try (have i_t32 := Imp.go t32 (by omega))); omega))) (Imp.mk (fun hp => have hp : (V 0 8).toInt = 0 := hp; (show 0 ≤ (V 0 7).toInt ∧ (V 0 7).toInt ≤ (n) from by first | exact om_408b46baf51e ((Imp.go x3 (hp)).1) ((Imp.go x3 (hp)).2) | first | omega | ((try (have i_t32 := Imp.go t32 (by omega))); (try (have i_cw := Imp.go cw (by omega))); (try (have i_c1 := Imp.go c1 (by omega))); (try (have i_x3 := Imp.go x3 (by omega))); first | omega | ((try (have i_x3 := Imp.go x3 (by omega))); (try (have i_c1 := Imp.go c1 (by omega))); (try (have i_cw := Imp.go cw (by omega))); (try (have i_t32 := Imp.go t32 (by omega))); omega)))))) w2035 w2037 w86 w172 w2038 rfl rfl hdV_yX12_wrong ⟨(by show 0 + 1 ≤ 10 * dd + 10; (first | exact om_bb4bde652b63 | omega)), (by show 8 + (2 + 11) + (0) ≤ 300 * dd + 300; (first | exact om_1f97efb5c0c8 | omega))⟩ rfl hl.1 rfl (Nat.le_of_ble_eq_true rfl) dX12_part_16 ⟨Nat.le_of_ble_eq_true rfl, Nat.le_of_ble_eq_true rfl⟩) hP hD hK hS hA (fun u135 H locs w136 hP hD hK hS => ?_)
      obtain ⟨V138, L139⟩ := u135
      obtain ⟨hMV138, ajV138, axL139, t137⟩ := w136
      have axL139 : L = L139 := Eq.symm axL139
      subst axL139
      have hP : va_P D vwCl (mw ad kk ks.1 V138 L) H := hP
      have hD : va_D A (mw ad kk ks.1 V138 L) := hD
      have hMV138 : rgd bM V138 := hMV138
      have ajV138 : agr [(0, 8)] [] V V138 := ajV138
      have agV138 : agr [(0, 7), (0, 8), (0, 48), (0, 50)] [35, 36, 37, 38, 45, 46, 47] V V138 := agV.tr ajV138 (by decide) (by decide)
      have t137 : 1 ≤ (V138 0 8).toInt := t137
      have r140 : 0 ≤ ((V138 0 8)).toInt ∧ ((V138 0 8)).toInt ≤ 70000 := hMV138 0 8
      refine lv_goto (tgt := 43) hx hb dX12_part_19 (by decide) ?_
      refine lv_aload_n hx hb dX12_part_43 rfl (lv_at hl 0 rfl) ?_
      refine lv_dup hx hb dX12_part_44 rfl ?_
      refine va_get (D := D) (ci := 12) (v := .int (V138 0 50)) (C := RX12) (T := TX12) (N := 100) hx hb hg inX12 hown hK hP 0 rfl rfl 50 (by decide) (hg _ w1756) (fun _ h9 => h9) rfl dX12_part_45 ?_
      refine g_top (v := (V 0 50)) (ajV138 0 50 rfl) ?_
      refine lv_iconst (v := 1) hx hb dX12_part_48 (by decide) ?_
      refine lv_iadd hx hb dX12_part_49 ?_
      refine lv_topi (fun z141 ez141 => ?_)
      have hz141 : z141.toInt = ((V 0 50)).toInt + 1 := i_add ez141 rfl (by decide) (by (first | exact om_bd3e92610e5a c4 r3.1 | omega))
      refine va_put (D := D) (ci := 12) (v := .int z141) (ty := tyX12 50) (C := RX12) (T := TX12) (N := 100) hx hb hg inX12 tyX12 tyX12_ok nmX12 hown hK hP hD hS 0 rfl rfl 50 (by decide) (hg _ w1756) (fun _ h9 => h9) rfl (tyX12_ok 50 (by decide)) rfl rfl (Nat.le_of_ble_eq_true rfl) dX12_part_50 (fun H locs hP hD hS => ?_)
      obtain ⟨V142, hV142⟩ : ∃ z, z = up2 V138 0 50 z141 := ⟨_, rfl⟩
      have hP : va_P D vwCl (mw ad kk ks.1 V142 L) H := by rw [hV142]; exact hP
      have hD : va_D A (mw ad kk ks.1 V142 L) := by rw [hV142]; exact hD
      have hMV142 : rgd bM V142 := hMV138.put hV142 (show 0 ≤ z141.toInt ∧ z141.toInt ≤ 9 from by first | exact om_8d7445b480e1 c4 r3.1 hz141 | first | omega | ((try (have i_t32 := Imp.go t32 (by omega))); (try (have i_cw := Imp.go cw (by omega))); (try (have i_c1 := Imp.go c1 (by omega))); (try (have i_x3 := Imp.go x3 (by omega))); first | omega | ((try (have i_x3 := Imp.go x3 (by omega))); (try (have i_c1 := Imp.go c1 (by omega))); (try (have i_cw := Imp.go cw (by omega))); (try (have i_t32 := Imp.go t32 (by omega))); omega)))
      have agV142 : agr [(0, 7), (0, 8), (0, 48), (0, 50)] [35, 36, 37, 38, 45, 46, 47] V V142 := agV138.up hV142 rfl
      refine lv_aload_n hx hb dX12_part_53 rfl (lv_at hl 0 rfl) ?_
      refine va_get (D := D) (ci := 12) (v := .int (V142 0 8)) (C := RX12) (T := TX12) (N := 100) hx hb hg inX12 hown hK hP 0 rfl rfl 8 (by decide) (hg _ w1714) (fun _ h9 => h9) rfl dX12_part_54 ?_
      refine g_top (v := (V138 0 8)) (up2_k hV142 (by decide)) ?_
      refine lv_if_ne (tgt := 72) hx hb dX12_part_57 (by decide) (fun c143 => ?_) (fun c143 => ?_)
      · skip
        have f144 : ((V138 0 8)).toInt ≠ 0 := b_neq rfl (by decide) c143
        refine lv_aload_n hx hb dX12_part_72 rfl (lv_at hl 0 rfl) ?_
        refine lv_dup hx hb dX12_part_73 rfl ?_
        refine va_get (D := D) (ci := 12) (v := .int (V142 0 50)) (C := RX12) (T := TX12) (N := 100) hx hb hg inX12 hown hK hP 0 rfl rfl 50 (by decide) (hg _ w1756) (fun _ h9 => h9) rfl dX12_part_74 ?_
        refine g_top (v := z141) (up2_s hV142) ?_
        refine lv_iconst (v := 1) hx hb dX12_part_77 (by decide) ?_
        refine lv_isub hx hb dX12_part_78 ?_
        refine lv_topi (fun z145 ez145 => ?_)
        have hz145 : z145.toInt = z141.toInt - 1 := i_sub ez145 rfl (by decide) (by (first | exact om_492a70219c59 c4 r3.1 hz141 | omega))
        refine va_put (D := D) (ci := 12) (v := .int z145) (ty := tyX12 50) (C := RX12) (T := TX12) (N := 100) hx hb hg inX12 tyX12 tyX12_ok nmX12 hown hK hP hD hS 0 rfl rfl 50 (by decide) (hg _ w1756) (fun _ h9 => h9) rfl (tyX12_ok 50 (by decide)) rfl rfl (Nat.le_of_ble_eq_true rfl) dX12_part_79 (fun H locs hP hD hS => ?_)
        obtain ⟨V146, hV146⟩ : ∃ z, z = up2 V142 0 50 z145 := ⟨_, rfl⟩
        have hP : va_P D vwCl (mw ad kk ks.1 V146 L) H := by rw [hV146]; exact hP
        have hD : va_D A (mw ad kk ks.1 V146 L) := by rw [hV146]; exact hD
        have hMV146 : rgd bM V146 := hMV142.put hV146 (show 0 ≤ z145.toInt ∧ z145.toInt ≤ 9 from by first | exact om_9895f85a8d60 c4 r3.1 hz141 hz145 | first | omega | ((try (have i_t32 := Imp.go t32 (by omega))); (try (have i_cw := Imp.go cw (by omega))); (try (have i_c1 := Imp.go c1 (by omega))); (try (have i_x3 := Imp.go x3 (by omega))); first | omega | ((try (have i_x3 := Imp.go x3 (by omega))); (try (have i_c1 := Imp.go c1 (by omega))); (try (have i_cw := Imp.go cw (by omega))); (try (have i_t32 := Imp.go t32 (by omega))); omega)))
        have agV146 : agr [(0, 7), (0, 8), (0, 48), (0, 50)] [35, 36, 37, 38, 45, 46, 47] V V146 := agV142.up hV146 rfl
        have pq147 : (V146 0 7).toInt = ((V 0 7)).toInt := congrArg Int32.toInt ((up2_k hV146 (by decide)).trans ((up2_k hV142 (by decide)).trans (ajV138 0 7 rfl)))
        have pq148 : (V146 0 8).toInt = ((V138 0 8)).toInt := congrArg Int32.toInt ((up2_k hV146 (by decide)).trans (up2_k hV142 (by decide)))
        have pq149 : (V146 0 48).toInt = ((V 0 48)).toInt := congrArg Int32.toInt ((up2_k hV146 (by decide)).trans ((up2_k hV142 (by decide)).trans (ajV138 0 48 rfl)))
        have pq150 : (V146 0 50).toInt = z145.toInt := congrArg Int32.toInt (up2_s hV146)
        have hpV := pA_i hMV
        have heV := pE_i hMV
        have r151 : 0 ≤ ((V 0 49)).toInt ∧ ((V 0 49)).toInt ≤ 10000 := hMV 0 49
        have r152 : 0 ≤ (V 0 48).toInt ∧ (V 0 48).toInt ≤ 10000 := hMV 0 48
        have r153 : 0 ≤ (V 0 49).toInt ∧ (V 0 49).toInt ≤ 10000 := hMV 0 49
        have sx154 : sameX V V146 (pA V) (pE V) := (sameX.tr (sameX.tr ((sameX.agr ajV138 (fun _ => rfl) (fun _ => rfl) (fun _ => rfl)) : sameX V V138 (pA V) (pE V)) ((sameX.up hV142 (by decide) (by decide) (by decide)) : sameX V138 V142 (pA V) (pE V)) (Nat.le_refl _)) ((sameX.up hV146 (by decide) (by decide) (by decide)) : sameX V142 V146 (pA V) (pE V)) (Nat.le_refl _))
        have hpV146 := pA_i hMV146
        have heV146 := pE_i hMV146
        have pq155 : (V146 0 49).toInt = ((V 0 49)).toInt := congrArg Int32.toInt ((up2_k hV146 (by decide)).trans ((up2_k hV142 (by decide)).trans (ajV138 0 49 rfl)))
        have r156 : 0 ≤ (V146 0 48).toInt ∧ (V146 0 48).toInt ≤ 10000 := hMV146 0 48
        have r157 : 0 ≤ (V146 0 49).toInt ∧ (V146 0 49).toInt ≤ 10000 := hMV146 0 49
        have wr158 : Imp ((V146 0 8).toInt = 0) (WE nd ar V146 hh (pA V) (pA V146)) := Imp.mk (fun hp => by exfalso; first | exact om_64d2999bcf7c t137 pq148 hp | first | omega | ((try (have i_t32 := Imp.go t32 (by omega))); (try (have i_cw := Imp.go cw (by omega))); (try (have i_c1 := Imp.go c1 (by omega))); (try (have i_x3 := Imp.go x3 (by omega))); first | omega | ((try (have i_x3 := Imp.go x3 (by omega))); (try (have i_c1 := Imp.go c1 (by omega))); (try (have i_cw := Imp.go cw (by omega))); (try (have i_t32 := Imp.go t32 (by omega))); omega)))
        exact W.vret hx hb hr (fun t ht hW => ⟨⟨(V146, L), rfl, ⟨hMV146, agV146, alL, (Imp.mk (fun hp => have hp : (V146 0 8).toInt = 0 := hp; (show 0 ≤ (V146 0 7).toInt ∧ (V146 0 7).toInt ≤ n ∧ (V 0 8).toInt = 0 ∧ (V 0 7).toInt ≤ (V146 0 7).toInt from by first | omega | ((try (have i_t32 := Imp.go t32 (by omega))); (try (have i_cw := Imp.go cw (by omega))); (try (have i_c1 := Imp.go c1 (by omega))); (try (have i_x3 := Imp.go x3 (by omega))); first | omega | ((try (have i_x3 := Imp.go x3 (by omega))); (try (have i_c1 := Imp.go c1 (by omega))); (try (have i_cw := Imp.go cw (by omega))); (try (have i_t32 := Imp.go t32 (by omega))); omega))))), (Imp.mk (fun hp => have hp : (V146 0 8).toInt = 0 := hp; (show (V146 0 48).toInt - (V 0 48).toInt ≤ 2 * ((V146 0 7).toInt - (V 0 7).toInt) from by first | omega | ((try (have i_t32 := Imp.go t32 (by omega))); (try (have i_cw := Imp.go cw (by omega))); (try (have i_c1 := Imp.go c1 (by omega))); (try (have i_x3 := Imp.go x3 (by omega))); first | omega | ((try (have i_x3 := Imp.go x3 (by omega))); (try (have i_c1 := Imp.go c1 (by omega))); (try (have i_cw := Imp.go cw (by omega))); (try (have i_t32 := Imp.go t32 (by omega))); omega))))), (show (V 0 48).toInt ≤ (V146 0 48).toInt from by first | exact om_abdc88b0c8fc pq149 | first | omega | ((try (have i_t32 := Imp.go t32 (by omega))); (try (have i_cw := Imp.go cw (by omega))); (try (have i_c1 := Imp.go c1 (by omega))); (try (have i_x3 := Imp.go x3 (by omega))); first | omega | ((try (have i_x3 := Imp.go x3 (by omega))); (try (have i_c1 := Imp.go c1 (by omega))); (try (have i_cw := Imp.go cw (by omega))); (try (have i_t32 := Imp.go t32 (by omega))); omega))), (show (V146 0 48).toInt ≤ 8000 + xx + 48 - 6 * (V 0 50).toInt from by first | exact om_df10d3a1cc00 x2 c3.1 c4 pq149 ((Imp.go x3 (f28)).2) ((Imp.go c1 (f28))) | first | omega | ((try (have i_t32 := Imp.go t32 (by omega))); (try (have i_cw := Imp.go cw (by omega))); (try (have i_c1 := Imp.go c1 (by omega))); (try (have i_x3 := Imp.go x3 (by omega))); first | omega | ((try (have i_x3 := Imp.go x3 (by omega))); (try (have i_c1 := Imp.go c1 (by omega))); (try (have i_cw := Imp.go cw (by omega))); (try (have i_t32 := Imp.go t32 (by omega))); omega))), (Imp.mk (fun hp => have hp : 1 ≤ (V 0 8).toInt := hp; (show (V146 0 48).toInt = (V 0 48).toInt from by first | omega | ((try (have i_t32 := Imp.go t32 (by omega))); (try (have i_cw := Imp.go cw (by omega))); (try (have i_c1 := Imp.go c1 (by omega))); (try (have i_x3 := Imp.go x3 (by omega))); first | omega | ((try (have i_x3 := Imp.go x3 (by omega))); (try (have i_c1 := Imp.go c1 (by omega))); (try (have i_cw := Imp.go cw (by omega))); (try (have i_t32 := Imp.go t32 (by omega))); omega))))), (show (V146 0 50).toInt = (V 0 50).toInt from by first | exact om_688aeadf4b2f hz141 hz145 pq150 | first | omega | ((try (have i_t32 := Imp.go t32 (by omega))); (try (have i_cw := Imp.go cw (by omega))); (try (have i_c1 := Imp.go c1 (by omega))); (try (have i_x3 := Imp.go x3 (by omega))); first | omega | ((try (have i_x3 := Imp.go x3 (by omega))); (try (have i_c1 := Imp.go c1 (by omega))); (try (have i_cw := Imp.go cw (by omega))); (try (have i_t32 := Imp.go t32 (by omega))); omega))), sx154, wr158⟩, by rw [ht]; exact hP, va_K.moved hW.alike hK, hD⟩, hS.F ht⟩) hS.2.2 dX12_part_82
      · skip
        have f159 : ((V138 0 8)).toInt = 0 := b_eq rfl (by decide) c143
        exfalso; first | exact om_09885ab343b9 t137 f159 | first | omega | ((try (have i_t32 := Imp.go t32 (by omega))); (try (have i_cw := Imp.go cw (by omega))); (try (have i_c1 := Imp.go c1 (by omega))); (try (have i_x3 := Imp.go x3 (by omega))); first | omega | ((try (have i_x3 := Imp.go x3 (by omega))); (try (have i_c1 := Imp.go c1 (by omega))); (try (have i_cw := Imp.go cw (by omega))); (try (have i_t32 := Imp.go t32 (by omega))); omega))
theorem K_part {l : Launch} {D : va_G} {ks : KS} : ∀ dd, K_s_part l D ks dd
  | 0 => s_part (fun d9 h => absurd h (by omega))
  | d + 1 => by
    refine s_part (fun d9 h => ?_)
    have e : d9 = d := by omega
    subst e
    have k1 := K_part (l := l) (D := D) (ks := ks) d9
    have k2 := s_product k1
    have k3 := s_sum k2
    have k4 := s_expression k3
    exact s_partWithin k4 k1 (s_bracketed k4) (s_pick k4)
theorem K_expr {l : Launch} {D : va_G} {ks : KS} (dd : Nat) : K_s_expression l D ks dd := s_expression (s_sum (s_product (K_part dd)))
end
section
theorem wd.ag {cs : List Nat} {L L' : Lf} (w : wd L) (b : agL cs L L') (h : cs.contains 10 = false) : wd L' := by
  intro j k q1 q2 q3
  rw [b 10 j h, b 10 k h]
  exact w j k q1 q2 q3
/-! the tables: which rows may change. trk: the cells that are looked after -/
def trk (x : Nat) : Bool := [18, 19, 21, 23, 24, 25, 26, 27, 28, 29, 30, 31, 32, 33, 34, 39, 40, 41, 42, 43, 44, 45, 46, 47].contains x
def tC (c nx : Nat) (x : Nat) : Nat × Nat := match x with
  | 19 => (nx, nx + 1)
  | 21 => (24 * c, 24 * c + 24)
  | 23 => (c, c + 1)
  | 24 => (c, c + 1)
  | 25 => (c, c + 1)
  | 26 => (c, c + 1)
  | 27 => (c, c + 1)
  | 28 => (8 * c, 8 * c + 8)
  | 29 => (8 * c, 8 * c + 8)
  | 30 => (8 * c, 8 * c + 8)
  | 31 => (8 * c, 8 * c + 8)
  | 32 => (c, c + 1)
  | 33 => (c, c + 1)
  | 34 => (20 * c, 20 * c + 20)
  | 45 => (10000 * nx, 10000 * nx + 10000)
  | 46 => (10000 * nx, 10000 * nx + 10000)
  | 47 => (10000 * nx, 10000 * nx + 10000)
  | _ => (0, 0)
def tW (w nx : Nat) (x : Nat) : Nat × Nat := match x with
  | 39 => (nx, nx + 1)
  | 40 => (w, w + 1)
  | 41 => (w, w + 1)
  | 42 => (w, w + 1)
  | 43 => (w, w + 1)
  | 44 => (w, w + 1)
  | 45 => (10000 * nx, 10000 * nx + 10000)
  | 46 => (10000 * nx, 10000 * nx + 10000)
  | 47 => (10000 * nx, 10000 * nx + 10000)
  | _ => (0, 0)
def tS (s : Nat) (x : Nat) : Nat × Nat := match x with
  | 18 => (s, s + 1)
  | _ => (0, 0)
def tK (nx : Nat) (x : Nat) : Nat × Nat := match x with
  | 45 => (10000 * nx, 10000 * nx + 10000)
  | 46 => (10000 * nx, 10000 * nx + 10000)
  | 47 => (10000 * nx, 10000 * nx + 10000)
  | _ => (0, 0)
def tH (nx : Nat) (x : Nat) : Nat × Nat := match x with
  | 18 => (12 * nx, 12 * nx + 12)
  | 19 => (nx, nx + 1)
  | 21 => (576 * nx, 576 * nx + 576)
  | 23 => (24 * nx, 24 * nx + 24)
  | 24 => (24 * nx, 24 * nx + 24)
  | 25 => (24 * nx, 24 * nx + 24)
  | 26 => (24 * nx, 24 * nx + 24)
  | 27 => (24 * nx, 24 * nx + 24)
  | 28 => (192 * nx, 192 * nx + 192)
  | 29 => (192 * nx, 192 * nx + 192)
  | 30 => (192 * nx, 192 * nx + 192)
  | 31 => (192 * nx, 192 * nx + 192)
  | 32 => (24 * nx, 24 * nx + 24)
  | 33 => (24 * nx, 24 * nx + 24)
  | 34 => (480 * nx, 480 * nx + 480)
  | 39 => (nx, nx + 1)
  | 40 => (12 * nx, 12 * nx + 12)
  | 41 => (12 * nx, 12 * nx + 12)
  | 42 => (12 * nx, 12 * nx + 12)
  | 43 => (12 * nx, 12 * nx + 12)
  | 44 => (12 * nx, 12 * nx + 12)
  | 45 => (10000 * nx, 10000 * nx + 10000)
  | 46 => (10000 * nx, 10000 * nx + 10000)
  | 47 => (10000 * nx, 10000 * nx + 10000)
  | _ => (0, 0)
def fr (R : Nat → Nat × Nat) (V W : Vf) : Prop := ∀ x k, trk x = true → (k < (R x).1 ∨ (R x).2 ≤ k) → W x k = V x k
theorem fr.rf {R : Nat → Nat × Nat} {V : Vf} : fr R V V := fun _ _ _ _ => rfl
theorem fr.tr {R : Nat → Nat × Nat} {V W X : Vf} (h : fr R V W) (h2 : fr R W X) : fr R V X := fun x k a b => (h2 x k a b).trans (h x k a b)
theorem fr.up {R : Nat → Nat × Nat} {V V1 V2 : Vf} {c k : Nat} {v : Int32} (h : fr R V V1) (e : V2 = up2 V1 c k v) (hk : trk c = false ∨ ((R c).1 ≤ k ∧ k < (R c).2)) : fr R V V2 := by
  intro x j ht hj
  by_cases hc : x = c
  · subst hc
    rcases hk with hk | hk
    · rw [hk] at ht
      cases ht
    · rw [up2_k e (by omega)]
      exact h x j ht hj
  · rw [up2_o e hc]
    exact h x j ht hj
theorem trk_wr {fs : List (Nat × Nat)} {cs : List Nat} {x k : Nat} (h1 : ∀ y ∈ fs, y.1 = 0) (hc : cs.contains x = false) (ht : trk x = true) : wrL fs cs x k = false := by
  unfold wrL
  rw [Bool.or_eq_false_iff]
  refine ⟨?_, hc⟩
  rw [← Bool.not_eq_true]
  intro q
  have h := h1 _ (List.contains_iff_mem.mp q)
  have h3 : x = 0 := h
  subst h3
  exact absurd ht (by decide)
theorem fr.ag {R : Nat → Nat × Nat} {fs : List (Nat × Nat)} {cs : List Nat} {V W : Vf} (a : agr fs cs V W) (h1 : ∀ y ∈ fs, y.1 = 0) (h2 : ∀ y ∈ cs, trk y = false) : fr R V W := by
  intro x k ht _
  refine a x k (trk_wr h1 ?_ ht)
  rw [← Bool.not_eq_true]
  intro q
  rw [h2 _ (List.contains_iff_mem.mp q)] at ht
  cases ht
theorem fr.weak {R R' : Nat → Nat × Nat} {V W : Vf} (h : fr R V W) (hw : ∀ x, trk x = true → ((R' x).1 ≤ (R x).1 ∧ (R x).2 ≤ (R' x).2) ∨ (R x).2 = 0) : fr R' V W := by
  intro x k ht hk
  refine h x k ht ?_
  rcases hw x ht with q | q <;> omega
theorem fr.code {nx a b : Nat} {fs : List (Nat × Nat)} {cs : List Nat} {V W : Vf} (ag : agr fs cs V W) (h1 : ∀ y ∈ fs, y.1 = 0) (h2 : ∀ y ∈ cs, trk y = false ∨ y = 45 ∨ y = 46 ∨ y = 47) (hx : sameX V W a b) (ha : 10000 * nx ≤ a) (hb : b ≤ 10000 * nx + 10000) : fr (tK nx) V W := by
  intro x k ht hk
  by_cases hc : cs.contains x = true
  · rcases h2 x (List.contains_iff_mem.mp hc) with q | q | q | q
    · rw [q] at ht
      cases ht
    · subst q
      have hk : k < 10000 * nx ∨ 10000 * nx + 10000 ≤ k := hk
      exact (hx k (by omega)).1
    · subst q
      have hk : k < 10000 * nx ∨ 10000 * nx + 10000 ≤ k := hk
      exact (hx k (by omega)).2.1
    · subst q
      have hk : k < 10000 * nx ∨ 10000 * nx + 10000 ≤ k := hk
      exact (hx k (by omega)).2.2
  · exact ag x k (trk_wr h1 (by rw [← Bool.not_eq_true]; exact hc) ht)
theorem trk_all {P : Nat → Prop} (p18 : P 18) (p19 : P 19) (p21 : P 21) (p23 : P 23) (p24 : P 24) (p25 : P 25) (p26 : P 26) (p27 : P 27) (p28 : P 28) (p29 : P 29) (p30 : P 30) (p31 : P 31) (p32 : P 32) (p33 : P 33) (p34 : P 34) (p39 : P 39) (p40 : P 40) (p41 : P 41) (p42 : P 42) (p43 : P 43) (p44 : P 44) (p45 : P 45) (p46 : P 46) (p47 : P 47) : ∀ x, trk x = true → P x := by
  intro x hx
  have h := List.contains_iff_mem.mp hx
  simp only [List.mem_cons, List.not_mem_nil, or_false] at h
  rcases h with rfl | rfl | rfl | rfl | rfl | rfl | rfl | rfl | rfl | rfl | rfl | rfl | rfl | rfl | rfl | rfl | rfl | rfl | rfl | rfl | rfl | rfl | rfl | rfl
  · exact p18
  · exact p19
  · exact p21
  · exact p23
  · exact p24
  · exact p25
  · exact p26
  · exact p27
  · exact p28
  · exact p29
  · exact p30
  · exact p31
  · exact p32
  · exact p33
  · exact p34
  · exact p39
  · exact p40
  · exact p41
  · exact p42
  · exact p43
  · exact p44
  · exact p45
  · exact p46
  · exact p47
theorem fr_KC {c nx : Nat} {V W : Vf} (h : fr (tK nx) V W) : fr (tC c nx) V W := h.weak (trk_all (by show (0 ≤ 0 ∧ 0 ≤ 0) ∨ 0 = 0; omega) (by show (nx ≤ 0 ∧ 0 ≤ nx + 1) ∨ 0 = 0; omega) (by show (24 * c ≤ 0 ∧ 0 ≤ 24 * c + 24) ∨ 0 = 0; omega) (by show (c ≤ 0 ∧ 0 ≤ c + 1) ∨ 0 = 0; omega) (by show (c ≤ 0 ∧ 0 ≤ c + 1) ∨ 0 = 0; omega) (by show (c ≤ 0 ∧ 0 ≤ c + 1) ∨ 0 = 0; omega) (by show (c ≤ 0 ∧ 0 ≤ c + 1) ∨ 0 = 0; omega) (by show (c ≤ 0 ∧ 0 ≤ c + 1) ∨ 0 = 0; omega) (by show (8 * c ≤ 0 ∧ 0 ≤ 8 * c + 8) ∨ 0 = 0; omega) (by show (8 * c ≤ 0 ∧ 0 ≤ 8 * c + 8) ∨ 0 = 0; omega) (by show (8 * c ≤ 0 ∧ 0 ≤ 8 * c + 8) ∨ 0 = 0; omega) (by show (8 * c ≤ 0 ∧ 0 ≤ 8 * c + 8) ∨ 0 = 0; omega) (by show (c ≤ 0 ∧ 0 ≤ c + 1) ∨ 0 = 0; omega) (by show (c ≤ 0 ∧ 0 ≤ c + 1) ∨ 0 = 0; omega) (by show (20 * c ≤ 0 ∧ 0 ≤ 20 * c + 20) ∨ 0 = 0; omega) (by show (0 ≤ 0 ∧ 0 ≤ 0) ∨ 0 = 0; omega) (by show (0 ≤ 0 ∧ 0 ≤ 0) ∨ 0 = 0; omega) (by show (0 ≤ 0 ∧ 0 ≤ 0) ∨ 0 = 0; omega) (by show (0 ≤ 0 ∧ 0 ≤ 0) ∨ 0 = 0; omega) (by show (0 ≤ 0 ∧ 0 ≤ 0) ∨ 0 = 0; omega) (by show (0 ≤ 0 ∧ 0 ≤ 0) ∨ 0 = 0; omega) (by show (10000 * nx ≤ 10000 * nx ∧ 10000 * nx + 10000 ≤ 10000 * nx + 10000) ∨ 10000 * nx + 10000 = 0; (first | exact om_c788c03a926e | omega)) (by show (10000 * nx ≤ 10000 * nx ∧ 10000 * nx + 10000 ≤ 10000 * nx + 10000) ∨ 10000 * nx + 10000 = 0; (first | exact om_c788c03a926e | omega)) (by show (10000 * nx ≤ 10000 * nx ∧ 10000 * nx + 10000 ≤ 10000 * nx + 10000) ∨ 10000 * nx + 10000 = 0; (first | exact om_c788c03a926e | omega)))
theorem fr_KW {w nx : Nat} {V W : Vf} (h : fr (tK nx) V W) : fr (tW w nx) V W := h.weak (trk_all (by show (0 ≤ 0 ∧ 0 ≤ 0) ∨ 0 = 0; omega) (by show (0 ≤ 0 ∧ 0 ≤ 0) ∨ 0 = 0; omega) (by show (0 ≤ 0 ∧ 0 ≤ 0) ∨ 0 = 0; omega) (by show (0 ≤ 0 ∧ 0 ≤ 0) ∨ 0 = 0; omega) (by show (0 ≤ 0 ∧ 0 ≤ 0) ∨ 0 = 0; omega) (by show (0 ≤ 0 ∧ 0 ≤ 0) ∨ 0 = 0; omega) (by show (0 ≤ 0 ∧ 0 ≤ 0) ∨ 0 = 0; omega) (by show (0 ≤ 0 ∧ 0 ≤ 0) ∨ 0 = 0; omega) (by show (0 ≤ 0 ∧ 0 ≤ 0) ∨ 0 = 0; omega) (by show (0 ≤ 0 ∧ 0 ≤ 0) ∨ 0 = 0; omega) (by show (0 ≤ 0 ∧ 0 ≤ 0) ∨ 0 = 0; omega) (by show (0 ≤ 0 ∧ 0 ≤ 0) ∨ 0 = 0; omega) (by show (0 ≤ 0 ∧ 0 ≤ 0) ∨ 0 = 0; omega) (by show (0 ≤ 0 ∧ 0 ≤ 0) ∨ 0 = 0; omega) (by show (0 ≤ 0 ∧ 0 ≤ 0) ∨ 0 = 0; omega) (by show (nx ≤ 0 ∧ 0 ≤ nx + 1) ∨ 0 = 0; omega) (by show (w ≤ 0 ∧ 0 ≤ w + 1) ∨ 0 = 0; omega) (by show (w ≤ 0 ∧ 0 ≤ w + 1) ∨ 0 = 0; omega) (by show (w ≤ 0 ∧ 0 ≤ w + 1) ∨ 0 = 0; omega) (by show (w ≤ 0 ∧ 0 ≤ w + 1) ∨ 0 = 0; omega) (by show (w ≤ 0 ∧ 0 ≤ w + 1) ∨ 0 = 0; omega) (by show (10000 * nx ≤ 10000 * nx ∧ 10000 * nx + 10000 ≤ 10000 * nx + 10000) ∨ 10000 * nx + 10000 = 0; (first | exact om_c788c03a926e | omega)) (by show (10000 * nx ≤ 10000 * nx ∧ 10000 * nx + 10000 ≤ 10000 * nx + 10000) ∨ 10000 * nx + 10000 = 0; (first | exact om_c788c03a926e | omega)) (by show (10000 * nx ≤ 10000 * nx ∧ 10000 * nx + 10000 ≤ 10000 * nx + 10000) ∨ 10000 * nx + 10000 = 0; (first | exact om_c788c03a926e | omega)))
theorem fr_CH {c nx : Nat} {V W : Vf} (h : fr (tC c nx) V W) (h1 : 24 * nx ≤ c) (h2 : c < 24 * nx + 24) : fr (tH nx) V W := h.weak (trk_all (by show (12 * nx ≤ 0 ∧ 0 ≤ 12 * nx + 12) ∨ 0 = 0; omega) (by show (nx ≤ nx ∧ nx + 1 ≤ nx + 1) ∨ nx + 1 = 0; (first | exact om_b5528d217cd1 | omega)) (by show (576 * nx ≤ 24 * c ∧ 24 * c + 24 ≤ 576 * nx + 576) ∨ 24 * c + 24 = 0; (first | exact om_ad1648ce98a8 h1 h2 | omega)) (by show (24 * nx ≤ c ∧ c + 1 ≤ 24 * nx + 24) ∨ c + 1 = 0; (first | exact om_9ce740f23c67 h1 h2 | omega)) (by show (24 * nx ≤ c ∧ c + 1 ≤ 24 * nx + 24) ∨ c + 1 = 0; (first | exact om_9ce740f23c67 h1 h2 | omega)) (by show (24 * nx ≤ c ∧ c + 1 ≤ 24 * nx + 24) ∨ c + 1 = 0; (first | exact om_9ce740f23c67 h1 h2 | omega)) (by show (24 * nx ≤ c ∧ c + 1 ≤ 24 * nx + 24) ∨ c + 1 = 0; (first | exact om_9ce740f23c67 h1 h2 | omega)) (by show (24 * nx ≤ c ∧ c + 1 ≤ 24 * nx + 24) ∨ c + 1 = 0; (first | exact om_9ce740f23c67 h1 h2 | omega)) (by show (192 * nx ≤ 8 * c ∧ 8 * c + 8 ≤ 192 * nx + 192) ∨ 8 * c + 8 = 0; (first | exact om_d630d32cf65a h1 h2 | omega)) (by show (192 * nx ≤ 8 * c ∧ 8 * c + 8 ≤ 192 * nx + 192) ∨ 8 * c + 8 = 0; (first | exact om_d630d32cf65a h1 h2 | omega)) (by show (192 * nx ≤ 8 * c ∧ 8 * c + 8 ≤ 192 * nx + 192) ∨ 8 * c + 8 = 0; (first | exact om_d630d32cf65a h1 h2 | omega)) (by show (192 * nx ≤ 8 * c ∧ 8 * c + 8 ≤ 192 * nx + 192) ∨ 8 * c + 8 = 0; (first | exact om_d630d32cf65a h1 h2 | omega)) (by show (24 * nx ≤ c ∧ c + 1 ≤ 24 * nx + 24) ∨ c + 1 = 0; (first | exact om_9ce740f23c67 h1 h2 | omega)) (by show (24 * nx ≤ c ∧ c + 1 ≤ 24 * nx + 24) ∨ c + 1 = 0; (first | exact om_9ce740f23c67 h1 h2 | omega)) (by show (480 * nx ≤ 20 * c ∧ 20 * c + 20 ≤ 480 * nx + 480) ∨ 20 * c + 20 = 0; (first | exact om_387b799eac69 h1 h2 | omega)) (by show (nx ≤ 0 ∧ 0 ≤ nx + 1) ∨ 0 = 0; omega) (by show (12 * nx ≤ 0 ∧ 0 ≤ 12 * nx + 12) ∨ 0 = 0; omega) (by show (12 * nx ≤ 0 ∧ 0 ≤ 12 * nx + 12) ∨ 0 = 0; omega) (by show (12 * nx ≤ 0 ∧ 0 ≤ 12 * nx + 12) ∨ 0 = 0; omega) (by show (12 * nx ≤ 0 ∧ 0 ≤ 12 * nx + 12) ∨ 0 = 0; omega) (by show (12 * nx ≤ 0 ∧ 0 ≤ 12 * nx + 12) ∨ 0 = 0; omega) (by show (10000 * nx ≤ 10000 * nx ∧ 10000 * nx + 10000 ≤ 10000 * nx + 10000) ∨ 10000 * nx + 10000 = 0; (first | exact om_c788c03a926e | omega)) (by show (10000 * nx ≤ 10000 * nx ∧ 10000 * nx + 10000 ≤ 10000 * nx + 10000) ∨ 10000 * nx + 10000 = 0; (first | exact om_c788c03a926e | omega)) (by show (10000 * nx ≤ 10000 * nx ∧ 10000 * nx + 10000 ≤ 10000 * nx + 10000) ∨ 10000 * nx + 10000 = 0; (first | exact om_c788c03a926e | omega)))
theorem fr_WH {w nx : Nat} {V W : Vf} (h : fr (tW w nx) V W) (h1 : 12 * nx ≤ w) (h2 : w < 12 * nx + 12) : fr (tH nx) V W := h.weak (trk_all (by show (12 * nx ≤ 0 ∧ 0 ≤ 12 * nx + 12) ∨ 0 = 0; omega) (by show (nx ≤ 0 ∧ 0 ≤ nx + 1) ∨ 0 = 0; omega) (by show (576 * nx ≤ 0 ∧ 0 ≤ 576 * nx + 576) ∨ 0 = 0; omega) (by show (24 * nx ≤ 0 ∧ 0 ≤ 24 * nx + 24) ∨ 0 = 0; omega) (by show (24 * nx ≤ 0 ∧ 0 ≤ 24 * nx + 24) ∨ 0 = 0; omega) (by show (24 * nx ≤ 0 ∧ 0 ≤ 24 * nx + 24) ∨ 0 = 0; omega) (by show (24 * nx ≤ 0 ∧ 0 ≤ 24 * nx + 24) ∨ 0 = 0; omega) (by show (24 * nx ≤ 0 ∧ 0 ≤ 24 * nx + 24) ∨ 0 = 0; omega) (by show (192 * nx ≤ 0 ∧ 0 ≤ 192 * nx + 192) ∨ 0 = 0; omega) (by show (192 * nx ≤ 0 ∧ 0 ≤ 192 * nx + 192) ∨ 0 = 0; omega) (by show (192 * nx ≤ 0 ∧ 0 ≤ 192 * nx + 192) ∨ 0 = 0; omega) (by show (192 * nx ≤ 0 ∧ 0 ≤ 192 * nx + 192) ∨ 0 = 0; omega) (by show (24 * nx ≤ 0 ∧ 0 ≤ 24 * nx + 24) ∨ 0 = 0; omega) (by show (24 * nx ≤ 0 ∧ 0 ≤ 24 * nx + 24) ∨ 0 = 0; omega) (by show (480 * nx ≤ 0 ∧ 0 ≤ 480 * nx + 480) ∨ 0 = 0; omega) (by show (nx ≤ nx ∧ nx + 1 ≤ nx + 1) ∨ nx + 1 = 0; (first | exact om_b5528d217cd1 | omega)) (by show (12 * nx ≤ w ∧ w + 1 ≤ 12 * nx + 12) ∨ w + 1 = 0; (first | exact om_0f45632b1ad0 h1 h2 | omega)) (by show (12 * nx ≤ w ∧ w + 1 ≤ 12 * nx + 12) ∨ w + 1 = 0; (first | exact om_0f45632b1ad0 h1 h2 | omega)) (by show (12 * nx ≤ w ∧ w + 1 ≤ 12 * nx + 12) ∨ w + 1 = 0; (first | exact om_0f45632b1ad0 h1 h2 | omega)) (by show (12 * nx ≤ w ∧ w + 1 ≤ 12 * nx + 12) ∨ w + 1 = 0; (first | exact om_0f45632b1ad0 h1 h2 | omega)) (by show (12 * nx ≤ w ∧ w + 1 ≤ 12 * nx + 12) ∨ w + 1 = 0; (first | exact om_0f45632b1ad0 h1 h2 | omega)) (by show (10000 * nx ≤ 10000 * nx ∧ 10000 * nx + 10000 ≤ 10000 * nx + 10000) ∨ 10000 * nx + 10000 = 0; (first | exact om_c788c03a926e | omega)) (by show (10000 * nx ≤ 10000 * nx ∧ 10000 * nx + 10000 ≤ 10000 * nx + 10000) ∨ 10000 * nx + 10000 = 0; (first | exact om_c788c03a926e | omega)) (by show (10000 * nx ≤ 10000 * nx ∧ 10000 * nx + 10000 ≤ 10000 * nx + 10000) ∨ 10000 * nx + 10000 = 0; (first | exact om_c788c03a926e | omega)))
theorem fr_SH {s nx : Nat} {V W : Vf} (h : fr (tS s) V W) (h1 : 12 * nx ≤ s) (h2 : s < 12 * nx + 12) : fr (tH nx) V W := h.weak (trk_all (by show (12 * nx ≤ s ∧ s + 1 ≤ 12 * nx + 12) ∨ s + 1 = 0; (first | exact om_0f45632b1ad0 h1 h2 | omega)) (by show (nx ≤ 0 ∧ 0 ≤ nx + 1) ∨ 0 = 0; omega) (by show (576 * nx ≤ 0 ∧ 0 ≤ 576 * nx + 576) ∨ 0 = 0; omega) (by show (24 * nx ≤ 0 ∧ 0 ≤ 24 * nx + 24) ∨ 0 = 0; omega) (by show (24 * nx ≤ 0 ∧ 0 ≤ 24 * nx + 24) ∨ 0 = 0; omega) (by show (24 * nx ≤ 0 ∧ 0 ≤ 24 * nx + 24) ∨ 0 = 0; omega) (by show (24 * nx ≤ 0 ∧ 0 ≤ 24 * nx + 24) ∨ 0 = 0; omega) (by show (24 * nx ≤ 0 ∧ 0 ≤ 24 * nx + 24) ∨ 0 = 0; omega) (by show (192 * nx ≤ 0 ∧ 0 ≤ 192 * nx + 192) ∨ 0 = 0; omega) (by show (192 * nx ≤ 0 ∧ 0 ≤ 192 * nx + 192) ∨ 0 = 0; omega) (by show (192 * nx ≤ 0 ∧ 0 ≤ 192 * nx + 192) ∨ 0 = 0; omega) (by show (192 * nx ≤ 0 ∧ 0 ≤ 192 * nx + 192) ∨ 0 = 0; omega) (by show (24 * nx ≤ 0 ∧ 0 ≤ 24 * nx + 24) ∨ 0 = 0; omega) (by show (24 * nx ≤ 0 ∧ 0 ≤ 24 * nx + 24) ∨ 0 = 0; omega) (by show (480 * nx ≤ 0 ∧ 0 ≤ 480 * nx + 480) ∨ 0 = 0; omega) (by show (nx ≤ 0 ∧ 0 ≤ nx + 1) ∨ 0 = 0; omega) (by show (12 * nx ≤ 0 ∧ 0 ≤ 12 * nx + 12) ∨ 0 = 0; omega) (by show (12 * nx ≤ 0 ∧ 0 ≤ 12 * nx + 12) ∨ 0 = 0; omega) (by show (12 * nx ≤ 0 ∧ 0 ≤ 12 * nx + 12) ∨ 0 = 0; omega) (by show (12 * nx ≤ 0 ∧ 0 ≤ 12 * nx + 12) ∨ 0 = 0; omega) (by show (12 * nx ≤ 0 ∧ 0 ≤ 12 * nx + 12) ∨ 0 = 0; omega) (by show (10000 * nx ≤ 0 ∧ 0 ≤ 10000 * nx + 10000) ∨ 0 = 0; omega) (by show (10000 * nx ≤ 0 ∧ 0 ≤ 10000 * nx + 10000) ∨ 0 = 0; omega) (by show (10000 * nx ≤ 0 ∧ 0 ≤ 10000 * nx + 10000) ∨ 0 = 0; omega))
/-! a component's and a wrap's row -/
def stOK (nd : Int) (ar : Bool) (V : Vf) (lo hi : Nat) (x : Int32) : Prop := 0 ≤ x.toInt → CE nd ar V lo hi x.toInt.toNat
theorem stOK.mv {nd nd' : Int} {ar : Bool} {V W : Vf} {lo hi hi' : Nat} {x : Int32} (h : stOK nd ar V lo hi x) (hn : nd ≤ nd') (hh : hi ≤ hi') (hs : same3 V W lo hi) : stOK nd' ar W lo hi' x := fun h0 => (h h0).same hn hh hs
def cOK (V : Vf) (lo hi i : Nat) : Prop := stOK (V 27 i).toInt false V lo hi (V 32 i) ∧ stOK (V 27 i).toInt false V lo hi (V 33 i) ∧ (∀ m, m < 20 → stOK (V 27 i).toInt false V lo hi (V 34 (20 * i + m))) ∧ (∀ k : Nat, (k : Int) < (V 27 i).toInt → 0 ≤ (V 28 (8 * i + k)).toInt ∧ ((V 29 (8 * i + k)).toInt = 1 → (V 30 (8 * i + k)).toInt = 0))
def wOK (V : Vf) (lo hi i : Nat) : Prop := 0 ≤ (V 44 i).toInt ∧ CE 0 (decide ((V 43 i).toInt = 1)) V lo hi (V 44 i).toInt.toNat ∧ 0 ≤ (V 40 i).toInt
theorem cOK.mv {V W : Vf} {lo hi hi' i : Nat} (h : cOK V lo hi i) (hs : same3 V W lo hi) (hh : hi ≤ hi') (e27 : W 27 i = V 27 i) (e32 : W 32 i = V 32 i) (e33 : W 33 i = V 33 i) (e34 : ∀ m, m < 20 → W 34 (20 * i + m) = V 34 (20 * i + m)) (e28 : ∀ k, k < 8 → W 28 (8 * i + k) = V 28 (8 * i + k)) (e29 : ∀ k, k < 8 → W 29 (8 * i + k) = V 29 (8 * i + k)) (e30 : ∀ k, k < 8 → W 30 (8 * i + k) = V 30 (8 * i + k)) (h8 : (V 27 i).toInt ≤ 8) : cOK W lo hi' i := by
  refine ⟨?_, ?_, ?_, ?_⟩
  · rw [e27, e32]
    exact h.1.mv (Int.le_refl _) hh hs
  · rw [e27, e33]
    exact h.2.1.mv (Int.le_refl _) hh hs
  · intro m hm
    rw [e27, e34 m hm]
    exact (h.2.2.1 m hm).mv (Int.le_refl _) hh hs
  · intro k hk
    rw [e27] at hk
    rw [e28 k (by omega), e29 k (by omega), e30 k (by omega)]
    exact h.2.2.2 k hk
theorem cOK.ag {fs : List (Nat × Nat)} {cs : List Nat} {V W : Vf} {lo hi hi' i : Nat} (h : cOK V lo hi i) (hM : rgd bM V) (a : agr fs cs V W) (hs : same3 V W lo hi) (hh : hi ≤ hi') (h27 : ∀ k, wrL fs cs 27 k = false) (h28 : ∀ k, wrL fs cs 28 k = false) (h32 : ∀ k, wrL fs cs 32 k = false) (h33 : ∀ k, wrL fs cs 33 k = false) (h34 : ∀ k, wrL fs cs 34 k = false) (h29 : ∀ k, wrL fs cs 29 k = false) (h30 : ∀ k, wrL fs cs 30 k = false) : cOK W lo hi' i :=
  h.mv hs hh (a _ _ (h27 _)) (a _ _ (h32 _)) (a _ _ (h33 _)) (fun _ _ => a _ _ (h34 _)) (fun _ _ => a _ _ (h28 _)) (fun _ _ => a _ _ (h29 _)) (fun _ _ => a _ _ (h30 _)) (hM 27 i).2
theorem cOK.out {R : Nat → Nat × Nat} {V W : Vf} {lo hi hi' i : Nat} (h : cOK V lo hi i) (hM : rgd bM V) (f : fr R V W) (hs : same3 V W lo hi) (hh : hi ≤ hi') (o27 : i < (R 27).1 ∨ (R 27).2 ≤ i) (o32 : i < (R 32).1 ∨ (R 32).2 ≤ i) (o33 : i < (R 33).1 ∨ (R 33).2 ≤ i) (o34 : ∀ m, m < 20 → 20 * i + m < (R 34).1 ∨ (R 34).2 ≤ 20 * i + m) (o28 : ∀ k, k < 8 → 8 * i + k < (R 28).1 ∨ (R 28).2 ≤ 8 * i + k) (o29 : ∀ k, k < 8 → 8 * i + k < (R 29).1 ∨ (R 29).2 ≤ 8 * i + k) (o30 : ∀ k, k < 8 → 8 * i + k < (R 30).1 ∨ (R 30).2 ≤ 8 * i + k) : cOK W lo hi' i :=
  h.mv hs hh (f _ _ rfl o27) (f _ _ rfl o32) (f _ _ rfl o33) (fun m hm => f _ _ rfl (o34 m hm)) (fun k hk => f _ _ rfl (o28 k hk)) (fun k hk => f _ _ rfl (o29 k hk)) (fun k hk => f _ _ rfl (o30 k hk)) (hM 27 i).2
theorem wOK.out {R : Nat → Nat × Nat} {V W : Vf} {lo hi hi' i : Nat} (h : wOK V lo hi i) (f : fr R V W) (hs : same3 V W lo hi) (hh : hi ≤ hi') (o40 : i < (R 40).1 ∨ (R 40).2 ≤ i) (o43 : i < (R 43).1 ∨ (R 43).2 ≤ i) (o44 : i < (R 44).1 ∨ (R 44).2 ≤ i) : wOK W lo hi' i := by
  refine ⟨?_, ?_, ?_⟩
  · rw [f _ _ rfl o44]
    exact h.1
  · rw [f _ _ rfl o44, f _ _ rfl o43]
    exact h.2.1.same (Int.le_refl _) hh hs
  · rw [f _ _ rfl o40]
    exact h.2.2
/-- the rows of a half that are told -/
def TBL (V : Vf) (nx hi : Nat) : Prop := (∀ i : Nat, (i : Int) < (V 19 nx).toInt → cOK V (10000 * nx) hi (24 * nx + i)) ∧ (∀ i : Nat, (i : Int) < (V 39 nx).toInt → wOK V (10000 * nx) hi (12 * nx + i))
theorem TBL.keep {R : Nat → Nat × Nat} {V W : Vf} {nx hi hi' : Nat} (h : TBL V nx hi) (hM : rgd bM V) (f : fr R V W) (hh : hi ≤ hi') (o19 : (R 19).2 = 0) (o27 : (R 27).2 = 0) (o28 : (R 28).2 = 0) (o29 : (R 29).2 = 0) (o30 : (R 30).2 = 0) (o32 : (R 32).2 = 0) (o33 : (R 33).2 = 0) (o34 : (R 34).2 = 0) (o39 : (R 39).2 = 0) (o40 : (R 40).2 = 0) (o43 : (R 43).2 = 0) (o44 : (R 44).2 = 0) (o45 : (R 45).2 = 0) (o46 : (R 46).2 = 0) (o47 : (R 47).2 = 0) : TBL W nx hi' := by
  have hs : same3 V W (10000 * nx) hi := fun i _ _ => ⟨f _ _ rfl (by omega), f _ _ rfl (by omega), f _ _ rfl (by omega)⟩
  refine ⟨fun i q => ?_, fun i q => ?_⟩
  · rw [f 19 nx rfl (by omega)] at q
    exact (h.1 i q).out hM f hs hh (by omega) (by omega) (by omega) (fun _ _ => by omega) (fun _ _ => by omega) (fun _ _ => by omega) (fun _ _ => by omega)
  · rw [f 39 nx rfl (by omega)] at q
    exact (h.2 i q).out f hs hh (by omega) (by omega) (by omega)
theorem TBL.other {V W : Vf} {m nx hi : Nat} (h : TBL V m hi) (hM : rgd bM V) (f : fr (tH nx) V W) (hn : m ≠ nx) (hh : hi ≤ 10000 * m + 10000) : TBL W m hi := by
  have hs : same3 V W (10000 * m) hi := fun i a b => ⟨f 45 i rfl (show i < 10000 * nx ∨ 10000 * nx + 10000 ≤ i by omega), f 46 i rfl (show i < 10000 * nx ∨ 10000 * nx + 10000 ≤ i by omega), f 47 i rfl (show i < 10000 * nx ∨ 10000 * nx + 10000 ≤ i by omega)⟩
  have h19 : ∀ i : Nat, (i : Int) < (V 19 m).toInt → i < 24 := fun i q => by
    have h2 : (V 19 m).toInt ≤ 24 := (hM 19 m).2
    omega
  have h39 : ∀ i : Nat, (i : Int) < (V 39 m).toInt → i < 12 := fun i q => by
    have h2 : (V 39 m).toInt ≤ 12 := (hM 39 m).2
    omega
  refine ⟨fun i q => ?_, fun i q => ?_⟩
  · rw [f 19 m rfl (show m < nx ∨ nx + 1 ≤ m by omega)] at q
    have q2 := h19 i q
    exact (h.1 i q).out hM f hs (Nat.le_refl _) (show _ < 24 * nx ∨ 24 * nx + 24 ≤ _ by omega) (show _ < 24 * nx ∨ 24 * nx + 24 ≤ _ by omega) (show _ < 24 * nx ∨ 24 * nx + 24 ≤ _ by omega) (fun j _ => show _ < 480 * nx ∨ 480 * nx + 480 ≤ _ by omega) (fun j _ => show _ < 192 * nx ∨ 192 * nx + 192 ≤ _ by omega) (fun j _ => show _ < 192 * nx ∨ 192 * nx + 192 ≤ _ by omega) (fun j _ => show _ < 192 * nx ∨ 192 * nx + 192 ≤ _ by omega)
  · rw [f 39 m rfl (show m < nx ∨ nx + 1 ≤ m by omega)] at q
    have q2 := h39 i q
    exact (h.2 i q).out f hs (Nat.le_refl _) (show _ < 12 * nx ∨ 12 * nx + 12 ≤ _ by omega) (show _ < 12 * nx ∨ 12 * nx + 12 ≤ _ by omega) (show _ < 12 * nx ∨ 12 * nx + 12 ≤ _ by omega)
theorem TBL.comp {V W : Vf} {c nx hi hi' : Nat} (h : TBL V nx hi) (hM : rgd bM V) (f : fr (tC c nx) V W) (hs : same3 V W (10000 * nx) hi) (hh : hi ≤ hi') (hc : (c : Int) = 24 * (nx : Int) + (V 19 nx).toInt) (h19 : (W 19 nx).toInt = (V 19 nx).toInt + 1) (hr : cOK W (10000 * nx) hi' c) : TBL W nx hi' := by
  have h0 : 0 ≤ (V 19 nx).toInt := (hM 19 nx).1
  refine ⟨fun i q => ?_, fun i q => ?_⟩
  · by_cases hi : (i : Int) < (V 19 nx).toInt
    · exact (h.1 i hi).out hM f hs hh (show _ < c ∨ c + 1 ≤ _ by omega) (show _ < c ∨ c + 1 ≤ _ by omega) (show _ < c ∨ c + 1 ≤ _ by omega) (fun j _ => show _ < 20 * c ∨ 20 * c + 20 ≤ _ by omega) (fun j _ => show _ < 8 * c ∨ 8 * c + 8 ≤ _ by omega) (fun j _ => show _ < 8 * c ∨ 8 * c + 8 ≤ _ by omega) (fun j _ => show _ < 8 * c ∨ 8 * c + 8 ≤ _ by omega)
    · have e : 24 * nx + i = c := by omega
      rw [e]
      exact hr
  · have e : W 39 nx = V 39 nx := f 39 nx rfl (Or.inr (Nat.zero_le _))
    rw [e] at q
    exact (h.2 i q).out f hs hh (Or.inr (Nat.zero_le _)) (Or.inr (Nat.zero_le _)) (Or.inr (Nat.zero_le _))
theorem TBL.wrap {V W : Vf} {w nx hi hi' : Nat} (h : TBL V nx hi) (hM : rgd bM V) (f : fr (tW w nx) V W) (hs : same3 V W (10000 * nx) hi) (hh : hi ≤ hi') (hc : (w : Int) = 12 * (nx : Int) + (V 39 nx).toInt) (h39 : (W 39 nx).toInt = (V 39 nx).toInt + 1) (hr : wOK W (10000 * nx) hi' w) : TBL W nx hi' := by
  have h0 : 0 ≤ (V 39 nx).toInt := (hM 39 nx).1
  refine ⟨fun i q => ?_, fun i q => ?_⟩
  · have e : W 19 nx = V 19 nx := f 19 nx rfl (Or.inr (Nat.zero_le _))
    rw [e] at q
    exact (h.1 i q).out hM f hs hh (Or.inr (Nat.zero_le _)) (Or.inr (Nat.zero_le _)) (Or.inr (Nat.zero_le _)) (fun _ _ => Or.inr (Nat.zero_le _)) (fun _ _ => Or.inr (Nat.zero_le _)) (fun _ _ => Or.inr (Nat.zero_le _)) (fun _ _ => Or.inr (Nat.zero_le _))
  · by_cases hi : (i : Int) < (V 39 nx).toInt
    · exact (h.2 i hi).out f hs hh (show _ < w ∨ w + 1 ≤ _ by omega) (show _ < w ∨ w + 1 ≤ _ by omega) (show _ < w ∨ w + 1 ≤ _ by omega)
    · have e : 12 * nx + i = w := by omega
      rw [e]
      exact hr
/-! one cell of a component's row is written -/
theorem same3.o {V W : Vf} {c k lo hi : Nat} {v : Int32} (e : W = up2 V c k v) (h1 : ¬ 45 = c) (h2 : ¬ 46 = c) (h3 : ¬ 47 = c) : same3 V W lo hi := fun _ _ _ => ⟨up2_o e h1, up2_o e h2, up2_o e h3⟩
theorem cOK.put32 {V W : Vf} {lo hi i k : Nat} {v : Int32} (h : cOK V lo hi i) (e : W = up2 V 32 k v) (hk : k = i) (hv : CE (V 27 i).toInt false V lo hi v.toInt.toNat) : cOK W lo hi i := by
  subst hk
  have hs : same3 V W lo hi := same3.o e (by decide) (by decide) (by decide)
  have e27 : W 27 k = V 27 k := up2_o e (by decide)
  refine ⟨?_, ?_, ?_, ?_⟩
  · rw [e27, up2_s e]
    exact fun _ => hv.same (Int.le_refl _) (Nat.le_refl _) hs
  · rw [e27, up2_o e (by decide)]
    exact h.2.1.mv (Int.le_refl _) (Nat.le_refl _) hs
  · intro m hm
    rw [e27, up2_o e (by decide)]
    exact (h.2.2.1 m hm).mv (Int.le_refl _) (Nat.le_refl _) hs
  · intro j hj
    rw [e27] at hj
    rw [up2_o e (by decide), up2_o e (by decide), up2_o e (by decide)]
    exact h.2.2.2 j hj
theorem cOK.put33 {V W : Vf} {lo hi i k : Nat} {v : Int32} (h : cOK V lo hi i) (e : W = up2 V 33 k v) (hk : k = i) (hv : CE (V 27 i).toInt false V lo hi v.toInt.toNat) : cOK W lo hi i := by
  subst hk
  have hs : same3 V W lo hi := same3.o e (by decide) (by decide) (by decide)
  have e27 : W 27 k = V 27 k := up2_o e (by decide)
  refine ⟨?_, ?_, ?_, ?_⟩
  · rw [e27, up2_o e (by decide)]
    exact h.1.mv (Int.le_refl _) (Nat.le_refl _) hs
  · rw [e27, up2_s e]
    exact fun _ => hv.same (Int.le_refl _) (Nat.le_refl _) hs
  · intro m hm
    rw [e27, up2_o e (by decide)]
    exact (h.2.2.1 m hm).mv (Int.le_refl _) (Nat.le_refl _) hs
  · intro j hj
    rw [e27] at hj
    rw [up2_o e (by decide), up2_o e (by decide), up2_o e (by decide)]
    exact h.2.2.2 j hj
theorem cOK.put34 {V W : Vf} {lo hi i k : Nat} {v : Int32} (h : cOK V lo hi i) (e : W = up2 V 34 k v) (hv : CE (V 27 i).toInt false V lo hi v.toInt.toNat) : cOK W lo hi i := by
  have hs : same3 V W lo hi := same3.o e (by decide) (by decide) (by decide)
  have e27 : W 27 i = V 27 i := up2_o e (by decide)
  refine ⟨?_, ?_, ?_, ?_⟩
  · rw [e27, up2_o e (by decide)]
    exact h.1.mv (Int.le_refl _) (Nat.le_refl _) hs
  · rw [e27, up2_o e (by decide)]
    exact h.2.1.mv (Int.le_refl _) (Nat.le_refl _) hs
  · intro m hm
    by_cases hk : 20 * i + m = k
    · rw [e27, hk, up2_s e]
      exact fun _ => hv.same (Int.le_refl _) (Nat.le_refl _) hs
    · rw [e27, up2_k e hk]
      exact (h.2.2.1 m hm).mv (Int.le_refl _) (Nat.le_refl _) hs
  · intro j hj
    rw [e27] at hj
    rw [up2_o e (by decide), up2_o e (by decide), up2_o e (by decide)]
    exact h.2.2.2 j hj
/-- one need more -/
theorem cOK.need {V W : Vf} {lo hi hi' i : Nat} (h : cOK V lo hi i) (hs : same3 V W lo hi) (hh : hi ≤ hi') (e27 : (W 27 i).toInt = (V 27 i).toInt + 1) (e32 : W 32 i = V 32 i) (e33 : W 33 i = V 33 i) (e34 : ∀ m, m < 20 → W 34 (20 * i + m) = V 34 (20 * i + m)) (e28 : ∀ k : Nat, (k : Int) < (V 27 i).toInt → W 28 (8 * i + k) = V 28 (8 * i + k)) (e29 : ∀ k : Nat, (k : Int) < (V 27 i).toInt → W 29 (8 * i + k) = V 29 (8 * i + k)) (e30 : ∀ k : Nat, (k : Int) < (V 27 i).toInt → W 30 (8 * i + k) = V 30 (8 * i + k)) (hn : ∀ k : Nat, (k : Int) = (V 27 i).toInt → 0 ≤ (W 28 (8 * i + k)).toInt ∧ ((W 29 (8 * i + k)).toInt = 1 → (W 30 (8 * i + k)).toInt = 0)) : cOK W lo hi' i := by
  refine ⟨?_, ?_, ?_, ?_⟩
  · rw [e32]
    exact h.1.mv (by omega) hh hs
  · rw [e33]
    exact h.2.1.mv (by omega) hh hs
  · intro m hm
    rw [e34 m hm]
    exact (h.2.2.1 m hm).mv (by omega) hh hs
  · intro k hk
    by_cases hk2 : (k : Int) < (V 27 i).toInt
    · rw [e28 k hk2, e29 k hk2, e30 k hk2]
      exact h.2.2.2 k hk2
    · exact hn k (by omega)
/-- a row that holds nothing yet -/
theorem cOK.new {V : Vf} {lo hi i : Nat} (e27 : (V 27 i).toInt = 0) (e32 : (V 32 i).toInt = -1) (e33 : (V 33 i).toInt = -1) (e34 : ∀ m, m < 20 → (V 34 (20 * i + m)).toInt = -1) : cOK V lo hi i :=
  ⟨fun q => absurd q (by omega), fun q => absurd q (by omega), fun m hm q => absurd q (by rw [e34 m hm]; omega), fun k hk => absurd hk (by omega)⟩

theorem dk9_dX12_code_0_0 : dOk cX12_code [(0, .aload_n 0, 1), (1, .getfield 295, 3), (4, .aload_n 0, 1), (5, .getfield 292, 3), (8, .iadd, 1), (9, .istore_n 1, 1), (10, .aload_n 0, 1), (11, .iconst 0, 1), (12, .putfield 377, 3), (15, .aload_n 0, 1), (16, .invokevirtual 380, 3), (19, .aload_n 0, 1), (20, .iconst 0, 1), (21, .iconst 0, 1), (22, .iconst 0, 1), (23, .invokevirtual 383, 3), (26, .istore_n 2, 1), (27, .iload_n 1, 1), (28, .ireturn, 1)] = true := by decide +kernel
theorem dX12_code_0 : decode cX12_code 0 = .ok (.aload_n 0, 1) := dr9 dk9_dX12_code_0_0 0 (0, .aload_n 0, 1) rfl
theorem dX12_code_1 : decode cX12_code 1 = .ok (.getfield 295, 3) := dr9 dk9_dX12_code_0_0 1 (1, .getfield 295, 3) rfl
theorem dX12_code_4 : decode cX12_code 4 = .ok (.aload_n 0, 1) := dr9 dk9_dX12_code_0_0 2 (4, .aload_n 0, 1) rfl
theorem dX12_code_5 : decode cX12_code 5 = .ok (.getfield 292, 3) := dr9 dk9_dX12_code_0_0 3 (5, .getfield 292, 3) rfl
theorem dX12_code_8 : decode cX12_code 8 = .ok (.iadd, 1) := dr9 dk9_dX12_code_0_0 4 (8, .iadd, 1) rfl
theorem dX12_code_9 : decode cX12_code 9 = .ok (.istore_n 1, 1) := dr9 dk9_dX12_code_0_0 5 (9, .istore_n 1, 1) rfl
theorem dX12_code_10 : decode cX12_code 10 = .ok (.aload_n 0, 1) := dr9 dk9_dX12_code_0_0 6 (10, .aload_n 0, 1) rfl
theorem dX12_code_11 : decode cX12_code 11 = .ok (.iconst 0, 1) := dr9 dk9_dX12_code_0_0 7 (11, .iconst 0, 1) rfl
theorem dX12_code_12 : decode cX12_code 12 = .ok (.putfield 377, 3) := dr9 dk9_dX12_code_0_0 8 (12, .putfield 377, 3) rfl
theorem dX12_code_15 : decode cX12_code 15 = .ok (.aload_n 0, 1) := dr9 dk9_dX12_code_0_0 9 (15, .aload_n 0, 1) rfl
theorem dX12_code_16 : decode cX12_code 16 = .ok (.invokevirtual 380, 3) := dr9 dk9_dX12_code_0_0 10 (16, .invokevirtual 380, 3) rfl
theorem dX12_code_19 : decode cX12_code 19 = .ok (.aload_n 0, 1) := dr9 dk9_dX12_code_0_0 11 (19, .aload_n 0, 1) rfl
theorem dX12_code_20 : decode cX12_code 20 = .ok (.iconst 0, 1) := dr9 dk9_dX12_code_0_0 12 (20, .iconst 0, 1) rfl
theorem dX12_code_21 : decode cX12_code 21 = .ok (.iconst 0, 1) := dr9 dk9_dX12_code_0_0 13 (21, .iconst 0, 1) rfl
theorem dX12_code_22 : decode cX12_code 22 = .ok (.iconst 0, 1) := dr9 dk9_dX12_code_0_0 14 (22, .iconst 0, 1) rfl
theorem dX12_code_23 : decode cX12_code 23 = .ok (.invokevirtual 383, 3) := dr9 dk9_dX12_code_0_0 15 (23, .invokevirtual 383, 3) rfl
theorem dX12_code_26 : decode cX12_code 26 = .ok (.istore_n 2, 1) := dr9 dk9_dX12_code_0_0 16 (26, .istore_n 2, 1) rfl
theorem dX12_code_27 : decode cX12_code 27 = .ok (.iload_n 1, 1) := dr9 dk9_dX12_code_0_0 17 (27, .iload_n 1, 1) rfl
theorem dX12_code_28 : decode cX12_code 28 = .ok (.ireturn, 1) := dr9 dk9_dX12_code_0_0 18 (28, .ireturn, 1) rfl
abbrev r_s_expression8 : Room := { frames := 93, cells := 0, slots := 0, locals := 2820 }
abbrev q_s_expression8 (D : va_G) (ks : KS) (ad : Nat → Nat) (kk : Nat → ClassId) (V : Vf) (L : Lf) (n : Nat) (xx : Int) (nd : Int) (ar : Bool) (hh : Nat) (A : Nat → Prop) : Array Value → State → Outcome → State → Prop := q_s_expression D ks ad kk V L n xx nd ar hh A
theorem s_expression8 (l : Launch) (D : va_G) (ks : KS) (sz : Nat) (ad : Nat → Nat) (kk : Nat → ClassId) (V : Vf) (L : Lf) (n : Nat) (xx : Int) (nd : Int) (ar : Bool) (hh : Nat) (hMV : rgd bM V) (x1 : (V 4 n).toInt = 0) (x2 : n ≤ 4000) (x3 : Imp ((V 0 8).toInt = 0) (0 ≤ (V 0 7).toInt ∧ (V 0 7).toInt ≤ n)) (c1 : Imp ((V 0 8).toInt = 0) ((V 0 48).toInt ≤ 2 * (V 0 7).toInt)) (c2 : (V 0 48).toInt ≤ 8000 + xx) (c3 : 0 ≤ xx ∧ xx ≤ 100) (cw : cP V L nd ar) (c4 : (V 0 50).toInt = 0) (c9 : 28 ≤ ((hh : Nat) : Int)) : Met l yX12_expression (Cond.code yX12_expression cX12_expression 3 none :: GW) r_s_expression8 (va_Pc [.ref (ad 0)] (gp D ks (mw ad kk ks.1 V L) (mty kk) sz)) (q_s_expression8 D ks ad kk V L n xx nd ar hh (va_A (mw ad kk ks.1 V L) sz)) 0 0 (va_A (mw ad kk ks.1 V L) sz) :=
  K_expr 8 sz ad kk V L n xx nd ar hh hMV x1 x2 x3 c1 c2 c3 (by omega) cw (by omega)

abbrev r_s_code : Room := { frames := 94, cells := 0, slots := 0, locals := 2842 }
abbrev q_s_code (D : va_G) (ks : KS) (ad : Nat → Nat) (kk : Nat → ClassId) (V : Vf) (L : Lf) (n : Nat) (nd : Int) (ar : Bool) (nx : Nat) (A : Nat → Prop) : Array Value → State → Outcome → State → Prop := va_Qi (fun (r : Int32) (u : Vf × Lf) => rgd bM u.1 ∧ agr [(0, 7), (0, 8), (0, 48), (0, 50)] [35, 36, 37, 38, 45, 46, 47] V u.1 ∧ agL [35, 36, 37, 38, 45, 46, 47] L u.2 ∧ fr (tK nx) V u.1 ∧ (0 ≤ r.toInt ∧ r.toInt ≤ 20000) ∧ (Imp ((u.1 0 8).toInt = 0) (0 ≤ (u.1 0 7).toInt ∧ (u.1 0 7).toInt ≤ n ∧ (V 0 8).toInt = 0 ∧ (V 0 7).toInt ≤ (u.1 0 7).toInt)) ∧ (Imp ((u.1 0 8).toInt = 0) ((u.1 0 48).toInt - (V 0 48).toInt ≤ 2 * ((u.1 0 7).toInt - (V 0 7).toInt) + 1)) ∧ ((V 0 48).toInt + 1 ≤ (u.1 0 48).toInt) ∧ ((u.1 0 48).toInt ≤ 8120) ∧ (sameX V u.1 (pA V) (pE V)) ∧ (Imp ((u.1 0 8).toInt = 0) (CE nd ar u.1 (10000 * nx) (pA u.1) (pA V))) ∧ (r.toInt = (pA V : Int))) (fun u t => gq D A (mw ad kk ks.1 u.1 u.2) (mty kk) t) A
set_option maxHeartbeats 4000000 in
set_option maxRecDepth 100000 in
theorem s_code (l : Launch) (D : va_G) (ks : KS) (sz : Nat) (ad : Nat → Nat) (kk : Nat → ClassId) (V : Vf) (L : Lf) (n : Nat) (nd : Int) (ar : Bool) (nx : Nat) (hMV : rgd bM V) (x1 : (V 4 n).toInt = 0) (x2 : n ≤ 4000) (x3 : Imp ((V 0 8).toInt = 0) (0 ≤ (V 0 7).toInt ∧ (V 0 7).toInt ≤ n)) (c1 : Imp ((V 0 8).toInt = 0) ((V 0 48).toInt ≤ 2 * (V 0 7).toInt)) (c2 : (V 0 48).toInt ≤ 8060) (zq1 : (nx : Int) = (V 0 12).toInt) (zq2 : (V 0 49).toInt = 10000 * (nx : Int)) (cw : cP V L nd ar)  : Met l yX12_code (Cond.code yX12_code cX12_code 3 (some .int) :: GW) r_s_code (va_Pc [.ref (ad 0)] (gp D ks (mw ad kk ks.1 V L) (mty kk) sz)) (q_s_code D ks ad kk V L  n nd ar nx (va_A (mw ad kk ks.1 V L) sz)) 0 0 (va_A (mw ad kk ks.1 V L) sz) := by
  refine g_met (q_s_code D ks ad kk V L  n nd ar nx) (by decide) (Nat.le_of_ble_eq_true rfl) ?_
  intro p e s m below meth c A ls H locs hx hb hr hml hown hg hlocks hin hnw hgk hP hK hD hS hA hl
  have hown : s.vm.findClass RX12 = some m.cls := hown
  have hl : lv_has ls 3 [(0, .ref (ad 0))] := hl
  have hP : va_P D vwCl (mw ad kk ks.1 V L) H := hP
  have hD : va_D A (mw ad kk ks.1 V L) := hD
  have hK : va_K D vwCl (mty kk) s := hK
  have agV : agr [(0, 7), (0, 8), (0, 48), (0, 50)] [35, 36, 37, 38, 45, 46, 47] V V := agr.rf
  have alL : agL [35, 36, 37, 38, 45, 46, 47] L L := agL.rf
  have r1 : 0 ≤ ((V 0 8)).toInt ∧ ((V 0 8)).toInt ≤ 70000 := hMV 0 8
  have r2 : 0 ≤ ((V 0 48)).toInt ∧ ((V 0 48)).toInt ≤ 10000 := hMV 0 48
  have r3 : 0 ≤ ((V 0 12)).toInt ∧ ((V 0 12)).toInt ≤ 1 := hMV 0 12
  have r4 : 0 ≤ ((V 0 49)).toInt ∧ ((V 0 49)).toInt ≤ 10000 := hMV 0 49
  refine lv_aload_n hx hb dX12_code_0 rfl (lv_at hl 0 rfl) ?_
  refine va_get (D := D) (ci := 12) (v := .int (V 0 49)) (C := RX12) (T := TX12) (N := 100) hx hb hg inX12 hown hK hP 0 rfl rfl 49 (by decide) (hg _ w1755) (fun _ h9 => h9) rfl dX12_code_1 ?_
  refine lv_aload_n hx hb dX12_code_4 rfl (lv_at hl 0 rfl) ?_
  refine va_get (D := D) (ci := 12) (v := .int (V 0 48)) (C := RX12) (T := TX12) (N := 100) hx hb hg inX12 hown hK hP 0 rfl rfl 48 (by decide) (hg _ w1754) (fun _ h9 => h9) rfl dX12_code_5 ?_
  refine lv_iadd hx hb dX12_code_8 ?_
  refine lv_topi (fun z5 ez5 => ?_)
  have hz5 : z5.toInt = ((V 0 49)).toInt + ((V 0 48)).toInt := i_add ez5 rfl rfl (by (first | exact om_65a0b24bb13a c2 r2.1 r4.1 r4.2 | omega))
  refine lv_istore_n (lv' := [(1, .int z5), (0, .ref (ad 0))]) hx hb dX12_code_9 rfl hl (by decide) rfl (fun ls hl => ?_)
  refine lv_aload_n hx hb dX12_code_10 rfl (lv_at hl 1 rfl) ?_
  refine lv_iconst (v := 0) hx hb dX12_code_11 (by decide) ?_
  refine va_put (D := D) (ci := 12) (v := .int 0) (ty := tyX12 50) (C := RX12) (T := TX12) (N := 100) hx hb hg inX12 tyX12 tyX12_ok nmX12 hown hK hP hD hS 0 rfl rfl 50 (by decide) (hg _ w1756) (fun _ h9 => h9) rfl (tyX12_ok 50 (by decide)) rfl rfl (Nat.le_of_ble_eq_true rfl) dX12_code_12 (fun H locs hP hD hS => ?_)
  obtain ⟨V6, hV6⟩ : ∃ z, z = up2 V 0 50 0 := ⟨_, rfl⟩
  have hP : va_P D vwCl (mw ad kk ks.1 V6 L) H := by rw [hV6]; exact hP
  have hD : va_D A (mw ad kk ks.1 V6 L) := by rw [hV6]; exact hD
  have hMV6 : rgd bM V6 := hMV.put hV6 (by decide)
  have agV6 : agr [(0, 7), (0, 8), (0, 48), (0, 50)] [35, 36, 37, 38, 45, 46, 47] V V6 := agV.up hV6 rfl
  refine lv_aload_n hx hb dX12_code_15 rfl (lv_at hl 1 rfl) ?_
  have pq7 : (V6 4 n).toInt = ((V 4 n)).toInt := congrArg Int32.toInt (up2_o hV6 (by decide))
  have pq8 : (V6 0 7).toInt = ((V 0 7)).toInt := congrArg Int32.toInt (up2_k hV6 (by decide))
  have pq9 : (V6 0 8).toInt = ((V 0 8)).toInt := congrArg Int32.toInt (up2_k hV6 (by decide))
  have pq10 : (V6 0 48).toInt = ((V 0 48)).toInt := congrArg Int32.toInt (up2_k hV6 (by decide))
  have pq11 : (V6 0 50).toInt = 0 := (congrArg Int32.toInt (up2_s hV6)).trans (by decide)
  refine gA_void (gA_runV (As := []) (rest := []) (ci := 12) (q0 := 0) hx hb hml hown hg hP hD hK hS hA hnw hgk (s_expression8 l D ks H.size ad kk V6 L (n) ((max 0 ((V6 0 48).toInt - 8000))) (nd) (ar) (28) hMV6 (show (V6 4 (n)).toInt = 0 from by first | exact om_36161e850215 x1 pq7 | first | omega | ((try (have i_cw := Imp.go cw (by omega))); (try (have i_c1 := Imp.go c1 (by omega))); (try (have i_x3 := Imp.go x3 (by omega))); (try (have i_x3 := Imp.go x3 (by omega))); (try (have i_c1 := Imp.go c1 (by omega))); (try (have i_cw := Imp.go cw (by omega))); omega)) (show (n) ≤ 4000 from by first | exact om_af64e361c991 x2 | first | omega | ((try (have i_cw := Imp.go cw (by omega))); (try (have i_c1 := Imp.go c1 (by omega))); (try (have i_x3 := Imp.go x3 (by omega))); (try (have i_x3 := Imp.go x3 (by omega))); (try (have i_c1 := Imp.go c1 (by omega))); (try (have i_cw := Imp.go cw (by omega))); omega)) (Imp.mk (fun hp => have hp : (V6 0 8).toInt = 0 := hp; (show 0 ≤ (V6 0 7).toInt ∧ (V6 0 7).toInt ≤ (n) from by first | exact om_b56722ec05a2 r2.1 pq8 ((Imp.go x3 ((pq9.symm).trans (hp))).2) ((Imp.go c1 ((pq9.symm).trans (hp)))) | first | omega | ((try (have i_cw := Imp.go cw (by omega))); (try (have i_c1 := Imp.go c1 (by omega))); (try (have i_x3 := Imp.go x3 (by omega))); (try (have i_x3 := Imp.go x3 (by omega))); (try (have i_c1 := Imp.go c1 (by omega))); (try (have i_cw := Imp.go cw (by omega))); omega)))) (Imp.mk (fun hp => have hp : (V6 0 8).toInt = 0 := hp; (show (V6 0 48).toInt ≤ 2 * (V6 0 7).toInt from by first | exact om_a9b9e0623b62 pq8 pq10 ((Imp.go c1 ((pq9.symm).trans (hp)))) | first | omega | ((try (have i_cw := Imp.go cw (by omega))); (try (have i_c1 := Imp.go c1 (by omega))); (try (have i_x3 := Imp.go x3 (by omega))); (try (have i_x3 := Imp.go x3 (by omega))); (try (have i_c1 := Imp.go c1 (by omega))); (try (have i_cw := Imp.go cw (by omega))); omega)))) (show (V6 0 48).toInt ≤ 8000 + ((max 0 ((V6 0 48).toInt - 8000))) from by first | omega | ((try (have i_cw := Imp.go cw (by omega))); (try (have i_c1 := Imp.go c1 (by omega))); (try (have i_x3 := Imp.go x3 (by omega))); (try (have i_x3 := Imp.go x3 (by omega))); (try (have i_c1 := Imp.go c1 (by omega))); (try (have i_cw := Imp.go cw (by omega))); omega)) (show 0 ≤ ((max 0 ((V6 0 48).toInt - 8000))) ∧ ((max 0 ((V6 0 48).toInt - 8000))) ≤ 100 from by first | omega | ((try (have i_cw := Imp.go cw (by omega))); (try (have i_c1 := Imp.go c1 (by omega))); (try (have i_x3 := Imp.go x3 (by omega))); (try (have i_x3 := Imp.go x3 (by omega))); (try (have i_c1 := Imp.go c1 (by omega))); (try (have i_cw := Imp.go cw (by omega))); omega)) (cP.ag cw agV6 alL rfl rfl (fun _ => rfl) rfl) (show (V6 0 50).toInt = 0 from by first | exact om_b66ba74381d5 pq11 | first | omega | ((try (have i_cw := Imp.go cw (by omega))); (try (have i_c1 := Imp.go c1 (by omega))); (try (have i_x3 := Imp.go x3 (by omega))); (try (have i_x3 := Imp.go x3 (by omega))); (try (have i_c1 := Imp.go c1 (by omega))); (try (have i_cw := Imp.go cw (by omega))); omega)) (show 28 ≤ (((28) : Nat) : Int) from by first | exact om_ffa9d4280ff1 | first | omega | ((try (have i_cw := Imp.go cw (by omega))); (try (have i_c1 := Imp.go c1 (by omega))); (try (have i_x3 := Imp.go x3 (by omega))); (try (have i_x3 := Imp.go x3 (by omega))); (try (have i_c1 := Imp.go c1 (by omega))); (try (have i_cw := Imp.go cw (by omega))); omega))) w2116 w2118 w106 w172 w2119 rfl rfl hdV_yX12_expression ⟨Nat.le_of_ble_eq_true rfl, Nat.le_of_ble_eq_true rfl⟩ rfl hl.1 rfl (Nat.le_of_ble_eq_true rfl) dX12_code_16 ⟨Nat.le_of_ble_eq_true rfl, Nat.le_of_ble_eq_true rfl⟩) hP hD hK hS hA (fun u13 H locs w14 hP hD hK hS => ?_)
  obtain ⟨V23, L24⟩ := u13
  obtain ⟨hMV23, ajV23, axL24, t15, t16, t17, t18, t19, t20, t21, t22⟩ := w14
  have alL24 : agL [35, 36, 37, 38, 45, 46, 47] L L24 := agL.tr alL axL24 (by decide)
  have hP : va_P D vwCl (mw ad kk ks.1 V23 L24) H := hP
  have hD : va_D A (mw ad kk ks.1 V23 L24) := hD
  have hMV23 : rgd bM V23 := hMV23
  have ajV23 : agr [(0, 7), (0, 8), (0, 48), (0, 50)] [35, 36, 37, 38, 45, 46, 47] V6 V23 := ajV23
  have agV23 : agr [(0, 7), (0, 8), (0, 48), (0, 50)] [35, 36, 37, 38, 45, 46, 47] V V23 := agV6.tr ajV23 (by decide) (by decide)
  have t15 : Imp ((V23 0 8).toInt = 0) (0 ≤ (V23 0 7).toInt ∧ (V23 0 7).toInt ≤ (n) ∧ (V6 0 8).toInt = 0 ∧ (V6 0 7).toInt ≤ (V23 0 7).toInt) := t15
  have t16 : Imp ((V23 0 8).toInt = 0) ((V23 0 48).toInt - (V6 0 48).toInt ≤ 2 * ((V23 0 7).toInt - (V6 0 7).toInt)) := t16
  have t17 : (V6 0 48).toInt ≤ (V23 0 48).toInt := t17
  have t18 : (V23 0 48).toInt ≤ 8000 + ((max 0 ((V6 0 48).toInt - 8000))) + 51 - 6 * (V6 0 50).toInt := t18
  have t19 : Imp (1 ≤ (V6 0 8).toInt) ((V23 0 48).toInt = (V6 0 48).toInt) := t19
  have t20 : (V23 0 50).toInt = (V6 0 50).toInt := t20
  have t21 : sameX V6 V23 (pA V6) (pE V6) := t21
  have t22 : Imp ((V23 0 8).toInt = 0) (WE (nd) (ar) V23 (28) (pA V6) (pA V23)) := t22
  have r25 : 0 ≤ ((V23 0 8)).toInt ∧ ((V23 0 8)).toInt ≤ 70000 := hMV23 0 8
  have r26 : 0 ≤ ((V23 0 48)).toInt ∧ ((V23 0 48)).toInt ≤ 10000 := hMV23 0 48
  have r27 : 0 ≤ ((V23 0 50)).toInt ∧ ((V23 0 50)).toInt ≤ 9 := hMV23 0 50
  have bxV23 : (V23 0 48).toInt ≤ 8060 - 6 * (V23 0 50).toInt := by
      have ha : 0 ≤ (V6 0 8).toInt ∧ (V6 0 8).toInt ≤ 70000 := hMV6 0 8; rcases Decidable.em ((V6 0 8).toInt = 0) with hz | hz <;> (first | omega | ((try (have i_c1 := Imp.go c1 ((pq9.symm).trans (hz)))); (try (have i_x3 := Imp.go x3 ((pq9.symm).trans (hz)))); omega) | ((try (have i_t19 := Imp.go t19 (by omega))); (try (have i_t16 := Imp.go t16 (by omega))); (try (have i_t15 := Imp.go t15 (by omega))); (try (have i_cw := Imp.go cw (by omega))); first | omega | ((try (have i_c1 := Imp.go c1 (by omega))); (try (have i_x3 := Imp.go x3 (by omega))); (try (have i_x3 := Imp.go x3 (by omega))); (try (have i_c1 := Imp.go c1 (by omega))); first | omega | ((try (have i_cw := Imp.go cw (by omega))); (try (have i_t15 := Imp.go t15 (by omega))); (try (have i_t16 := Imp.go t16 (by omega))); (try (have i_t19 := Imp.go t19 (by omega))); omega))))
  refine lv_aload_n hx hb dX12_code_19 rfl (lv_at hl 1 rfl) ?_
  refine lv_iconst (v := 0) hx hb dX12_code_20 (by decide) ?_
  refine lv_iconst (v := 0) hx hb dX12_code_21 (by decide) ?_
  refine lv_iconst (v := 0) hx hb dX12_code_22 (by decide) ?_
  have r28 : Int32.toInt 0 = 0 := by decide
  refine gA_int (gA_runV (As := [.int 0, .int 0, .int 0]) (rest := []) (ci := 12) (q0 := 0) hx hb hml hown hg hP hD hK hS hA hnw hgk (s_emit3 l D ks H.size ad kk V23 L24 0 0 0 hMV23 (show (V23 0 48).toInt ≤ 9999 from by first | exact om_3786ac9fd5b1 pq11 t20 bxV23 | first | omega | ((try (have i_t19 := Imp.go t19 (by omega))); (try (have i_t16 := Imp.go t16 (by omega))); (try (have i_t15 := Imp.go t15 (by omega))); (try (have i_cw := Imp.go cw (by omega))); first | omega | ((try (have i_c1 := Imp.go c1 (by omega))); (try (have i_x3 := Imp.go x3 (by omega))); (try (have i_x3 := Imp.go x3 (by omega))); (try (have i_c1 := Imp.go c1 (by omega))); first | omega | ((try (have i_cw := Imp.go cw (by omega))); (try (have i_t15 := Imp.go t15 (by omega))); (try (have i_t16 := Imp.go t16 (by omega))); (try (have i_t19 := Imp.go t19 (by omega))); omega))))) w2136 w2138 w111 w172 w2139 rfl rfl hdV_yX12_emit ⟨Nat.le_of_ble_eq_true rfl, Nat.le_of_ble_eq_true rfl⟩ rfl hl.1 rfl (Nat.le_of_ble_eq_true rfl) dX12_code_23 ⟨Nat.le_of_ble_eq_true rfl, Nat.le_of_ble_eq_true rfl⟩) hP hD hK hS hA (fun z29 u30 H locs w31 hP hD hK hS => ?_)
  obtain ⟨V35, L36⟩ := u30
  obtain ⟨hMV35, ajV35, axL36, rgz29, t32, t33, t34⟩ := w31
  have axL36 : L24 = L36 := Eq.symm axL36
  subst axL36
  have hP : va_P D vwCl (mw ad kk ks.1 V35 L24) H := hP
  have hD : va_D A (mw ad kk ks.1 V35 L24) := hD
  have hMV35 : rgd bM V35 := hMV35
  have ajV35 : agr [(0, 48)] [45, 46, 47] V23 V35 := ajV35
  have agV35 : agr [(0, 7), (0, 8), (0, 48), (0, 50)] [35, 36, 37, 38, 45, 46, 47] V V35 := agV23.tr ajV35 (by decide) (by decide)
  have rgz29 : 0 ≤ z29.toInt ∧ z29.toInt ≤ 20000 := rgz29
  have t32 : (V35 0 48).toInt = (V23 0 48).toInt + 1 := t32
  have t33 : z29.toInt = (V23 0 49).toInt + (V23 0 48).toInt := t33
  have t34 : emitted V23 V35 (pA V23) 0 0 0 := t34
  have r37 : 0 ≤ ((V35 0 48)).toInt ∧ ((V35 0 48)).toInt ≤ 10000 := hMV35 0 48
  have pq38 : (V23 0 49).toInt = ((V 0 49)).toInt := congrArg Int32.toInt ((ajV23 0 49 rfl).trans (up2_k hV6 (by decide)))
  refine lv_istore_n (lv' := [(2, .int z29), (1, .int z5), (0, .ref (ad 0))]) hx hb dX12_code_26 rfl hl (by decide) rfl (fun ls hl => ?_)
  refine lv_iload_n hx hb dX12_code_27 rfl (lv_at hl 1 rfl) ?_
  have pq39 : (V35 0 7).toInt = ((V23 0 7)).toInt := congrArg Int32.toInt (ajV35 0 7 rfl)
  have pq40 : (V35 0 8).toInt = ((V23 0 8)).toInt := congrArg Int32.toInt (ajV35 0 8 rfl)
  have hpV := pA_i hMV
  have heV := pE_i hMV
  have r41 : 0 ≤ (V 0 48).toInt ∧ (V 0 48).toInt ≤ 10000 := hMV 0 48
  have r42 : 0 ≤ (V 0 49).toInt ∧ (V 0 49).toInt ≤ 10000 := hMV 0 49
  have hpV23 := pA_i hMV23
  have heV23 := pE_i hMV23
  have r43 : 0 ≤ (V23 0 48).toInt ∧ (V23 0 48).toInt ≤ 10000 := hMV23 0 48
  have r44 : 0 ≤ (V23 0 49).toInt ∧ (V23 0 49).toInt ≤ 10000 := hMV23 0 49
  have hpV6 := pA_i hMV6
  have heV6 := pE_i hMV6
  have pq45 : (V6 0 49).toInt = ((V 0 49)).toInt := congrArg Int32.toInt (up2_k hV6 (by decide))
  have r46 : 0 ≤ (V6 0 48).toInt ∧ (V6 0 48).toInt ≤ 10000 := hMV6 0 48
  have r47 : 0 ≤ (V6 0 49).toInt ∧ (V6 0 49).toInt ≤ 10000 := hMV6 0 49
  have hpV35 := pA_i hMV35
  have heV35 := pE_i hMV35
  have pq48 : (V35 0 49).toInt = ((V 0 49)).toInt := congrArg Int32.toInt ((ajV35 0 49 rfl).trans ((ajV23 0 49 rfl).trans (up2_k hV6 (by decide))))
  have r49 : 0 ≤ (V35 0 48).toInt ∧ (V35 0 48).toInt ≤ 10000 := hMV35 0 48
  have r50 : 0 ≤ (V35 0 49).toInt ∧ (V35 0 49).toInt ≤ 10000 := hMV35 0 49
  have sx51 : sameX V V35 (pA V) (pE V) := (sameX.tr (sameX.tr ((sameX.up hV6 (by decide) (by decide) (by decide)) : sameX V V6 (pA V) (pE V)) ((sameX.cut t21 (by (first | exact om_c68f15d934b6 pq10 hpV hpV6 pq45 | omega)) (by (first | exact om_dd1080e0131d heV heV6 pq45 | omega))) : sameX V6 V23 (pA V) (pE V)) (Nat.le_refl _)) ((emitted.X t34 (by (first | exact om_f2e61417a7ec pq10 t17 pq38 hpV hpV23 | omega)) (by (first | exact om_c3bac681f5a8 pq11 t20 bxV23 pq38 heV hpV23 | omega))) : sameX V23 V35 (pA V) (pE V)) (Nat.le_refl _))
  have sx52 : sameX V23 V35 (pA V23) (pE V) := ((emitted.X t34 (by (first | exact om_36cf446a3c95 | omega)) (by (first | exact om_c3bac681f5a8 pq11 t20 bxV23 pq38 heV hpV23 | omega))) : sameX V23 V35 (pA V23) (pE V))
  have we53 : Imp ((V35 0 8).toInt = 0) (WE nd ar V35 (28) (pA V6) (pA V23)) := Imp.mk (fun hp => (WE.mv (Imp.go t22 (flt_ag ajV35 rfl hp)) sx52 (Nat.le_refl _)))
  have o54 := emitted.at3 t34
  have ce55 : Imp ((V35 0 8).toInt = 0) (CE nd ar V35 (10000 * nx) (pA V35) (pA V)) := Imp.mk (fun hp => WE.CE (WE.cast (Imp.go we53 hp) (a' := pA V) (b' := pA V23) (by omega) (by omega)) (by omega) (by omega) (by omega) (by omega))
  have sx56 : sameX V V35 (pA V) (pE V) := (sameX.tr (sameX.tr ((sameX.up hV6 (by decide) (by decide) (by decide)) : sameX V V6 (pA V) (pE V)) ((sameX.cut t21 (by (first | exact om_c68f15d934b6 pq10 hpV hpV6 pq45 | omega)) (by (first | exact om_dd1080e0131d heV heV6 pq45 | omega))) : sameX V6 V23 (pA V) (pE V)) (Nat.le_refl _)) ((emitted.X t34 (by (first | exact om_f2e61417a7ec pq10 t17 pq38 hpV hpV23 | omega)) (by (first | exact om_c3bac681f5a8 pq11 t20 bxV23 pq38 heV hpV23 | omega))) : sameX V23 V35 (pA V) (pE V)) (Nat.le_refl _))
  exact W.iret (v := z5) hx hb hr (fun t ht hW => ⟨⟨z5, (V35, L24), rfl, ⟨hMV35, agV35, alL24, (fr.code agV35 (by decide) (by decide) sx56 (by omega) (by omega)), (show 0 ≤ z5.toInt ∧ z5.toInt ≤ 20000 from by first | exact om_f7ce8fe277ec r4.1 r4.2 hz5 pq10 pq11 t17 t20 bxV23 r46.1 | first | omega | ((try (have i_t19 := Imp.go t19 (by omega))); (try (have i_t16 := Imp.go t16 (by omega))); (try (have i_t15 := Imp.go t15 (by omega))); (try (have i_cw := Imp.go cw (by omega))); first | omega | ((try (have i_c1 := Imp.go c1 (by omega))); (try (have i_x3 := Imp.go x3 (by omega))); (try (have i_x3 := Imp.go x3 (by omega))); (try (have i_c1 := Imp.go c1 (by omega))); first | omega | ((try (have i_cw := Imp.go cw (by omega))); (try (have i_t15 := Imp.go t15 (by omega))); (try (have i_t16 := Imp.go t16 (by omega))); (try (have i_t19 := Imp.go t19 (by omega))); omega)))), (Imp.mk (fun hp => have hp : (V35 0 8).toInt = 0 := hp; (show 0 ≤ (V35 0 7).toInt ∧ (V35 0 7).toInt ≤ n ∧ (V 0 8).toInt = 0 ∧ (V 0 7).toInt ≤ (V35 0 7).toInt from by first | exact om_6c5a7b2c41f9 r1.1 pq8 pq9 t17 pq39 ((Imp.go t15 ((pq40.symm).trans (hp))).1) ((Imp.go t15 ((pq40.symm).trans (hp))).2.1) ((Imp.go t15 ((pq40.symm).trans (hp))).2.2.1) ((Imp.go t16 ((pq40.symm).trans (hp)))) | first | omega | ((try (have i_t16 := Imp.go t16 ((pq40.symm).trans (hp)))); (try (have i_t15 := Imp.go t15 ((pq40.symm).trans (hp)))); (try (have i_c1 := Imp.go c1 ((pq9.symm).trans (i_t15.2.2.1)))); (try (have i_x3 := Imp.go x3 ((pq9.symm).trans (i_t15.2.2.1)))); omega) | ((try (have i_t19 := Imp.go t19 (by omega))); (try (have i_t16 := Imp.go t16 (by omega))); (try (have i_t15 := Imp.go t15 (by omega))); (try (have i_cw := Imp.go cw (by omega))); first | omega | ((try (have i_c1 := Imp.go c1 (by omega))); (try (have i_x3 := Imp.go x3 (by omega))); (try (have i_x3 := Imp.go x3 (by omega))); (try (have i_c1 := Imp.go c1 (by omega))); first | omega | ((try (have i_cw := Imp.go cw (by omega))); (try (have i_t15 := Imp.go t15 (by omega))); (try (have i_t16 := Imp.go t16 (by omega))); (try (have i_t19 := Imp.go t19 (by omega))); omega)))))), (Imp.mk (fun hp => have hp : (V35 0 8).toInt = 0 := hp; (show (V35 0 48).toInt - (V 0 48).toInt ≤ 2 * ((V35 0 7).toInt - (V 0 7).toInt) + 1 from by first | exact om_5928716c164b pq8 pq10 t32 pq39 ((Imp.go t16 ((pq40.symm).trans (hp)))) | first | omega | ((try (have i_t16 := Imp.go t16 ((pq40.symm).trans (hp)))); (try (have i_t15 := Imp.go t15 ((pq40.symm).trans (hp)))); (try (have i_c1 := Imp.go c1 ((pq9.symm).trans (i_t15.2.2.1)))); (try (have i_x3 := Imp.go x3 ((pq9.symm).trans (i_t15.2.2.1)))); omega) | ((try (have i_t19 := Imp.go t19 (by omega))); (try (have i_t16 := Imp.go t16 (by omega))); (try (have i_t15 := Imp.go t15 (by omega))); (try (have i_cw := Imp.go cw (by omega))); first | omega | ((try (have i_c1 := Imp.go c1 (by omega))); (try (have i_x3 := Imp.go x3 (by omega))); (try (have i_x3 := Imp.go x3 (by omega))); (try (have i_c1 := Imp.go c1 (by omega))); first | omega | ((try (have i_cw := Imp.go cw (by omega))); (try (have i_t15 := Imp.go t15 (by omega))); (try (have i_t16 := Imp.go t16 (by omega))); (try (have i_t19 := Imp.go t19 (by omega))); omega)))))), (show (V 0 48).toInt + 1 ≤ (V35 0 48).toInt from by first | exact om_754a7780b266 pq10 t17 t32 | first | omega | ((try (have i_t19 := Imp.go t19 (by omega))); (try (have i_t16 := Imp.go t16 (by omega))); (try (have i_t15 := Imp.go t15 (by omega))); (try (have i_cw := Imp.go cw (by omega))); first | omega | ((try (have i_c1 := Imp.go c1 (by omega))); (try (have i_x3 := Imp.go x3 (by omega))); (try (have i_x3 := Imp.go x3 (by omega))); (try (have i_c1 := Imp.go c1 (by omega))); first | omega | ((try (have i_cw := Imp.go cw (by omega))); (try (have i_t15 := Imp.go t15 (by omega))); (try (have i_t16 := Imp.go t16 (by omega))); (try (have i_t19 := Imp.go t19 (by omega))); omega)))), (show (V35 0 48).toInt ≤ 8120 from by first | exact om_e181addbbb76 pq11 t20 bxV23 t32 | first | omega | ((try (have i_t19 := Imp.go t19 (by omega))); (try (have i_t16 := Imp.go t16 (by omega))); (try (have i_t15 := Imp.go t15 (by omega))); (try (have i_cw := Imp.go cw (by omega))); first | omega | ((try (have i_c1 := Imp.go c1 (by omega))); (try (have i_x3 := Imp.go x3 (by omega))); (try (have i_x3 := Imp.go x3 (by omega))); (try (have i_c1 := Imp.go c1 (by omega))); first | omega | ((try (have i_cw := Imp.go cw (by omega))); (try (have i_t15 := Imp.go t15 (by omega))); (try (have i_t16 := Imp.go t16 (by omega))); (try (have i_t19 := Imp.go t19 (by omega))); omega)))), sx51, ce55, (show z5.toInt = (pA V : Int) from by first | exact om_cba01957d29d hz5 hpV | first | omega | ((try (have i_t19 := Imp.go t19 (by omega))); (try (have i_t16 := Imp.go t16 (by omega))); (try (have i_t15 := Imp.go t15 (by omega))); (try (have i_cw := Imp.go cw (by omega))); first | omega | ((try (have i_c1 := Imp.go c1 (by omega))); (try (have i_x3 := Imp.go x3 (by omega))); (try (have i_x3 := Imp.go x3 (by omega))); (try (have i_c1 := Imp.go c1 (by omega))); first | omega | ((try (have i_cw := Imp.go cw (by omega))); (try (have i_t15 := Imp.go t15 (by omega))); (try (have i_t16 := Imp.go t16 (by omega))); (try (have i_t19 := Imp.go t19 (by omega))); omega))))⟩, by rw [ht]; exact hP, va_K.moved hW.alike hK, hD⟩, hS.F ht⟩) hS.2.2 dX12_code_28
end
