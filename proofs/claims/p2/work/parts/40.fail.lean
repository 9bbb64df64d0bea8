theorem w2299 : Cond.code yX12_wrapsOf cX12_wrapsOf 6 (some .int) ∈ GW := gw_mem 2299 (by decide +kernel) rfl
theorem w2296 : Cond.methodLink RX12 542 yX12_wrapsOf ∈ GW := gw_mem 2296 (by decide +kernel) rfl
theorem w2298 : Cond.instanceMethod yX12_wrapsOf ∈ GW := gw_mem 2298 (by decide +kernel) rfl
theorem w143 : Cond.selects RX12 yX12_wrapsOf yX12_wrapsOf ∈ GW := gw_mem 143 (by decide +kernel) rfl
theorem hdV_yX12_wrapsOf : yX12_wrapsOf.cls = RX12 ∧ yX12_wrapsOf.cls ≠ "java/lang/invoke/MethodHandle" ∧ yX12_wrapsOf.cls ≠ "java/lang/invoke/VarHandle" ∧ (parseMethodDescriptor yX12_wrapsOf.desc).map (fun d => d.parameters.length) = some 3 := by decide +kernel
theorem dX12_failings_0 : decode cX12_failings 0 = .ok (.aload_n 0, 1) := by decide +kernel
theorem dX12_failings_1 : decode cX12_failings 1 = .ok (.getfield 471, 3) := by decide +kernel
theorem dX12_failings_4 : decode cX12_failings 4 = .ok (.istore 4, 2) := by decide +kernel
theorem dX12_failings_6 : decode cX12_failings 6 = .ok (.aload_n 0, 1) := by decide +kernel
theorem dX12_failings_7 : decode cX12_failings 7 = .ok (.getfield 474, 3) := by decide +kernel
theorem dX12_failings_10 : decode cX12_failings 10 = .ok (.istore 5, 2) := by decide +kernel
theorem dX12_failings_12 : decode cX12_failings 12 = .ok (.aload_n 0, 1) := by decide +kernel
theorem dX12_failings_13 : decode cX12_failings 13 = .ok (.iload_n 1, 1) := by decide +kernel
theorem dX12_failings_14 : decode cX12_failings 14 = .ok (.iload_n 2, 1) := by decide +kernel
theorem dX12_failings_15 : decode cX12_failings 15 = .ok (.iconst 3, 1) := by decide +kernel
theorem dX12_failings_16 : decode cX12_failings 16 = .ok (.invokevirtual 542, 3) := by decide +kernel
theorem dX12_failings_19 : decode cX12_failings 19 = .ok (.istore 6, 2) := by decide +kernel
theorem dX12_failings_21 : decode cX12_failings 21 = .ok (.iload 6, 2) := by decide +kernel
theorem dX12_failings_23 : decode cX12_failings 23 = .ok (.iconst 1, 1) := by decide +kernel
theorem dX12_failings_24 : decode cX12_failings 24 = .ok (.isub, 1) := by decide +kernel
theorem dX12_failings_25 : decode cX12_failings 25 = .ok (.istore 7, 2) := by decide +kernel
theorem dX12_failings_27 : decode cX12_failings 27 = .ok (.iload 7, 2) := by decide +kernel
theorem dX12_failings_29 : decode cX12_failings 29 = .ok (.ifCond .lt 78, 3) := by decide +kernel
theorem dX12_failings_107 : decode cX12_failings 107 = .ok (.aload_n 0, 1) := by decide +kernel
theorem dX12_failings_108 : decode cX12_failings 108 = .ok (.iload 4, 2) := by decide +kernel
theorem dX12_failings_110 : decode cX12_failings 110 = .ok (.putfield 471, 3) := by decide +kernel
theorem dX12_failings_113 : decode cX12_failings 113 = .ok (.aload_n 0, 1) := by decide +kernel
theorem dX12_failings_114 : decode cX12_failings 114 = .ok (.iload 5, 2) := by decide +kernel
theorem dX12_failings_116 : decode cX12_failings 116 = .ok (.putfield 474, 3) := by decide +kernel
theorem dX12_failings_119 : decode cX12_failings 119 = .ok (.iconst 1, 1) := by decide +kernel
theorem dX12_failings_120 : decode cX12_failings 120 = .ok (.ireturn, 1) := by decide +kernel
theorem dX12_failings_32 : decode cX12_failings 32 = .ok (.aload_n 0, 1) := by decide +kernel
theorem dX12_failings_33 : decode cX12_failings 33 = .ok (.iload 7, 2) := by decide +kernel
theorem dX12_failings_35 : decode cX12_failings 35 = .ok (.iload_n 1, 1) := by decide +kernel
theorem dX12_failings_36 : decode cX12_failings 36 = .ok (.iload_n 2, 1) := by decide +kernel
theorem dX12_failings_37 : decode cX12_failings 37 = .ok (.iconst 3, 1) := by decide +kernel
theorem dX12_failings_38 : decode cX12_failings 38 = .ok (.invokevirtual 529, 3) := by decide +kernel
theorem dX12_failings_41 : decode cX12_failings 41 = .ok (.istore 8, 2) := by decide +kernel
theorem dX12_failings_43 : decode cX12_failings 43 = .ok (.iload 4, 2) := by decide +kernel
theorem dX12_failings_45 : decode cX12_failings 45 = .ok (.ifCond .le 8, 3) := by decide +kernel
theorem dX12_failings_53 : decode cX12_failings 53 = .ok (.iload 5, 2) := by decide +kernel
theorem dX12_failings_55 : decode cX12_failings 55 = .ok (.istore 9, 2) := by decide +kernel
theorem dX12_failings_57 : decode cX12_failings 57 = .ok (.aload_n 0, 1) := by decide +kernel
theorem dX12_failings_58 : decode cX12_failings 58 = .ok (.iconst 3, 1) := by decide +kernel
theorem dX12_failings_59 : decode cX12_failings 59 = .ok (.iload 8, 2) := by decide +kernel
theorem dX12_failings_61 : decode cX12_failings 61 = .ok (.iload 9, 2) := by decide +kernel
theorem dX12_failings_63 : decode cX12_failings 63 = .ok (.invokevirtual 535, 3) := by decide +kernel
theorem dX12_failings_66 : decode cX12_failings 66 = .ok (.aload_n 0, 1) := by decide +kernel
theorem dX12_failings_67 : decode cX12_failings 67 = .ok (.aload_n 0, 1) := by decide +kernel
theorem dX12_failings_68 : decode cX12_failings 68 = .ok (.getfield 137, 3) := by decide +kernel
theorem dX12_failings_71 : decode cX12_failings 71 = .ok (.bipush 12, 2) := by decide +kernel
theorem dX12_failings_73 : decode cX12_failings 73 = .ok (.aload_n 0, 1) := by decide +kernel
theorem dX12_failings_74 : decode cX12_failings 74 = .ok (.getfield 286, 3) := by decide +kernel
theorem dX12_failings_77 : decode cX12_failings 77 = .ok (.imul, 1) := by decide +kernel
theorem dX12_failings_78 : decode cX12_failings 78 = .ok (.iload 8, 2) := by decide +kernel
theorem dX12_failings_80 : decode cX12_failings 80 = .ok (.iadd, 1) := by decide +kernel
theorem dX12_failings_81 : decode cX12_failings 81 = .ok (.iaload, 1) := by decide +kernel
theorem dX12_failings_82 : decode cX12_failings 82 = .ok (.iload_n 1, 1) := by decide +kernel
theorem dX12_failings_83 : decode cX12_failings 83 = .ok (.iload_n 3, 1) := by decide +kernel
theorem dX12_failings_84 : decode cX12_failings 84 = .ok (.iload 9, 2) := by decide +kernel
theorem dX12_failings_86 : decode cX12_failings 86 = .ok (.iconst (-1), 1) := by decide +kernel
theorem dX12_failings_87 : decode cX12_failings 87 = .ok (.invokevirtual 503, 3) := by decide +kernel
theorem dX12_failings_90 : decode cX12_failings 90 = .ok (.istore 10, 2) := by decide +kernel
theorem dX12_failings_92 : decode cX12_failings 92 = .ok (.iload 10, 2) := by decide +kernel
theorem dX12_failings_94 : decode cX12_failings 94 = .ok (.iconst 1, 1) := by decide +kernel
theorem dX12_failings_95 : decode cX12_failings 95 = .ok (.if_icmp .eq 6, 3) := by decide +kernel
theorem dX12_failings_101 : decode cX12_failings 101 = .ok (.iinc 7 (-1), 3) := by decide +kernel
theorem dX12_failings_104 : decode cX12_failings 104 = .ok (.goto (-77), 3) := by decide +kernel
theorem dX12_failings_98 : decode cX12_failings 98 = .ok (.iload 10, 2) := by decide +kernel
theorem dX12_failings_100 : decode cX12_failings 100 = .ok (.ireturn, 1) := by decide +kernel
theorem dX12_failings_48 : decode cX12_failings 48 = .ok (.bipush 20, 2) := by decide +kernel
theorem dX12_failings_50 : decode cX12_failings 50 = .ok (.goto 5, 3) := by decide +kernel
set_option maxHeartbeats 4000000 in
set_option maxRecDepth 100000 in
theorem s_failings {l : Launch} {D : va_G} {ks : Nat × Nat × Option Nat} {d1 d2 : Nat} (hk_s_works : K_s_works l D ks d1 d2) : K_s_failings l D ks d1 d2 := by
  intro sz ad kk V L p0 p1 p2 hMV rg_p0 rg_p1 rg_p2 rt n1 n2 n3 n4 n5 n6 oq1 n7
  refine g_met (q_s_failings D ks ad kk V L p0 p1 p2) (by decide) (Nat.le_of_ble_eq_true rfl) ?_
  intro p e s m below meth c A ls H locs hx hb hr hml hown hg hlocks hin hnw hgk hP hK hD hS hA hl
  have hown : s.vm.findClass RX12 = some m.cls := hown
  have hl : lv_has ls 11 [(0, .ref (ad 0)), (1, .int p0), (2, .int p1), (3, .int p2)] := hl
  have hP : va_P D vwCl (mw ad kk ks.1 V L) H := hP
  have hD : va_D A (mw ad kk ks.1 V L) := hD
  have hK : va_K D vwCl (mty kk) s := hK
  have agV : agr [(0, 60), (0, 65), (0, 68), (0, 69), (0, 73), (0, 76), (0, 90), (0, 91), (0, 92), (0, 93), (0, 95), (0, 96), (0, 98)] [59, 61, 62, 63, 64, 66, 67, 74, 75, 77, 78, 79, 80, 94, 97] V V := agr.rf
  have r1 : 0 ≤ ((V 0 65)).toInt ∧ ((V 0 65)).toInt ≤ 1000000 := hMV 0 65
  have r2 : 0 ≤ ((V 0 60)).toInt ∧ ((V 0 60)).toInt ≤ 300 := hMV 0 60
  have r3 : 0 ≤ ((V 0 95)).toInt ∧ ((V 0 95)).toInt ≤ 300 := hMV 0 95
  have r4 : 0 ≤ ((V 0 73)).toInt ∧ ((V 0 73)).toInt ≤ 1000000 := hMV 0 73
  have r5 : 0 ≤ ((V 0 76)).toInt ∧ ((V 0 76)).toInt ≤ 2000000000 := hMV 0 76
  have r6 : 0 ≤ ((V 0 69)).toInt ∧ ((V 0 69)).toInt ≤ 3000 := hMV 0 69
  have r7 : 0 ≤ ((V 0 93)).toInt ∧ ((V 0 93)).toInt ≤ 10 := hMV 0 93
  have r8 : 0 ≤ ((V 0 98)).toInt ∧ ((V 0 98)).toInt ≤ 20000 := hMV 0 98
  refine lv_aload_n hx hb dX12_failings_0 rfl (lv_at hl 0 rfl) ?_
  refine va_get (D := D) (ci := 12) (v := .int (V 0 90)) (C := RX12) (T := TX12) (N := 100) hx hb hg inX12 hown hK hP 0 rfl rfl 90 (by decide) (hg _ w1796) (fun _ h9 => h9) rfl dX12_failings_1 ?_
  refine lv_istore (lv' := [(4, .int (V 0 90)), (0, .ref (ad 0)), (1, .int p0), (2, .int p1), (3, .int p2)]) hx hb dX12_failings_4 hl (by decide) rfl (fun ls hl => ?_)
  refine lv_aload_n hx hb dX12_failings_6 rfl (lv_at hl 1 rfl) ?_
  refine va_get (D := D) (ci := 12) (v := .int (V 0 91)) (C := RX12) (T := TX12) (N := 100) hx hb hg inX12 hown hK hP 0 rfl rfl 91 (by decide) (hg _ w1797) (fun _ h9 => h9) rfl dX12_failings_7 ?_
  refine lv_istore (lv' := [(5, .int (V 0 91)), (4, .int (V 0 90)), (0, .ref (ad 0)), (1, .int p0), (2, .int p1), (3, .int p2)]) hx hb dX12_failings_10 hl (by decide) rfl (fun ls hl => ?_)
  refine lv_aload_n hx hb dX12_failings_12 rfl (lv_at hl 2 rfl) ?_
  refine lv_iload_n hx hb dX12_failings_13 rfl (lv_at hl 3 rfl) ?_
  refine lv_iload_n hx hb dX12_failings_14 rfl (lv_at hl 4 rfl) ?_
  refine lv_iconst (v := 3) hx hb dX12_failings_15 (by decide) ?_
  have r9 : Int32.toInt 3 = 3 := by decide
  refine gA_int (gA_runV (As := [.int p0, .int p1, .int 3]) (rest := []) (ci := 12) (q0 := 0) hx hb hml hown hg hP hD hK hS hA hnw hgk (s_wrapsOf2 l D ks H.size ad kk V L p0 p1 3 hMV (by first | omega | ((try (have i_rt := Imp.go rt (by omega))); omega)) (rt).1) w2296 w2298 w143 w172 w2299 rfl rfl hdV_yX12_wrapsOf ⟨(by show (1) + 1 ≤ (4 * d1 + 40 * d2 + 13); omega), (by show 8 + (6 + 11) + (25) ≤ (100 * d1 + 1000 * d2 + 500); omega)⟩ rfl hl.1 rfl (Nat.le_of_ble_eq_true rfl) dX12_failings_16 ⟨Nat.le_of_ble_eq_true rfl, Nat.le_of_ble_eq_true rfl⟩) hP hD hK hS hA (fun z10 u11 H locs w12 hP hD hK hS => ?_)
  obtain ⟨rgz10, t13⟩ := w12
  have rgz10 : 0 ≤ z10.toInt ∧ z10.toInt ≤ 12 := rgz10
  have t13 : z10.toInt = ((wcn (isWb V p0 p1 3) (wmany V) : Nat) : Int) := t13
  refine lv_istore (lv' := [(6, .int z10), (5, .int (V 0 91)), (4, .int (V 0 90)), (0, .ref (ad 0)), (1, .int p0), (2, .int p1), (3, .int p2)]) hx hb dX12_failings_19 hl (by decide) rfl (fun ls hl => ?_)
  refine lv_iload hx hb dX12_failings_21 (lv_at hl 0 rfl) ?_
  refine lv_iconst (v := 1) hx hb dX12_failings_23 (by decide) ?_
  refine lv_isub hx hb dX12_failings_24 ?_
  refine lv_topi (fun z14 ez14 => ?_)
  have hz14 : z14.toInt = z10.toInt - 1 := i_sub ez14 rfl (by decide) (by omega)
  refine lv_istore (lv' := [(7, .int z14), (6, .int z10), (5, .int (V 0 91)), (4, .int (V 0 90)), (0, .ref (ad 0)), (1, .int p0), (2, .int p1), (3, .int p2)]) hx hb dX12_failings_25 hl (by decide) rfl (fun ls hl => ?_)
  have lp17 : ∀ (fulp17 : Nat) (y15 : Int32) (V16 : Vf) (H : Heap) (locs : List Loc) (ls : Array Slot), (-1) ≤ y15.toInt ∧ y15.toInt ≤ 11 → (V16 0 98).toInt = (V 0 98).toInt → (V16 0 93).toInt = (V 0 93).toInt → (V 0 60).toInt ≤ (V16 0 60).toInt → (V 0 65).toInt ≤ (V16 0 65).toInt → (V16 0 65).toInt - (V 0 65).toInt ≤ (V16 0 60).toInt - (V 0 60).toInt → (V16 0 73).toInt + (V16 0 95).toInt - (V16 0 65).toInt ≤ (V 0 73).toInt + (V 0 95).toInt - (V 0 65).toInt → (V 0 73).toInt ≤ (V16 0 73).toInt → (V 0 69).toInt ≤ (V16 0 69).toInt → (V16 0 95).toInt = (V 0 95).toInt → (V16 0 76).toInt - (V16 0 69).toInt - (V16 0 73).toInt ≤ (V 0 76).toInt - (V 0 69).toInt - (V 0 73).toInt → y15.toInt ≤ z10.toInt - 1 → RT V16 → FRM V V16 (-1) → y15.toInt + 1 < (fulp17 : Int) → agr [(0, 60), (0, 65), (0, 68), (0, 69), (0, 73), (0, 76), (0, 90), (0, 91), (0, 92), (0, 93), (0, 95), (0, 96), (0, 98)] [59, 61, 62, 63, 64, 66, 67, 74, 75, 77, 78, 79, 80, 94, 97] V V16 → rgd bM V16 → va_P D vwCl (mw ad kk ks.1 V16 L) H → va_D A (mw ad kk ks.1 V16 L) → va_S A s.heap H locs → lv_has ls 11 [(7, .int y15), (6, .int z10), (5, .int (V 0 91)), (4, .int (V 0 90)), (0, .ref (ad 0)), (1, .int p0), (2, .int p1), (3, .int p2)] → W p l e (rK2 (4 * d1 + 40 * d2 + 13) (100 * d1 + 1000 * d2 + 500)) s m ([.ref (ad 0), .int p0, .int p1, .int p2] : List Value).toArray below meth c H locs 0 0 (MQ below (q_s_failings D ks ad kk V L p0 p1 p2 A) ([.ref (ad 0), .int p0, .int p1, .int p2] : List Value).toArray s 0 0 A) (F0 m 27 ls []) := by
    intro fulp17
    induction fulp17 with
    | zero =>
      intro y15 V16 H locs ls klp17_0 xlp17_0 xlp17_1 xlp17_2 xlp17_3 xlp17_4 xlp17_5 xlp17_6 xlp17_7 xlp17_8 xlp17_9 xlp17_10 xlp17_11 xlp17_12 hn ajV16 hMV16 hP hD hS hl
      exfalso; omega
    | succ fulp17 ihlp17 =>
      intro y15 V16 H locs ls klp17_0 xlp17_0 xlp17_1 xlp17_2 xlp17_3 xlp17_4 xlp17_5 xlp17_6 xlp17_7 xlp17_8 xlp17_9 xlp17_10 xlp17_11 xlp17_12 hn ajV16 hMV16 hP hD hS hl
      have agV16 : agr [(0, 60), (0, 65), (0, 68), (0, 69), (0, 73), (0, 76), (0, 90), (0, 91), (0, 92), (0, 93), (0, 95), (0, 96), (0, 98)] [59, 61, 62, 63, 64, 66, 67, 74, 75, 77, 78, 79, 80, 94, 97] V V16 := agV.tr ajV16 (by decide) (by decide)
      have r18 : 0 ≤ ((V16 0 98)).toInt ∧ ((V16 0 98)).toInt ≤ 20000 := hMV16 0 98
      have r19 : 0 ≤ ((V16 0 93)).toInt ∧ ((V16 0 93)).toInt ≤ 10 := hMV16 0 93
      have r20 : 0 ≤ ((V16 0 60)).toInt ∧ ((V16 0 60)).toInt ≤ 300 := hMV16 0 60
      have r21 : 0 ≤ ((V16 0 65)).toInt ∧ ((V16 0 65)).toInt ≤ 1000000 := hMV16 0 65
      have r22 : 0 ≤ ((V16 0 73)).toInt ∧ ((V16 0 73)).toInt ≤ 1000000 := hMV16 0 73
      have r23 : 0 ≤ ((V16 0 95)).toInt ∧ ((V16 0 95)).toInt ≤ 300 := hMV16 0 95
      have r24 : 0 ≤ ((V16 0 69)).toInt ∧ ((V16 0 69)).toInt ≤ 3000 := hMV16 0 69
      have r25 : 0 ≤ ((V16 0 76)).toInt ∧ ((V16 0 76)).toInt ≤ 2000000000 := hMV16 0 76
      refine lv_iload hx hb dX12_failings_27 (lv_at hl 0 rfl) ?_
      refine lv_if_lt (tgt := 107) hx hb dX12_failings_29 (by decide) (fun c26 => ?_) (fun c26 => ?_)
      · skip
        have f27 : y15.toInt < 0 := b_lt rfl (by decide) c26
        refine lv_aload_n hx hb dX12_failings_107 rfl (lv_at hl 4 rfl) ?_
        refine lv_iload hx hb dX12_failings_108 (lv_at hl 3 rfl) ?_
        refine va_put (D := D) (ci := 12) (v := .int (V 0 90)) (ty := tyX12 90) (C := RX12) (T := TX12) (N := 100) hx hb hg inX12 tyX12 tyX12_ok nmX12 hown hK hP hD hS 0 rfl rfl 90 (by decide) (hg _ w1796) (fun _ h9 => h9) rfl (tyX12_ok 90 (by decide)) rfl rfl (Nat.le_of_ble_eq_true rfl) dX12_failings_110 (fun H locs hP hD hS => ?_)
        obtain ⟨V28, hV28⟩ : ∃ z, z = up2 V16 0 90 (V 0 90) := ⟨_, rfl⟩
        have hP : va_P D vwCl (mw ad kk ks.1 V28 L) H := by rw [hV28]; exact hP
        have hD : va_D A (mw ad kk ks.1 V28 L) := by rw [hV28]; exact hD
        have hMV28 : rgd bM V28 := hMV16.put hV28 (i_full _)
        have agV28 : agr [(0, 60), (0, 65), (0, 68), (0, 69), (0, 73), (0, 76), (0, 90), (0, 91), (0, 92), (0, 93), (0, 95), (0, 96), (0, 98)] [59, 61, 62, 63, 64, 66, 67, 74, 75, 77, 78, 79, 80, 94, 97] V V28 := agV16.up hV28 rfl
        refine lv_aload_n hx hb dX12_failings_113 rfl (lv_at hl 4 rfl) ?_
        refine lv_iload hx hb dX12_failings_114 (lv_at hl 2 rfl) ?_
        refine va_put (D := D) (ci := 12) (v := .int (V 0 91)) (ty := tyX12 91) (C := RX12) (T := TX12) (N := 100) hx hb hg inX12 tyX12 tyX12_ok nmX12 hown hK hP hD hS 0 rfl rfl 91 (by decide) (hg _ w1797) (fun _ h9 => h9) rfl (tyX12_ok 91 (by decide)) rfl rfl (Nat.le_of_ble_eq_true rfl) dX12_failings_116 (fun H locs hP hD hS => ?_)
        obtain ⟨V29, hV29⟩ : ∃ z, z = up2 V28 0 91 (V 0 91) := ⟨_, rfl⟩
        have hP : va_P D vwCl (mw ad kk ks.1 V29 L) H := by rw [hV29]; exact hP
        have hD : va_D A (mw ad kk ks.1 V29 L) := by rw [hV29]; exact hD
        have hMV29 : rgd bM V29 := hMV28.put hV29 (i_full _)
        have agV29 : agr [(0, 60), (0, 65), (0, 68), (0, 69), (0, 73), (0, 76), (0, 90), (0, 91), (0, 92), (0, 93), (0, 95), (0, 96), (0, 98)] [59, 61, 62, 63, 64, 66, 67, 74, 75, 77, 78, 79, 80, 94, 97] V V29 := agV28.up hV29 rfl
        refine lv_iconst (v := 1) hx hb dX12_failings_119 (by decide) ?_
        have pq30 : (V29 0 93).toInt = ((V16 0 93)).toInt := congrArg Int32.toInt ((up2_k hV29 (by decide)).trans (up2_k hV28 (by decide)))
        have pq31 : (V29 0 98).toInt = ((V16 0 98)).toInt := congrArg Int32.toInt ((up2_k hV29 (by decide)).trans (up2_k hV28 (by decide)))
        have pq32 : (V29 0 60).toInt = ((V16 0 60)).toInt := congrArg Int32.toInt ((up2_k hV29 (by decide)).trans (up2_k hV28 (by decide)))
        have pq33 : (V29 0 65).toInt = ((V16 0 65)).toInt := congrArg Int32.toInt ((up2_k hV29 (by decide)).trans (up2_k hV28 (by decide)))
        have pq34 : (V29 0 73).toInt = ((V16 0 73)).toInt := congrArg Int32.toInt ((up2_k hV29 (by decide)).trans (up2_k hV28 (by decide)))
        have pq35 : (V29 0 95).toInt = ((V16 0 95)).toInt := congrArg Int32.toInt ((up2_k hV29 (by decide)).trans (up2_k hV28 (by decide)))
        have pq36 : (V29 0 69).toInt = ((V16 0 69)).toInt := congrArg Int32.toInt ((up2_k hV29 (by decide)).trans (up2_k hV28 (by decide)))
        have pq37 : (V29 0 76).toInt = ((V16 0 76)).toInt := congrArg Int32.toInt ((up2_k hV29 (by decide)).trans (up2_k hV28 (by decide)))
        have rt38 : RT V29 := RT.ag xlp17_11 hMV16 (show agr [(0, 90), (0, 91)] [] V16 V29 from (agr.up (agr.up agr.rf hV28 rfl) hV29 rfl)) ⟨⟨rfl, fun _ => rfl, fun _ => rfl, fun _ => rfl, fun _ => rfl, fun _ => rfl, fun _ => rfl⟩, by decide, by decide, rfl, rfl, fun _ => rfl, fun _ => rfl, fun _ => rfl, fun _ => rfl, fun _ => rfl, fun _ => rfl⟩ (c0k.ag (show agr [(0, 90), (0, 91)] [] V16 V29 from (agr.up (agr.up agr.rf hV28 rfl) hV29 rfl)) rfl)
        have fm39 : FRM V V29 (-1) := (FRM.tr xlp17_12 (FRM.ag (show agr [(0, 90), (0, 91)] [] V16 V29 from (agr.up (agr.up agr.rf hV28 rfl) hV29 rfl)) ⟨⟨rfl, fun _ => rfl, fun _ => rfl, fun _ => rfl, fun _ => rfl, fun _ => rfl, fun _ => rfl⟩, by decide, by decide, rfl, rfl, fun _ => rfl, fun _ => rfl, fun _ => rfl, fun _ => rfl, fun _ => rfl, fun _ => rfl⟩) agV16 ⟨rfl, fun _ => rfl, fun _ => rfl, fun _ => rfl, fun _ => rfl, fun _ => rfl, fun _ => rfl⟩ (by omega))
        exact W.iret (v := 1) hx hb hr (fun t ht hW => ⟨⟨1, (V29, L), rfl, ⟨hMV29, agV29, rfl, (by decide), (show (V29 0 93).toInt = (V 0 93).toInt from by first | omega | ((try (have i_rt := Imp.go rt (by omega))); omega)), (show (V29 0 98).toInt = (V 0 98).toInt from by first | omega | ((try (have i_rt := Imp.go rt (by omega))); omega)), (show (V 0 60).toInt ≤ (V29 0 60).toInt from by first | omega | ((try (have i_rt := Imp.go rt (by omega))); omega)), (show (V 0 65).toInt ≤ (V29 0 65).toInt from by first | omega | ((try (have i_rt := Imp.go rt (by omega))); omega)), (show (V29 0 65).toInt - (V 0 65).toInt ≤ (V29 0 60).toInt - (V 0 60).toInt from by first | omega | ((try (have i_rt := Imp.go rt (by omega))); omega)), (show (V29 0 73).toInt + (V29 0 95).toInt - (V29 0 65).toInt ≤ (V 0 73).toInt + (V 0 95).toInt - (V 0 65).toInt from by first | omega | ((try (have i_rt := Imp.go rt (by omega))); omega)), (show (V 0 73).toInt ≤ (V29 0 73).toInt from by first | omega | ((try (have i_rt := Imp.go rt (by omega))); omega)), (show (V 0 69).toInt ≤ (V29 0 69).toInt from by first | omega | ((try (have i_rt := Imp.go rt (by omega))); omega)), (show (V29 0 95).toInt = (V 0 95).toInt from by first | omega | ((try (have i_rt := Imp.go rt (by omega))); omega)), (show (V29 0 76).toInt - (V29 0 69).toInt - (V29 0 73).toInt ≤ (V 0 76).toInt - (V 0 69).toInt - (V 0 73).toInt + 1 from by first | omega | ((try (have i_rt := Imp.go rt (by omega))); omega)), (Imp.mk (fun _ => (show (V29 0 76).toInt - (V29 0 69).toInt - (V29 0 73).toInt ≤ (V 0 76).toInt - (V 0 69).toInt - (V 0 73).toInt from by first | omega | ((try (have i_rt := Imp.go rt (by omega))); omega)))), rt38, fm39⟩, by rw [ht]; exact hP, va_K.moved hW.alike hK, hD⟩, hS.F ht⟩) hS.2.2 dX12_failings_120
      · skip
        have f40 : 0 ≤ y15.toInt := b_nlt rfl (by decide) c26
        refine lv_aload_n hx hb dX12_failings_32 rfl (lv_at hl 4 rfl) ?_
        refine lv_iload hx hb dX12_failings_33 (lv_at hl 0 rfl) ?_
        refine lv_iload_n hx hb dX12_failings_35 rfl (lv_at hl 5 rfl) ?_
        refine lv_iload_n hx hb dX12_failings_36 rfl (lv_at hl 6 rfl) ?_
        refine lv_iconst (v := 3) hx hb dX12_failings_37 (by decide) ?_
        refine gA_int (gA_runV (As := [.int y15, .int p0, .int p1, .int 3]) (rest := []) (ci := 12) (q0 := 0) hx hb hml hown hg hP hD hK hS hA hnw hgk (s_wrapAt2 l D ks H.size ad kk V16 L y15 p0 p1 3 hMV16 (by first | omega | ((try (have i_rt := Imp.go rt (by omega))); omega)) (by first | omega | ((try (have i_rt := Imp.go rt (by omega))); omega)) (xlp17_11).1) w2284 w2286 w140 w172 w2287 rfl rfl hdV_yX12_wrapAt ⟨(by show (1) + 1 ≤ (4 * d1 + 40 * d2 + 13); omega), (by show 8 + (8 + 11) + (25) ≤ (100 * d1 + 1000 * d2 + 500); omega)⟩ rfl hl.1 rfl (Nat.le_of_ble_eq_true rfl) dX12_failings_38 ⟨Nat.le_of_ble_eq_true rfl, Nat.le_of_ble_eq_true rfl⟩) hP hD hK hS hA (fun z41 u42 H locs w43 hP hD hK hS => ?_)
        obtain ⟨rgz41, t44, t45⟩ := w43
        have rgz41 : (-1) ≤ z41.toInt ∧ z41.toInt ≤ 11 := rgz41
        have t44 : Imp (0 ≤ z41.toInt) (z41.toInt < (V16 39 (nwh V16)).toInt ∧ isWb V16 p0 p1 3 (Int32.toNatClampNeg z41) = true ∧ y15.toInt < ((wcn (isWb V16 p0 p1 3) (wmany V16) : Nat) : Int)) := t44
        have t45 : Imp (z41.toInt = -1) (((wcn (isWb V16 p0 p1 3) (wmany V16) : Nat) : Int) ≤ y15.toInt) := t45
        refine lv_istore (lv' := [(8, .int z41), (7, .int y15), (6, .int z10), (5, .int (V 0 91)), (4, .int (V 0 90)), (0, .ref (ad 0)), (1, .int p0), (2, .int p1), (3, .int p2)]) hx hb dX12_failings_41 hl (by decide) rfl (fun ls hl => ?_)
        have ko := i_clamp (x := p0) rfl (by omega)
        have iw := isWb_ag (o := p0) (m := p1) (ph := 3) (show agr [(0, 60), (0, 65), (0, 68), (0, 69), (0, 73), (0, 76), (0, 90), (0, 91), (0, 92), (0, 93), (0, 95), (0, 96), (0, 98)] [59, 61, 62, 63, 64, 66, 67, 74, 75, 77, 78, 79, 80, 94, 97] V V16 from (agr.tr agr.rf ajV16 (by decide) (by decide))) rfl (by decide) (by decide) ((xlp17_12.2.1 (Int32.toNatClampNeg p0) (by omega)).1.trans ((FRM.rf : FRM V V (-1)).2.1 (Int32.toNatClampNeg p0) (by omega)).1.symm)
        have wn : 0 ≤ z41.toInt := by
          refine Int.not_lt.mp (fun hq => ?_)
          have h9 := Imp.go t45 (by omega)
          rw [iw.1, iw.2] at h9
          omega
        have hw := Imp.go t44 wn
        have r39 : 0 ≤ (V16 39 (nwh V16)).toInt ∧ (V16 39 (nwh V16)).toInt ≤ 12 := hMV16 39 _
        have kw := i_clamp (x := z41) rfl wn
        have nb : 0 ≤ (V16 0 11).toInt ∧ (V16 0 11).toInt ≤ 1 := hMV16 0 11
        have kn : (nwh V16 : Int) = (V16 0 11).toInt := i_clamp (x := V16 0 11) rfl nb.1
        have wE := TB.wrapE (ar := false) (w := Int32.toNatClampNeg z41) xlp17_11.1 (by omega) hw.2.1 (by decide)
        have wE1 := wE.1
        have wE2 := wE.2.lt
        refine lv_iload hx hb dX12_failings_43 (lv_at hl 4 rfl) ?_
        refine lv_if_le (tgt := 53) hx hb dX12_failings_45 (by decide) (fun c46 => ?_) (fun c46 => ?_)
        · skip
          have f47 : ((V 0 90)).toInt ≤ 0 := b_le rfl (by decide) c46
          refine lv_iload hx hb dX12_failings_53 (lv_at hl 3 rfl) ?_
          refine lv_istore (lv' := [(9, .int (V 0 91)), (8, .int z41), (7, .int y15), (6, .int z10), (5, .int (V 0 91)), (4, .int (V 0 90)), (0, .ref (ad 0)), (1, .int p0), (2, .int p1), (3, .int p2)]) hx hb dX12_failings_55 hl (by decide) rfl (fun ls hl => ?_)
          refine lv_aload_n hx hb dX12_failings_57 rfl (lv_at hl 6 rfl) ?_
          refine lv_iconst (v := 3) hx hb dX12_failings_58 (by decide) ?_
          refine lv_iload hx hb dX12_failings_59 (lv_at hl 1 rfl) ?_
          refine lv_iload hx hb dX12_failings_61 (lv_at hl 0 rfl) ?_
          refine gA_void (gA_runV (As := [.int 3, .int z41, .int (V 0 91)]) (rest := []) (ci := 12) (q0 := 0) hx hb hml hown hg hP hD hK hS hA hnw hgk (s_notes2 l D ks H.size ad kk V16 L 3 z41 (V 0 91) hMV16 (show (V16 0 76).toInt ≤ 1999999999 from by first | omega | ((try (have i_rt := Imp.go rt (by omega))); omega))) w2300 w2302 w144 w172 w2303 rfl rfl hdV_yX12_notes ⟨(by show (0) + 1 ≤ (4 * d1 + 40 * d2 + 13); omega), (by show 8 + (4 + 11) + (0) ≤ (100 * d1 + 1000 * d2 + 500); omega)⟩ rfl hl.1 rfl (Nat.le_of_ble_eq_true rfl) dX12_failings_63 ⟨Nat.le_of_ble_eq_true rfl, Nat.le_of_ble_eq_true rfl⟩) hP hD hK hS hA (fun u49 H locs w50 hP hD hK hS => ?_)
          obtain ⟨V52, L53⟩ := u49
          obtain ⟨hMV52, ajV52, axL53, t51⟩ := w50
          have axL53 : L = L53 := Eq.symm axL53
          subst axL53
          have hP : va_P D vwCl (mw ad kk ks.1 V52 L) H := hP
          have hD : va_D A (mw ad kk ks.1 V52 L) := hD
          have hMV52 : rgd bM V52 := hMV52
          have ajV52 : agr [(0, 76)] [77, 78, 79] V16 V52 := ajV52
          have agV52 : agr [(0, 60), (0, 65), (0, 68), (0, 69), (0, 73), (0, 76), (0, 90), (0, 91), (0, 92), (0, 93), (0, 95), (0, 96), (0, 98)] [59, 61, 62, 63, 64, 66, 67, 74, 75, 77, 78, 79, 80, 94, 97] V V52 := agV16.tr ajV52 (by decide) (by decide)
          have t51 : (V52 0 76).toInt = (V16 0 76).toInt + 1 := t51
          have r54 : 0 ≤ ((V52 0 76)).toInt ∧ ((V52 0 76)).toInt ≤ 2000000000 := hMV52 0 76
          refine lv_aload_n hx hb dX12_failings_66 rfl (lv_at hl 6 rfl) ?_
          refine lv_aload_n hx hb dX12_failings_67 rfl (lv_at hl 6 rfl) ?_
          refine va_get (D := D) (ci := 12) (v := .ref (ad 44)) (C := RX12) (T := TX12) (N := 100) hx hb hg inX12 hown hK hP 0 rfl rfl 44 (by decide) (hg _ w1750) (fun _ h9 => h9) rfl dX12_failings_68 ?_
          refine lv_bipush (v := 12) hx hb dX12_failings_71 (by decide) ?_
          refine lv_aload_n hx hb dX12_failings_73 rfl (lv_at hl 6 rfl) ?_
          refine va_get (D := D) (ci := 12) (v := .int (V52 0 11)) (C := RX12) (T := TX12) (N := 100) hx hb hg inX12 hown hK hP 0 rfl rfl 11 (by decide) (hg _ w1717) (fun _ h9 => h9) rfl dX12_failings_74 ?_
          refine g_top (v := (V 0 11)) ((ajV52 0 11 rfl).trans (ajV16 0 11 rfl)) ?_
          have r55 : 0 ≤ ((V 0 11)).toInt ∧ ((V 0 11)).toInt ≤ 1 := hMV 0 11
          refine lv_imul hx hb dX12_failings_77 ?_
          refine lv_topi (fun z56 ez56 => ?_)
          have hz56 : z56.toInt = 12 * ((V 0 11)).toInt := i_mul ez56 (by decide) rfl (by omega)
          refine lv_iload hx hb dX12_failings_78 (lv_at hl 1 rfl) ?_
          refine lv_iadd hx hb dX12_failings_80 ?_
          refine lv_topi (fun z57 ez57 => ?_)
          have hz57 : z57.toInt = z56.toInt + z41.toInt := i_add ez57 rfl rfl (by omega)
          have pq58 : (V52 0 11).toInt = ((V 0 11)).toInt := congrArg Int32.toInt ((ajV52 0 11 rfl).trans (ajV16 0 11 rfl))
          have kz : Int32.toNatClampNeg z57 = 12 * nwh V16 + Int32.toNatClampNeg z41 := by have h9 := i_clamp (x := z57) rfl (by omega); omega
          have e44 : V52 44 (Int32.toNatClampNeg z57) = V16 44 (Int32.toNatClampNeg z57) := (show agr [(0, 76)] [77, 78, 79] V16 V52 from (agr.tr agr.rf ajV52 (by decide) (by decide))) 44 _ rfl
          have q44 : V16 44 (12 * nwh V16 + Int32.toNatClampNeg z41) = V16 44 (Int32.toNatClampNeg z57) := by rw [kz]
          have q44i := congrArg Int32.toInt q44
          have e44i := congrArg Int32.toInt e44
          have pq59 : (V16 44 (Int32.toNatClampNeg z57)).toInt = ((V 44 (Int32.toNatClampNeg z57))).toInt := congrArg Int32.toInt (ajV16 44 (Int32.toNatClampNeg z57) rfl)
          have pq60 : (V52 44 (Int32.toNatClampNeg z57)).toInt = ((V 44 (Int32.toNatClampNeg z57))).toInt := congrArg Int32.toInt ((ajV52 44 (Int32.toNatClampNeg z57) rfl).trans (ajV16 44 (Int32.toNatClampNeg z57) rfl))
          have q44b : V16 44 (12 * nwh V16 + Int32.toNatClampNeg z41) = V 44 (Int32.toNatClampNeg z57) := q44.trans ((show agr [(0, 60), (0, 65), (0, 68), (0, 69), (0, 73), (0, 76), (0, 90), (0, 91), (0, 92), (0, 93), (0, 95), (0, 96), (0, 98)] [59, 61, 62, 63, 64, 66, 67, 74, 75, 77, 78, 79, 80, 94, 97] V V16 from (agr.tr agr.rf ajV16 (by decide) (by decide))) 44 _ rfl)
          refine va_iald (D := D) (i := z57) hx hb hK hP 37 36 rfl rfl (i_in (a := z57.toInt) rfl (by first | omega | ((try (have i_rt := Imp.go rt (by omega))); omega))) dX12_failings_81 ?_
          refine g_top (v := (V 44 (Int32.toNatClampNeg z57))) ((ajV52 44 (Int32.toNatClampNeg z57) rfl).trans (ajV16 44 (Int32.toNatClampNeg z57) rfl)) ?_
          refine lv_iload_n hx hb dX12_failings_82 rfl (lv_at hl 7 rfl) ?_
          refine lv_iload_n hx hb dX12_failings_83 rfl (lv_at hl 9 rfl) ?_
          refine lv_iload hx hb dX12_failings_84 (lv_at hl 0 rfl) ?_
          refine lv_iconst (v := (-1)) hx hb dX12_failings_86 (by decide) ?_
          have r61 : Int32.toInt (-1) = (-1) := by decide
          have pq62 : (V52 0 65).toInt = ((V16 0 65)).toInt := congrArg Int32.toInt (ajV52 0 65 rfl)
          have pq63 : (V52 0 60).toInt = ((V16 0 60)).toInt := congrArg Int32.toInt (ajV52 0 60 rfl)
          have pq64 : (V52 0 95).toInt = ((V16 0 95)).toInt := congrArg Int32.toInt (ajV52 0 95 rfl)
          have pq65 : (V52 0 73).toInt = ((V16 0 73)).toInt := congrArg Int32.toInt (ajV52 0 73 rfl)
          have pq66 : (V52 0 69).toInt = ((V16 0 69)).toInt := congrArg Int32.toInt (ajV52 0 69 rfl)
          have pq67 : (V52 0 93).toInt = ((V16 0 93)).toInt := congrArg Int32.toInt (ajV52 0 93 rfl)
          have pq68 : (V52 0 98).toInt = ((V16 0 98)).toInt := congrArg Int32.toInt (ajV52 0 98 rfl)
          have rt69 : RT V52 := RT.ag xlp17_11 hMV16 (show agr [(0, 76)] [77, 78, 79] V16 V52 from (agr.tr agr.rf ajV52 (by decide) (by decide))) ⟨⟨rfl, fun _ => rfl, fun _ => rfl, fun _ => rfl, fun _ => rfl, fun _ => rfl, fun _ => rfl⟩, by decide, by decide, rfl, rfl, fun _ => rfl, fun _ => rfl, fun _ => rfl, fun _ => rfl, fun _ => rfl, fun _ => rfl⟩ (c0k.ag (show agr [(0, 76)] [77, 78, 79] V16 V52 from (agr.tr agr.rf ajV52 (by decide) (by decide))) rfl)
          refine gA_int (gA_runV (As := [.int (V 44 (Int32.toNatClampNeg z57)), .int p0, .int p2, .int (V 0 91), .int (-1)]) (rest := []) (ci := 12) (q0 := 0) hx hb hml hown hg hP hD hK hS hA hnw hgk (hk_s_works H.size ad kk V52 L (V 44 (Int32.toNatClampNeg z57)) p0 p2 (V 0 91) (-1) (0) (10000 * nwh V16) (10000 * nwh V16 + 10000) hMV52 (by first | omega | ((try (have i_rt := Imp.go rt (by omega))); omega)) (by first | omega | ((try (have i_rt := Imp.go rt (by omega))); omega)) (by first | omega | ((try (have i_rt := Imp.go rt (by omega))); omega)) rt69 (show (V52 0 65).toInt ≤ (V52 0 60).toInt from by first | omega | ((try (have i_rt := Imp.go rt (by omega))); omega)) (show (V52 0 95).toInt ≤ (V52 0 65).toInt from by first | omega | ((try (have i_rt := Imp.go rt (by omega))); omega)) (show (V52 0 73).toInt + (V52 0 95).toInt - (V52 0 65).toInt ≤ 999000 from by first | omega | ((try (have i_rt := Imp.go rt (by omega))); omega)) (show (V52 0 76).toInt - (V52 0 69).toInt - (V52 0 73).toInt ≤ 1000000001 from by first | omega | ((try (have i_rt := Imp.go rt (by omega))); omega)) (show 300 - (V52 0 60).toInt ≤ ((d1 : Nat) : Int) from by first | omega | ((try (have i_rt := Imp.go rt (by omega))); omega)) (show 10 - (V52 0 93).toInt ≤ ((d2 : Nat) : Int) from by first | omega | ((try (have i_rt := Imp.go rt (by omega))); omega)) (show p0.toInt < (V52 0 60).toInt from by first | omega | ((try (have i_rt := Imp.go rt (by omega))); omega)) (show (V52 0 98).toInt + 400 * ((d2 : Nat) : Int) + 30 ≤ 19000 from by first | omega | ((try (have i_rt := Imp.go rt (by omega))); omega)) (CE.same (show CE 0 false V16 (10000 * nwh V16) (10000 * nwh V16 + 10000) (V 44 (Int32.toNatClampNeg z57)).toInt.toNat from q44b ▸ wE.2) (Int.le_refl _) (Nat.le_refl _) (fun i _ _ => ⟨(show agr [(0, 76)] [77, 78, 79] V16 V52 from (agr.tr agr.rf ajV52 (by decide) (by decide))) 45 _ rfl, (show agr [(0, 76)] [77, 78, 79] V16 V52 from (agr.tr agr.rf ajV52 (by decide) (by decide))) 46 _ rfl, (show agr [(0, 76)] [77, 78, 79] V16 V52 from (agr.tr agr.rf ajV52 (by decide) (by decide))) 47 _ rfl⟩)) (show ((10000 * nwh V16 + 10000) : Int) ≤ 20000 from by first | omega | ((try (have i_rt := Imp.go rt (by omega))); omega)) (hMV52 27 _).1) w2268 w2270 w136 w172 w2271 rfl rfl hdV_yX12_works ⟨(by show (4 * (d1) + 40 * (d2) + 12) + 1 ≤ (4 * d1 + 40 * d2 + 13); omega), (by show 8 + (6 + 11) + (100 * (d1) + 1000 * (d2) + 460) ≤ (100 * d1 + 1000 * d2 + 500); omega)⟩ rfl hl.1 rfl (Nat.le_of_ble_eq_true rfl) dX12_failings_87 ⟨Nat.le_of_ble_eq_true rfl, Nat.le_of_ble_eq_true rfl⟩) hP hD hK hS hA (fun z70 u71 H locs w72 hP hD hK hS => ?_)
          obtain ⟨V86, L87⟩ := u71
          obtain ⟨hMV86, ajV86, axL87, rgz70, t73, t74, t75, t76, t77, t78, t79, t80, t81, t82, t83, t84, t85⟩ := w72
          have axL87 : L = L87 := Eq.symm axL87
          subst axL87
          have hP : va_P D vwCl (mw ad kk ks.1 V86 L) H := hP
          have hD : va_D A (mw ad kk ks.1 V86 L) := hD
          have hMV86 : rgd bM V86 := hMV86
          have ajV86 : agr [(0, 60), (0, 65), (0, 68), (0, 69), (0, 73), (0, 76), (0, 90), (0, 91), (0, 92), (0, 93), (0, 95), (0, 96), (0, 98)] [59, 61, 62, 63, 64, 66, 67, 74, 75, 77, 78, 79, 80, 94, 97] V52 V86 := ajV86
          have agV86 : agr [(0, 60), (0, 65), (0, 68), (0, 69), (0, 73), (0, 76), (0, 90), (0, 91), (0, 92), (0, 93), (0, 95), (0, 96), (0, 98)] [59, 61, 62, 63, 64, 66, 67, 74, 75, 77, 78, 79, 80, 94, 97] V V86 := agV52.tr ajV86 (by decide) (by decide)
          have rgz70 : 0 ≤ z70.toInt ∧ z70.toInt ≤ 2 := rgz70
          have t73 : (V86 0 93).toInt = (V52 0 93).toInt := t73
          have t74 : (V86 0 98).toInt = (V52 0 98).toInt := t74
          have t75 : (V52 0 60).toInt ≤ (V86 0 60).toInt := t75
          have t76 : (V52 0 65).toInt ≤ (V86 0 65).toInt := t76
          have t77 : (V86 0 65).toInt - (V52 0 65).toInt ≤ (V86 0 60).toInt - (V52 0 60).toInt := t77
          have t78 : (V86 0 73).toInt + (V86 0 95).toInt - (V86 0 65).toInt ≤ (V52 0 73).toInt + (V52 0 95).toInt - (V52 0 65).toInt := t78
          have t79 : (V52 0 73).toInt ≤ (V86 0 73).toInt := t79
          have t80 : (V52 0 69).toInt ≤ (V86 0 69).toInt := t80
          have t81 : (V86 0 95).toInt = (V52 0 95).toInt := t81
          have t82 : (V86 0 76).toInt - (V86 0 69).toInt - (V86 0 73).toInt ≤ (V52 0 76).toInt - (V52 0 69).toInt - (V52 0 73).toInt := t82
          have t83 : Imp (z70.toInt ≠ 2) ((V86 0 76).toInt - (V86 0 69).toInt - (V86 0 73).toInt + 1 ≤ (V52 0 76).toInt - (V52 0 69).toInt - (V52 0 73).toInt) := t83
          have t84 : RT V86 := t84
          have t85 : FRM V52 V86 (-1) := t85
          have r88 : 0 ≤ ((V86 0 93)).toInt ∧ ((V86 0 93)).toInt ≤ 10 := hMV86 0 93
          have r89 : 0 ≤ ((V86 0 98)).toInt ∧ ((V86 0 98)).toInt ≤ 20000 := hMV86 0 98
          have r90 : 0 ≤ ((V86 0 60)).toInt ∧ ((V86 0 60)).toInt ≤ 300 := hMV86 0 60
          have r91 : 0 ≤ ((V86 0 65)).toInt ∧ ((V86 0 65)).toInt ≤ 1000000 := hMV86 0 65
          have r92 : 0 ≤ ((V86 0 73)).toInt ∧ ((V86 0 73)).toInt ≤ 1000000 := hMV86 0 73
          have r93 : 0 ≤ ((V86 0 95)).toInt ∧ ((V86 0 95)).toInt ≤ 300 := hMV86 0 95
          have r94 : 0 ≤ ((V86 0 69)).toInt ∧ ((V86 0 69)).toInt ≤ 3000 := hMV86 0 69
          have r95 : 0 ≤ ((V86 0 76)).toInt ∧ ((V86 0 76)).toInt ≤ 2000000000 := hMV86 0 76
          refine lv_istore (lv' := [(10, .int z70), (9, .int (V 0 91)), (8, .int z41), (7, .int y15), (6, .int z10), (5, .int (V 0 91)), (4, .int (V 0 90)), (0, .ref (ad 0)), (1, .int p0), (2, .int p1), (3, .int p2)]) hx hb dX12_failings_90 hl (by decide) rfl (fun ls hl => ?_)
          refine lv_iload hx hb dX12_failings_92 (lv_at hl 0 rfl) ?_
          refine lv_iconst (v := 1) hx hb dX12_failings_94 (by decide) ?_
          refine lv_icmp_eq (tgt := 101) hx hb dX12_failings_95 (by decide) (fun c96 => ?_) (fun c96 => ?_)
          · skip
            have f97 : z70.toInt = 1 := b_eq rfl (by decide) c96
            obtain ⟨z98, ez98⟩ : ∃ y : Int32, y = y15 + (-1) := ⟨_, rfl⟩
            have hz98 : z98.toInt = y15.toInt + (-1) := i_add ez98 rfl (by decide) (by omega)
            refine lv_iinc (v := z98) (lv' := [(7, .int z98), (10, .int z70), (9, .int (V 0 91)), (8, .int z41), (6, .int z10), (5, .int (V 0 91)), (4, .int (V 0 90)), (0, .ref (ad 0)), (1, .int p0), (2, .int p1), (3, .int p2)]) hx hb dX12_failings_101 hl (k := 3) rfl (by rw [ez98]; rfl) (by decide) rfl (fun ls hl => ?_)
            refine lv_goto (tgt := 27) hx hb dX12_failings_104 (by decide) ?_
            have fm99 : FRM V V52 (-1) := (FRM.tr xlp17_12 (FRM.ag (show agr [(0, 76)] [77, 78, 79] V16 V52 from (agr.tr agr.rf ajV52 (by decide) (by decide))) ⟨⟨rfl, fun _ => rfl, fun _ => rfl, fun _ => rfl, fun _ => rfl, fun _ => rfl, fun _ => rfl⟩, by decide, by decide, rfl, rfl, fun _ => rfl, fun _ => rfl, fun _ => rfl, fun _ => rfl, fun _ => rfl, fun _ => rfl⟩) agV16 ⟨rfl, fun _ => rfl, fun _ => rfl, fun _ => rfl, fun _ => rfl, fun _ => rfl, fun _ => rfl⟩ (by omega))
            have fm100 : FRM V V86 (-1) := (FRM.tr fm99 t85 agV52 ⟨rfl, fun _ => rfl, fun _ => rfl, fun _ => rfl, fun _ => rfl, fun _ => rfl, fun _ => rfl⟩ (by omega))
            exact ihlp17 z98 V86 H locs ls (by first | omega | ((try (have i_t83 := Imp.go t83 (by omega))); (try (have i_rt := Imp.go rt (by omega))); (try (have i_rt := Imp.go rt (by omega))); (try (have i_t83 := Imp.go t83 (by omega))); omega)) (show (V86 0 98).toInt = (V 0 98).toInt from by first | omega | ((try (have i_t83 := Imp.go t83 (by omega))); (try (have i_rt := Imp.go rt (by omega))); (try (have i_rt := Imp.go rt (by omega))); (try (have i_t83 := Imp.go t83 (by omega))); omega)) (show (V86 0 93).toInt = (V 0 93).toInt from by first | omega | ((try (have i_t83 := Imp.go t83 (by omega))); (try (have i_rt := Imp.go rt (by omega))); (try (have i_rt := Imp.go rt (by omega))); (try (have i_t83 := Imp.go t83 (by omega))); omega)) (show (V 0 60).toInt ≤ (V86 0 60).toInt from by first | omega | ((try (have i_t83 := Imp.go t83 (by omega))); (try (have i_rt := Imp.go rt (by omega))); (try (have i_rt := Imp.go rt (by omega))); (try (have i_t83 := Imp.go t83 (by omega))); omega)) (show (V 0 65).toInt ≤ (V86 0 65).toInt from by first | omega | ((try (have i_t83 := Imp.go t83 (by omega))); (try (have i_rt := Imp.go rt (by omega))); (try (have i_rt := Imp.go rt (by omega))); (try (have i_t83 := Imp.go t83 (by omega))); omega)) (show (V86 0 65).toInt - (V 0 65).toInt ≤ (V86 0 60).toInt - (V 0 60).toInt from by first | omega | ((try (have i_t83 := Imp.go t83 (by omega))); (try (have i_rt := Imp.go rt (by omega))); (try (have i_rt := Imp.go rt (by omega))); (try (have i_t83 := Imp.go t83 (by omega))); omega)) (show (V86 0 73).toInt + (V86 0 95).toInt - (V86 0 65).toInt ≤ (V 0 73).toInt + (V 0 95).toInt - (V 0 65).toInt from by first | omega | ((try (have i_t83 := Imp.go t83 (by omega))); (try (have i_rt := Imp.go rt (by omega))); (try (have i_rt := Imp.go rt (by omega))); (try (have i_t83 := Imp.go t83 (by omega))); omega)) (show (V 0 73).toInt ≤ (V86 0 73).toInt from by first | omega | ((try (have i_t83 := Imp.go t83 (by omega))); (try (have i_rt := Imp.go rt (by omega))); (try (have i_rt := Imp.go rt (by omega))); (try (have i_t83 := Imp.go t83 (by omega))); omega)) (show (V 0 69).toInt ≤ (V86 0 69).toInt from by first | omega | ((try (have i_t83 := Imp.go t83 (by omega))); (try (have i_rt := Imp.go rt (by omega))); (try (have i_rt := Imp.go rt (by omega))); (try (have i_t83 := Imp.go t83 (by omega))); omega)) (show (V86 0 95).toInt = (V 0 95).toInt from by first | omega | ((try (have i_t83 := Imp.go t83 (by omega))); (try (have i_rt := Imp.go rt (by omega))); (try (have i_rt := Imp.go rt (by omega))); (try (have i_t83 := Imp.go t83 (by omega))); omega)) (show (V86 0 76).toInt - (V86 0 69).toInt - (V86 0 73).toInt ≤ (V 0 76).toInt - (V 0 69).toInt - (V 0 73).toInt from by first | omega | ((try (have i_t83 := Imp.go t83 (by omega))); (try (have i_rt := Imp.go rt (by omega))); (try (have i_rt := Imp.go rt (by omega))); (try (have i_t83 := Imp.go t83 (by omega))); omega)) (show z98.toInt ≤ z10.toInt - 1 from by first | omega | ((try (have i_t83 := Imp.go t83 (by omega))); (try (have i_rt := Imp.go rt (by omega))); (try (have i_rt := Imp.go rt (by omega))); (try (have i_t83 := Imp.go t83 (by omega))); omega)) t84 fm100 (by first | omega | ((try (have i_t83 := Imp.go t83 (by omega))); (try (have i_rt := Imp.go rt (by omega))); (try (have i_rt := Imp.go rt (by omega))); (try (have i_t83 := Imp.go t83 (by omega))); omega)) (agr.tr (agr.tr (agr.tr agr.rf ajV16 (by decide) (by decide)) ajV52 (by decide) (by decide)) ajV86 (by decide) (by decide)) hMV86 hP hD hS (lv_sub hl [0, 4, 5, 6, 7, 8, 9, 10] rfl)
          · skip
            have f101 : z70.toInt ≠ 1 := b_neq rfl (by decide) c96
            refine lv_iload hx hb dX12_failings_98 (lv_at hl 0 rfl) ?_
            have fm102 : FRM V V52 (-1) := (FRM.tr xlp17_12 (FRM.ag (show agr [(0, 76)] [77, 78, 79] V16 V52 from (agr.tr agr.rf ajV52 (by decide) (by decide))) ⟨⟨rfl, fun _ => rfl, fun _ => rfl, fun _ => rfl, fun _ => rfl, fun _ => rfl, fun _ => rfl⟩, by decide, by decide, rfl, rfl, fun _ => rfl, fun _ => rfl, fun _ => rfl, fun _ => rfl, fun _ => rfl, fun _ => rfl⟩) agV16 ⟨rfl, fun _ => rfl, fun _ => rfl, fun _ => rfl, fun _ => rfl, fun _ => rfl, fun _ => rfl⟩ (by omega))
            have fm103 : FRM V V86 (-1) := (FRM.tr fm102 t85 agV52 ⟨rfl, fun _ => rfl, fun _ => rfl, fun _ => rfl, fun _ => rfl, fun _ => rfl, fun _ => rfl⟩ (by omega))
            exact W.iret (v := z70) hx hb hr (fun t ht hW => ⟨⟨z70, (V86, L), rfl, ⟨hMV86, agV86, rfl, (show 0 ≤ z70.toInt ∧ z70.toInt ≤ 2 from by first | omega | ((try (have i_t83 := Imp.go t83 (by omega))); (try (have i_rt := Imp.go rt (by omega))); (try (have i_rt := Imp.go rt (by omega))); (try (have i_t83 := Imp.go t83 (by omega))); omega)), (show (V86 0 93).toInt = (V 0 93).toInt from by first | omega | ((try (have i_t83 := Imp.go t83 (by omega))); (try (have i_rt := Imp.go rt (by omega))); (try (have i_rt := Imp.go rt (by omega))); (try (have i_t83 := Imp.go t83 (by omega))); omega)), (show (V86 0 98).toInt = (V 0 98).toInt from by first | omega | ((try (have i_t83 := Imp.go t83 (by omega))); (try (have i_rt := Imp.go rt (by omega))); (try (have i_rt := Imp.go rt (by omega))); (try (have i_t83 := Imp.go t83 (by omega))); omega)), (show (V 0 60).toInt ≤ (V86 0 60).toInt from by first | omega | ((try (have i_t83 := Imp.go t83 (by omega))); (try (have i_rt := Imp.go rt (by omega))); (try (have i_rt := Imp.go rt (by omega))); (try (have i_t83 := Imp.go t83 (by omega))); omega)), (show (V 0 65).toInt ≤ (V86 0 65).toInt from by first | omega | ((try (have i_t83 := Imp.go t83 (by omega))); (try (have i_rt := Imp.go rt (by omega))); (try (have i_rt := Imp.go rt (by omega))); (try (have i_t83 := Imp.go t83 (by omega))); omega)), (show (V86 0 65).toInt - (V 0 65).toInt ≤ (V86 0 60).toInt - (V 0 60).toInt from by first | omega | ((try (have i_t83 := Imp.go t83 (by omega))); (try (have i_rt := Imp.go rt (by omega))); (try (have i_rt := Imp.go rt (by omega))); (try (have i_t83 := Imp.go t83 (by omega))); omega)), (show (V86 0 73).toInt + (V86 0 95).toInt - (V86 0 65).toInt ≤ (V 0 73).toInt + (V 0 95).toInt - (V 0 65).toInt from by first | omega | ((try (have i_t83 := Imp.go t83 (by omega))); (try (have i_rt := Imp.go rt (by omega))); (try (have i_rt := Imp.go rt (by omega))); (try (have i_t83 := Imp.go t83 (by omega))); omega)), (show (V 0 73).toInt ≤ (V86 0 73).toInt from by first | omega | ((try (have i_t83 := Imp.go t83 (by omega))); (try (have i_rt := Imp.go rt (by omega))); (try (have i_rt := Imp.go rt (by omega))); (try (have i_t83 := Imp.go t83 (by omega))); omega)), (show (V 0 69).toInt ≤ (V86 0 69).toInt from by first | omega | ((try (have i_t83 := Imp.go t83 (by omega))); (try (have i_rt := Imp.go rt (by omega))); (try (have i_rt := Imp.go rt (by omega))); (try (have i_t83 := Imp.go t83 (by omega))); omega)), (show (V86 0 95).toInt = (V 0 95).toInt from by first | omega | ((try (have i_t83 := Imp.go t83 (by omega))); (try (have i_rt := Imp.go rt (by omega))); (try (have i_rt := Imp.go rt (by omega))); (try (have i_t83 := Imp.go t83 (by omega))); omega)), (show (V86 0 76).toInt - (V86 0 69).toInt - (V86 0 73).toInt ≤ (V 0 76).toInt - (V 0 69).toInt - (V 0 73).toInt + 1 from by first | omega | ((try (have i_t83 := Imp.go t83 (by omega))); (try (have i_rt := Imp.go rt (by omega))); (try (have i_rt := Imp.go rt (by omega))); (try (have i_t83 := Imp.go t83 (by omega))); omega)), (Imp.mk (fun hp => have hp : z70.toInt ≠ 2 := hp; (show (V86 0 76).toInt - (V86 0 69).toInt - (V86 0 73).toInt ≤ (V 0 76).toInt - (V 0 69).toInt - (V 0 73).toInt from by first | omega | ((try (have i_t83 := Imp.go t83 (by omega))); (try (have i_rt := Imp.go rt (by omega))); (try (have i_rt := Imp.go rt (by omega))); (try (have i_t83 := Imp.go t83 (by omega))); omega)))), t84, fm103⟩, by rw [ht]; exact hP, va_K.moved hW.alike hK, hD⟩, hS.F ht⟩) hS.2.2 dX12_failings_100
        · skip
          have f104 : 0 < ((V 0 90)).toInt := b_nle rfl (by decide) c46
          refine lv_bipush (v := 20) hx hb dX12_failings_48 (by decide) ?_
          refine lv_goto (tgt := 55) hx hb dX12_failings_50 (by decide) ?_
          refine lv_istore (lv' := [(9, .int 20), (8, .int z41), (7, .int y15), (6, .int z10), (5, .int (V 0 91)), (4, .int (V 0 90)), (0, .ref (ad 0)), (1, .int p0), (2, .int p1), (3, .int p2)]) hx hb dX12_failings_55 hl (by decide) rfl (fun ls hl => ?_)
          refine lv_aload_n hx hb dX12_failings_57 rfl (lv_at hl 6 rfl) ?_
          refine lv_iconst (v := 3) hx hb dX12_failings_58 (by decide) ?_
          refine lv_iload hx hb dX12_failings_59 (lv_at hl 1 rfl) ?_
          refine lv_iload hx hb dX12_failings_61 (lv_at hl 0 rfl) ?_
          have r105 : Int32.toInt 20 = 20 := by decide
          refine gA_void (gA_runV (As := [.int 3, .int z41, .int 20]) (rest := []) (ci := 12) (q0 := 0) hx hb hml hown hg hP hD hK hS hA hnw hgk (s_notes2 l D ks H.size ad kk V16 L 3 z41 20 hMV16 (show (V16 0 76).toInt ≤ 1999999999 from by first | omega | ((try (have i_rt := Imp.go rt (by omega))); omega))) w2300 w2302 w144 w172 w2303 rfl rfl hdV_yX12_notes ⟨(by show (0) + 1 ≤ (4 * d1 + 40 * d2 + 13); omega), (by show 8 + (4 + 11) + (0) ≤ (100 * d1 + 1000 * d2 + 500); omega)⟩ rfl hl.1 rfl (Nat.le_of_ble_eq_true rfl) dX12_failings_63 ⟨Nat.le_of_ble_eq_true rfl, Nat.le_of_ble_eq_true rfl⟩) hP hD hK hS hA (fun u107 H locs w108 hP hD hK hS => ?_)
          obtain ⟨V110, L111⟩ := u107
          obtain ⟨hMV110, ajV110, axL111, t109⟩ := w108
          have axL111 : L = L111 := Eq.symm axL111
          subst axL111
          have hP : va_P D vwCl (mw ad kk ks.1 V110 L) H := hP
          have hD : va_D A (mw ad kk ks.1 V110 L) := hD
          have hMV110 : rgd bM V110 := hMV110
          have ajV110 : agr [(0, 76)] [77, 78, 79] V16 V110 := ajV110
          have agV110 : agr [(0, 60), (0, 65), (0, 68), (0, 69), (0, 73), (0, 76), (0, 90), (0, 91), (0, 92), (0, 93), (0, 95), (0, 96), (0, 98)] [59, 61, 62, 63, 64, 66, 67, 74, 75, 77, 78, 79, 80, 94, 97] V V110 := agV16.tr ajV110 (by decide) (by decide)
          have t109 : (V110 0 76).toInt = (V16 0 76).toInt + 1 := t109
          have r112 : 0 ≤ ((V110 0 76)).toInt ∧ ((V110 0 76)).toInt ≤ 2000000000 := hMV110 0 76
          refine lv_aload_n hx hb dX12_failings_66 rfl (lv_at hl 6 rfl) ?_
          refine lv_aload_n hx hb dX12_failings_67 rfl (lv_at hl 6 rfl) ?_
          refine va_get (D := D) (ci := 12) (v := .ref (ad 44)) (C := RX12) (T := TX12) (N := 100) hx hb hg inX12 hown hK hP 0 rfl rfl 44 (by decide) (hg _ w1750) (fun _ h9 => h9) rfl dX12_failings_68 ?_
          refine lv_bipush (v := 12) hx hb dX12_failings_71 (by decide) ?_
          refine lv_aload_n hx hb dX12_failings_73 rfl (lv_at hl 6 rfl) ?_
          refine va_get (D := D) (ci := 12) (v := .int (V110 0 11)) (C := RX12) (T := TX12) (N := 100) hx hb hg inX12 hown hK hP 0 rfl rfl 11 (by decide) (hg _ w1717) (fun _ h9 => h9) rfl dX12_failings_74 ?_
          refine g_top (v := (V 0 11)) ((ajV110 0 11 rfl).trans (ajV16 0 11 rfl)) ?_
          have r113 : 0 ≤ ((V 0 11)).toInt ∧ ((V 0 11)).toInt ≤ 1 := hMV 0 11
          refine lv_imul hx hb dX12_failings_77 ?_
          refine lv_topi (fun z114 ez114 => ?_)
          have hz114 : z114.toInt = 12 * ((V 0 11)).toInt := i_mul ez114 (by decide) rfl (by omega)
          refine lv_iload hx hb dX12_failings_78 (lv_at hl 1 rfl) ?_
          refine lv_iadd hx hb dX12_failings_80 ?_
          refine lv_topi (fun z115 ez115 => ?_)
          have hz115 : z115.toInt = z114.toInt + z41.toInt := i_add ez115 rfl rfl (by omega)
          have pq116 : (V110 0 11).toInt = ((V 0 11)).toInt := congrArg Int32.toInt ((ajV110 0 11 rfl).trans (ajV16 0 11 rfl))
          have kz : Int32.toNatClampNeg z115 = 12 * nwh V16 + Int32.toNatClampNeg z41 := by have h9 := i_clamp (x := z115) rfl (by omega); omega
          have e44 : V110 44 (Int32.toNatClampNeg z115) = V16 44 (Int32.toNatClampNeg z115) := (show agr [(0, 76)] [77, 78, 79] V16 V110 from (agr.tr agr.rf ajV110 (by decide) (by decide))) 44 _ rfl
          have q44 : V16 44 (12 * nwh V16 + Int32.toNatClampNeg z41) = V16 44 (Int32.toNatClampNeg z115) := by rw [kz]
          have q44i := congrArg Int32.toInt q44
          have e44i := congrArg Int32.toInt e44
          have pq117 : (V16 44 (Int32.toNatClampNeg z115)).toInt = ((V 44 (Int32.toNatClampNeg z115))).toInt := congrArg Int32.toInt (ajV16 44 (Int32.toNatClampNeg z115) rfl)
          have pq118 : (V110 44 (Int32.toNatClampNeg z115)).toInt = ((V 44 (Int32.toNatClampNeg z115))).toInt := congrArg Int32.toInt ((ajV110 44 (Int32.toNatClampNeg z115) rfl).trans (ajV16 44 (Int32.toNatClampNeg z115) rfl))
          have q44b : V16 44 (12 * nwh V16 + Int32.toNatClampNeg z41) = V 44 (Int32.toNatClampNeg z115) := q44.trans ((show agr [(0, 60), (0, 65), (0, 68), (0, 69), (0, 73), (0, 76), (0, 90), (0, 91), (0, 92), (0, 93), (0, 95), (0, 96), (0, 98)] [59, 61, 62, 63, 64, 66, 67, 74, 75, 77, 78, 79, 80, 94, 97] V V16 from (agr.tr agr.rf ajV16 (by decide) (by decide))) 44 _ rfl)
          refine va_iald (D := D) (i := z115) hx hb hK hP 37 36 rfl rfl (i_in (a := z115.toInt) rfl (by first | omega | ((try (have i_rt := Imp.go rt (by omega))); omega))) dX12_failings_81 ?_
          refine g_top (v := (V 44 (Int32.toNatClampNeg z115))) ((ajV110 44 (Int32.toNatClampNeg z115) rfl).trans (ajV16 44 (Int32.toNatClampNeg z115) rfl)) ?_
          refine lv_iload_n hx hb dX12_failings_82 rfl (lv_at hl 7 rfl) ?_
          refine lv_iload_n hx hb dX12_failings_83 rfl (lv_at hl 9 rfl) ?_
          refine lv_iload hx hb dX12_failings_84 (lv_at hl 0 rfl) ?_
          refine lv_iconst (v := (-1)) hx hb dX12_failings_86 (by decide) ?_
          have r119 : Int32.toInt (-1) = (-1) := by decide
          have pq120 : (V110 0 65).toInt = ((V16 0 65)).toInt := congrArg Int32.toInt (ajV110 0 65 rfl)
          have pq121 : (V110 0 60).toInt = ((V16 0 60)).toInt := congrArg Int32.toInt (ajV110 0 60 rfl)
          have pq122 : (V110 0 95).toInt = ((V16 0 95)).toInt := congrArg Int32.toInt (ajV110 0 95 rfl)
          have pq123 : (V110 0 73).toInt = ((V16 0 73)).toInt := congrArg Int32.toInt (ajV110 0 73 rfl)
          have pq124 : (V110 0 69).toInt = ((V16 0 69)).toInt := congrArg Int32.toInt (ajV110 0 69 rfl)
          have pq125 : (V110 0 93).toInt = ((V16 0 93)).toInt := congrArg Int32.toInt (ajV110 0 93 rfl)
          have pq126 : (V110 0 98).toInt = ((V16 0 98)).toInt := congrArg Int32.toInt (ajV110 0 98 rfl)
          have rt127 : RT V110 := RT.ag xlp17_11 hMV16 (show agr [(0, 76)] [77, 78, 79] V16 V110 from (agr.tr agr.rf ajV110 (by decide) (by decide))) ⟨⟨rfl, fun _ => rfl, fun _ => rfl, fun _ => rfl, fun _ => rfl, fun _ => rfl, fun _ => rfl⟩, by decide, by decide, rfl, rfl, fun _ => rfl, fun _ => rfl, fun _ => rfl, fun _ => rfl, fun _ => rfl, fun _ => rfl⟩ (c0k.ag (show agr [(0, 76)] [77, 78, 79] V16 V110 from (agr.tr agr.rf ajV110 (by decide) (by decide))) rfl)
          refine gA_int (gA_runV (As := [.int (V 44 (Int32.toNatClampNeg z115)), .int p0, .int p2, .int 20, .int (-1)]) (rest := []) (ci := 12) (q0 := 0) hx hb hml hown hg hP hD hK hS hA hnw hgk (hk_s_works H.size ad kk V110 L (V 44 (Int32.toNatClampNeg z115)) p0 p2 20 (-1) (0) (10000 * nwh V16) (10000 * nwh V16 + 10000) hMV110 (by first | omega | ((try (have i_rt := Imp.go rt (by omega))); omega)) (by first | omega | ((try (have i_rt := Imp.go rt (by omega))); omega)) (by first | omega | ((try (have i_rt := Imp.go rt (by omega))); omega)) rt127 (show (V110 0 65).toInt ≤ (V110 0 60).toInt from by first | omega | ((try (have i_rt := Imp.go rt (by omega))); omega)) (show (V110 0 95).toInt ≤ (V110 0 65).toInt from by first | omega | ((try (have i_rt := Imp.go rt (by omega))); omega)) (show (V110 0 73).toInt + (V110 0 95).toInt - (V110 0 65).toInt ≤ 999000 from by first | omega | ((try (have i_rt := Imp.go rt (by omega))); omega)) (show (V110 0 76).toInt - (V110 0 69).toInt - (V110 0 73).toInt ≤ 1000000001 from by first | omega | ((try (have i_rt := Imp.go rt (by omega))); omega)) (show 300 - (V110 0 60).toInt ≤ ((d1 : Nat) : Int) from by first | omega | ((try (have i_rt := Imp.go rt (by omega))); omega)) (show 10 - (V110 0 93).toInt ≤ ((d2 : Nat) : Int) from by first | omega | ((try (have i_rt := Imp.go rt (by omega))); omega)) (show p0.toInt < (V110 0 60).toInt from by first | omega | ((try (have i_rt := Imp.go rt (by omega))); omega)) (show (V110 0 98).toInt + 400 * ((d2 : Nat) : Int) + 30 ≤ 19000 from by first | omega | ((try (have i_rt := Imp.go rt (by omega))); omega)) (CE.same (show CE 0 false V16 (10000 * nwh V16) (10000 * nwh V16 + 10000) (V 44 (Int32.toNatClampNeg z115)).toInt.toNat from q44b ▸ wE.2) (Int.le_refl _) (Nat.le_refl _) (fun i _ _ => ⟨(show agr [(0, 76)] [77, 78, 79] V16 V110 from (agr.tr agr.rf ajV110 (by decide) (by decide))) 45 _ rfl, (show agr [(0, 76)] [77, 78, 79] V16 V110 from (agr.tr agr.rf ajV110 (by decide) (by decide))) 46 _ rfl, (show agr [(0, 76)] [77, 78, 79] V16 V110 from (agr.tr agr.rf ajV110 (by decide) (by decide))) 47 _ rfl⟩)) (show ((10000 * nwh V16 + 10000) : Int) ≤ 20000 from by first | omega | ((try (have i_rt := Imp.go rt (by omega))); omega)) (hMV110 27 _).1) w2268 w2270 w136 w172 w2271 rfl rfl hdV_yX12_works ⟨(by show (4 * (d1) + 40 * (d2) + 12) + 1 ≤ (4 * d1 + 40 * d2 + 13); omega), (by show 8 + (6 + 11) + (100 * (d1) + 1000 * (d2) + 460) ≤ (100 * d1 + 1000 * d2 + 500); omega)⟩ rfl hl.1 rfl (Nat.le_of_ble_eq_true rfl) dX12_failings_87 ⟨Nat.le_of_ble_eq_true rfl, Nat.le_of_ble_eq_true rfl⟩) hP hD hK hS hA (fun z128 u129 H locs w130 hP hD hK hS => ?_)
          obtain ⟨V144, L145⟩ := u129
          obtain ⟨hMV144, ajV144, axL145, rgz128, t131, t132, t133, t134, t135, t136, t137, t138, t139, t140, t141, t142, t143⟩ := w130
          have axL145 : L = L145 := Eq.symm axL145
          subst axL145
          have hP : va_P D vwCl (mw ad kk ks.1 V144 L) H := hP
          have hD : va_D A (mw ad kk ks.1 V144 L) := hD
          have hMV144 : rgd bM V144 := hMV144
          have ajV144 : agr [(0, 60), (0, 65), (0, 68), (0, 69), (0, 73), (0, 76), (0, 90), (0, 91), (0, 92), (0, 93), (0, 95), (0, 96), (0, 98)] [59, 61, 62, 63, 64, 66, 67, 74, 75, 77, 78, 79, 80, 94, 97] V110 V144 := ajV144
          have agV144 : agr [(0, 60), (0, 65), (0, 68), (0, 69), (0, 73), (0, 76), (0, 90), (0, 91), (0, 92), (0, 93), (0, 95), (0, 96), (0, 98)] [59, 61, 62, 63, 64, 66, 67, 74, 75, 77, 78, 79, 80, 94, 97] V V144 := agV110.tr ajV144 (by decide) (by decide)
          have rgz128 : 0 ≤ z128.toInt ∧ z128.toInt ≤ 2 := rgz128
          have t131 : (V144 0 93).toInt = (V110 0 93).toInt := t131
          have t132 : (V144 0 98).toInt = (V110 0 98).toInt := t132
          have t133 : (V110 0 60).toInt ≤ (V144 0 60).toInt := t133
          have t134 : (V110 0 65).toInt ≤ (V144 0 65).toInt := t134
          have t135 : (V144 0 65).toInt - (V110 0 65).toInt ≤ (V144 0 60).toInt - (V110 0 60).toInt := t135
          have t136 : (V144 0 73).toInt + (V144 0 95).toInt - (V144 0 65).toInt ≤ (V110 0 73).toInt + (V110 0 95).toInt - (V110 0 65).toInt := t136
          have t137 : (V110 0 73).toInt ≤ (V144 0 73).toInt := t137
          have t138 : (V110 0 69).toInt ≤ (V144 0 69).toInt := t138
          have t139 : (V144 0 95).toInt = (V110 0 95).toInt := t139
          have t140 : (V144 0 76).toInt - (V144 0 69).toInt - (V144 0 73).toInt ≤ (V110 0 76).toInt - (V110 0 69).toInt - (V110 0 73).toInt := t140
          have t141 : Imp (z128.toInt ≠ 2) ((V144 0 76).toInt - (V144 0 69).toInt - (V144 0 73).toInt + 1 ≤ (V110 0 76).toInt - (V110 0 69).toInt - (V110 0 73).toInt) := t141
          have t142 : RT V144 := t142
          have t143 : FRM V110 V144 (-1) := t143
          have r146 : 0 ≤ ((V144 0 93)).toInt ∧ ((V144 0 93)).toInt ≤ 10 := hMV144 0 93
          have r147 : 0 ≤ ((V144 0 98)).toInt ∧ ((V144 0 98)).toInt ≤ 20000 := hMV144 0 98
          have r148 : 0 ≤ ((V144 0 60)).toInt ∧ ((V144 0 60)).toInt ≤ 300 := hMV144 0 60
          have r149 : 0 ≤ ((V144 0 65)).toInt ∧ ((V144 0 65)).toInt ≤ 1000000 := hMV144 0 65
          have r150 : 0 ≤ ((V144 0 73)).toInt ∧ ((V144 0 73)).toInt ≤ 1000000 := hMV144 0 73
          have r151 : 0 ≤ ((V144 0 95)).toInt ∧ ((V144 0 95)).toInt ≤ 300 := hMV144 0 95
          have r152 : 0 ≤ ((V144 0 69)).toInt ∧ ((V144 0 69)).toInt ≤ 3000 := hMV144 0 69
          have r153 : 0 ≤ ((V144 0 76)).toInt ∧ ((V144 0 76)).toInt ≤ 2000000000 := hMV144 0 76
          refine lv_istore (lv' := [(10, .int z128), (9, .int 20), (8, .int z41), (7, .int y15), (6, .int z10), (5, .int (V 0 91)), (4, .int (V 0 90)), (0, .ref (ad 0)), (1, .int p0), (2, .int p1), (3, .int p2)]) hx hb dX12_failings_90 hl (by decide) rfl (fun ls hl => ?_)
          refine lv_iload hx hb dX12_failings_92 (lv_at hl 0 rfl) ?_
          refine lv_iconst (v := 1) hx hb dX12_failings_94 (by decide) ?_
          refine lv_icmp_eq (tgt := 101) hx hb dX12_failings_95 (by decide) (fun c154 => ?_) (fun c154 => ?_)
          · skip
            have f155 : z128.toInt = 1 := b_eq rfl (by decide) c154
            obtain ⟨z156, ez156⟩ : ∃ y : Int32, y = y15 + (-1) := ⟨_, rfl⟩
            have hz156 : z156.toInt = y15.toInt + (-1) := i_add ez156 rfl (by decide) (by omega)
            refine lv_iinc (v := z156) (lv' := [(7, .int z156), (10, .int z128), (9, .int 20), (8, .int z41), (6, .int z10), (5, .int (V 0 91)), (4, .int (V 0 90)), (0, .ref (ad 0)), (1, .int p0), (2, .int p1), (3, .int p2)]) hx hb dX12_failings_101 hl (k := 3) rfl (by rw [ez156]; rfl) (by decide) rfl (fun ls hl => ?_)
            refine lv_goto (tgt := 27) hx hb dX12_failings_104 (by decide) ?_
            have fm157 : FRM V V110 (-1) := (FRM.tr xlp17_12 (FRM.ag (show agr [(0, 76)] [77, 78, 79] V16 V110 from (agr.tr agr.rf ajV110 (by decide) (by decide))) ⟨⟨rfl, fun _ => rfl, fun _ => rfl, fun _ => rfl, fun _ => rfl, fun _ => rfl, fun _ => rfl⟩, by decide, by decide, rfl, rfl, fun _ => rfl, fun _ => rfl, fun _ => rfl, fun _ => rfl, fun _ => rfl, fun _ => rfl⟩) agV16 ⟨rfl, fun _ => rfl, fun _ => rfl, fun _ => rfl, fun _ => rfl, fun _ => rfl, fun _ => rfl⟩ (by omega))
            have fm158 : FRM V V144 (-1) := (FRM.tr fm157 t143 agV110 ⟨rfl, fun _ => rfl, fun _ => rfl, fun _ => rfl, fun _ => rfl, fun _ => rfl, fun _ => rfl⟩ (by omega))
            exact ihlp17 z156 V144 H locs ls (by first | omega | ((try (have i_t141 := Imp.go t141 (by omega))); (try (have i_rt := Imp.go rt (by omega))); (try (have i_rt := Imp.go rt (by omega))); (try (have i_t141 := Imp.go t141 (by omega))); omega)) (show (V144 0 98).toInt = (V 0 98).toInt from by first | omega | ((try (have i_t141 := Imp.go t141 (by omega))); (try (have i_rt := Imp.go rt (by omega))); (try (have i_rt := Imp.go rt (by omega))); (try (have i_t141 := Imp.go t141 (by omega))); omega)) (show (V144 0 93).toInt = (V 0 93).toInt from by first | omega | ((try (have i_t141 := Imp.go t141 (by omega))); (try (have i_rt := Imp.go rt (by omega))); (try (have i_rt := Imp.go rt (by omega))); (try (have i_t141 := Imp.go t141 (by omega))); omega)) (show (V 0 60).toInt ≤ (V144 0 60).toInt from by first | omega | ((try (have i_t141 := Imp.go t141 (by omega))); (try (have i_rt := Imp.go rt (by omega))); (try (have i_rt := Imp.go rt (by omega))); (try (have i_t141 := Imp.go t141 (by omega))); omega)) (show (V 0 65).toInt ≤ (V144 0 65).toInt from by first | omega | ((try (have i_t141 := Imp.go t141 (by omega))); (try (have i_rt := Imp.go rt (by omega))); (try (have i_rt := Imp.go rt (by omega))); (try (have i_t141 := Imp.go t141 (by omega))); omega)) (show (V144 0 65).toInt - (V 0 65).toInt ≤ (V144 0 60).toInt - (V 0 60).toInt from by first | omega | ((try (have i_t141 := Imp.go t141 (by omega))); (try (have i_rt := Imp.go rt (by omega))); (try (have i_rt := Imp.go rt (by omega))); (try (have i_t141 := Imp.go t141 (by omega))); omega)) (show (V144 0 73).toInt + (V144 0 95).toInt - (V144 0 65).toInt ≤ (V 0 73).toInt + (V 0 95).toInt - (V 0 65).toInt from by first | omega | ((try (have i_t141 := Imp.go t141 (by omega))); (try (have i_rt := Imp.go rt (by omega))); (try (have i_rt := Imp.go rt (by omega))); (try (have i_t141 := Imp.go t141 (by omega))); omega)) (show (V 0 73).toInt ≤ (V144 0 73).toInt from by first | omega | ((try (have i_t141 := Imp.go t141 (by omega))); (try (have i_rt := Imp.go rt (by omega))); (try (have i_rt := Imp.go rt (by omega))); (try (have i_t141 := Imp.go t141 (by omega))); omega)) (show (V 0 69).toInt ≤ (V144 0 69).toInt from by first | omega | ((try (have i_t141 := Imp.go t141 (by omega))); (try (have i_rt := Imp.go rt (by omega))); (try (have i_rt := Imp.go rt (by omega))); (try (have i_t141 := Imp.go t141 (by omega))); omega)) (show (V144 0 95).toInt = (V 0 95).toInt from by first | omega | ((try (have i_t141 := Imp.go t141 (by omega))); (try (have i_rt := Imp.go rt (by omega))); (try (have i_rt := Imp.go rt (by omega))); (try (have i_t141 := Imp.go t141 (by omega))); omega)) (show (V144 0 76).toInt - (V144 0 69).toInt - (V144 0 73).toInt ≤ (V 0 76).toInt - (V 0 69).toInt - (V 0 73).toInt from by first | omega | ((try (have i_t141 := Imp.go t141 (by omega))); (try (have i_rt := Imp.go rt (by omega))); (try (have i_rt := Imp.go rt (by omega))); (try (have i_t141 := Imp.go t141 (by omega))); omega)) (show z156.toInt ≤ z10.toInt - 1 from by first | omega | ((try (have i_t141 := Imp.go t141 (by omega))); (try (have i_rt := Imp.go rt (by omega))); (try (have i_rt := Imp.go rt (by omega))); (try (have i_t141 := Imp.go t141 (by omega))); omega)) t142 fm158 (by first | omega | ((try (have i_t141 := Imp.go t141 (by omega))); (try (have i_rt := Imp.go rt (by omega))); (try (have i_rt := Imp.go rt (by omega))); (try (have i_t141 := Imp.go t141 (by omega))); omega)) (agr.tr (agr.tr (agr.tr agr.rf ajV16 (by decide) (by decide)) ajV110 (by decide) (by decide)) ajV144 (by decide) (by decide)) hMV144 hP hD hS (lv_sub hl [0, 4, 5, 6, 7, 8, 9, 10] rfl)
          · skip
            have f159 : z128.toInt ≠ 1 := b_neq rfl (by decide) c154
            refine lv_iload hx hb dX12_failings_98 (lv_at hl 0 rfl) ?_
            have fm160 : FRM V V110 (-1) := (FRM.tr xlp17_12 (FRM.ag (show agr [(0, 76)] [77, 78, 79] V16 V110 from (agr.tr agr.rf ajV110 (by decide) (by decide))) ⟨⟨rfl, fun _ => rfl, fun _ => rfl, fun _ => rfl, fun _ => rfl, fun _ => rfl, fun _ => rfl⟩, by decide, by decide, rfl, rfl, fun _ => rfl, fun _ => rfl, fun _ => rfl, fun _ => rfl, fun _ => rfl, fun _ => rfl⟩) agV16 ⟨rfl, fun _ => rfl, fun _ => rfl, fun _ => rfl, fun _ => rfl, fun _ => rfl, fun _ => rfl⟩ (by omega))
            have fm161 : FRM V V144 (-1) := (FRM.tr fm160 t143 agV110 ⟨rfl, fun _ => rfl, fun _ => rfl, fun _ => rfl, fun _ => rfl, fun _ => rfl, fun _ => rfl⟩ (by omega))
            exact W.iret (v := z128) hx hb hr (fun t ht hW => ⟨⟨z128, (V144, L), rfl, ⟨hMV144, agV144, rfl, (show 0 ≤ z128.toInt ∧ z128.toInt ≤ 2 from by first | omega | ((try (have i_t141 := Imp.go t141 (by omega))); (try (have i_rt := Imp.go rt (by omega))); (try (have i_rt := Imp.go rt (by omega))); (try (have i_t141 := Imp.go t141 (by omega))); omega)), (show (V144 0 93).toInt = (V 0 93).toInt from by first | omega | ((try (have i_t141 := Imp.go t141 (by omega))); (try (have i_rt := Imp.go rt (by omega))); (try (have i_rt := Imp.go rt (by omega))); (try (have i_t141 := Imp.go t141 (by omega))); omega)), (show (V144 0 98).toInt = (V 0 98).toInt from by first | omega | ((try (have i_t141 := Imp.go t141 (by omega))); (try (have i_rt := Imp.go rt (by omega))); (try (have i_rt := Imp.go rt (by omega))); (try (have i_t141 := Imp.go t141 (by omega))); omega)), (show (V 0 60).toInt ≤ (V144 0 60).toInt from by first | omega | ((try (have i_t141 := Imp.go t141 (by omega))); (try (have i_rt := Imp.go rt (by omega))); (try (have i_rt := Imp.go rt (by omega))); (try (have i_t141 := Imp.go t141 (by omega))); omega)), (show (V 0 65).toInt ≤ (V144 0 65).toInt from by first | omega | ((try (have i_t141 := Imp.go t141 (by omega))); (try (have i_rt := Imp.go rt (by omega))); (try (have i_rt := Imp.go rt (by omega))); (try (have i_t141 := Imp.go t141 (by omega))); omega)), (show (V144 0 65).toInt - (V 0 65).toInt ≤ (V144 0 60).toInt - (V 0 60).toInt from by first | omega | ((try (have i_t141 := Imp.go t141 (by omega))); (try (have i_rt := Imp.go rt (by omega))); (try (have i_rt := Imp.go rt (by omega))); (try (have i_t141 := Imp.go t141 (by omega))); omega)), (show (V144 0 73).toInt + (V144 0 95).toInt - (V144 0 65).toInt ≤ (V 0 73).toInt + (V 0 95).toInt - (V 0 65).toInt from by first | omega | ((try (have i_t141 := Imp.go t141 (by omega))); (try (have i_rt := Imp.go rt (by omega))); (try (have i_rt := Imp.go rt (by omega))); (try (have i_t141 := Imp.go t141 (by omega))); omega)), (show (V 0 73).toInt ≤ (V144 0 73).toInt from by first | omega | ((try (have i_t141 := Imp.go t141 (by omega))); (try (have i_rt := Imp.go rt (by omega))); (try (have i_rt := Imp.go rt (by omega))); (try (have i_t141 := Imp.go t141 (by omega))); omega)), (show (V 0 69).toInt ≤ (V144 0 69).toInt from by first | omega | ((try (have i_t141 := Imp.go t141 (by omega))); (try (have i_rt := Imp.go rt (by omega))); (try (have i_rt := Imp.go rt (by omega))); (try (have i_t141 := Imp.go t141 (by omega))); omega)), (show (V144 0 95).toInt = (V 0 95).toInt from by first | omega | ((try (have i_t141 := Imp.go t141 (by omega))); (try (have i_rt := Imp.go rt (by omega))); (try (have i_rt := Imp.go rt (by omega))); (try (have i_t141 := Imp.go t141 (by omega))); omega)), (show (V144 0 76).toInt - (V144 0 69).toInt - (V144 0 73).toInt ≤ (V 0 76).toInt - (V 0 69).toInt - (V 0 73).toInt + 1 from by first | omega | ((try (have i_t141 := Imp.go t141 (by omega))); (try (have i_rt := Imp.go rt (by omega))); (try (have i_rt := Imp.go rt (by omega))); (try (have i_t141 := Imp.go t141 (by omega))); omega)), (Imp.mk (fun hp => have hp : z128.toInt ≠ 2 := hp; (show (V144 0 76).toInt - (V144 0 69).toInt - (V144 0 73).toInt ≤ (V 0 76).toInt - (V 0 69).toInt - (V 0 73).toInt from by first | omega | ((try (have i_t141 := Imp.go t141 (by omega))); (try (have i_rt := Imp.go rt (by omega))); (try (have i_rt := Imp.go rt (by omega))); (try (have i_t141 := Imp.go t141 (by omega))); omega)))), t142, fm161⟩, by rw [ht]; exact hP, va_K.moved hW.alike hK, hD⟩, hS.F ht⟩) hS.2.2 dX12_failings_100
  exact lp17 ((z14.toInt + 1 + 1 : Int).toNat) z14 V H locs ls (by first | omega | ((try (have i_rt := Imp.go rt (by omega))); omega)) (show (V 0 98).toInt = (V 0 98).toInt from by first | omega | ((try (have i_rt := Imp.go rt (by omega))); omega)) (show (V 0 93).toInt = (V 0 93).toInt from by first | omega | ((try (have i_rt := Imp.go rt (by omega))); omega)) (show (V 0 60).toInt ≤ (V 0 60).toInt from by first | omega | ((try (have i_rt := Imp.go rt (by omega))); omega)) (show (V 0 65).toInt ≤ (V 0 65).toInt from by first | omega | ((try (have i_rt := Imp.go rt (by omega))); omega)) (show (V 0 65).toInt - (V 0 65).toInt ≤ (V 0 60).toInt - (V 0 60).toInt from by first | omega | ((try (have i_rt := Imp.go rt (by omega))); omega)) (show (V 0 73).toInt + (V 0 95).toInt - (V 0 65).toInt ≤ (V 0 73).toInt + (V 0 95).toInt - (V 0 65).toInt from by first | omega | ((try (have i_rt := Imp.go rt (by omega))); omega)) (show (V 0 73).toInt ≤ (V 0 73).toInt from by first | omega | ((try (have i_rt := Imp.go rt (by omega))); omega)) (show (V 0 69).toInt ≤ (V 0 69).toInt from by first | omega | ((try (have i_rt := Imp.go rt (by omega))); omega)) (show (V 0 95).toInt = (V 0 95).toInt from by first | omega | ((try (have i_rt := Imp.go rt (by omega))); omega)) (show (V 0 76).toInt - (V 0 69).toInt - (V 0 73).toInt ≤ (V 0 76).toInt - (V 0 69).toInt - (V 0 73).toInt from by first | omega | ((try (have i_rt := Imp.go rt (by omega))); omega)) (show z14.toInt ≤ z10.toInt - 1 from by first | omega | ((try (have i_rt := Imp.go rt (by omega))); omega)) rt (FRM.rf : FRM V V (-1)) (by first | omega | ((try (have i_rt := Imp.go rt (by omega))); omega)) agr.rf hMV hP hD hS (lv_sub hl [0, 1, 2, 3, 4, 5, 6, 7] rfl)
