theorem w2303 : Cond.code yX12_wrapsOf cX12_wrapsOf 6 (some .int) ∈ GW := gw_mem 2303 (by decide +kernel) rfl
theorem w2300 : Cond.methodLink RX12 542 yX12_wrapsOf ∈ GW := gw_mem 2300 (by decide +kernel) rfl
theorem w2302 : Cond.instanceMethod yX12_wrapsOf ∈ GW := gw_mem 2302 (by decide +kernel) rfl
theorem w143 : Cond.selects RX12 yX12_wrapsOf yX12_wrapsOf ∈ GW := gw_mem 143 (by decide +kernel) rfl
theorem hdV_yX12_wrapsOf : yX12_wrapsOf.cls = RX12 ∧ yX12_wrapsOf.cls ≠ "java/lang/invoke/MethodHandle" ∧ yX12_wrapsOf.cls ≠ "java/lang/invoke/VarHandle" ∧ (parseMethodDescriptor yX12_wrapsOf.desc).map (fun d => d.parameters.length) = some 3 := by decide +kernel
theorem dX12_failings_0 : decode cX12_failings 0 = .ok (.aload_n 0, 1) := by decide +kernel
theorem dX12_failings_1 : decode cX12_failings 1 = .ok (.getfield 471, 3) := by decide +kernel
theorem dX12_failings_4 : decode cX12_failings 4 = .ok (.istore 4, 2) := by decide +kernel
theorem dX12_failings_6 : decode cX12_failings 6 = .ok (.aload_n 0, 1) := by decide +kernel
theorem dX12_failings_7 : decode cX12_failings 7 = .ok (.getfield 474, 3) := by decide +kernel
theorem dX12_failings_10 : decode cX12_failings 10 = .ok (.istore 5, 2) := by decide +kernel
theorem dX12_failings_12 : decode cX12_failings 12 = .ok (.aload_n 0, 1) := by decide +kernel
theorem dX12_failings_13 : decode cX12_failings 13 = .ok (.iload_n 1, 1) := by decide +kernel
theorem dX12_failings_14 : decode cX12_failings 14 = .ok (.iload_n 2, 1) := by decide +kernel
theorem dX12_failings_15 : decode cX12_failings 15 = .ok (.iconst 3, 1) := by decide +kernel
theorem dX12_failings_16 : decode cX12_failings 16 = .ok (.invokevirtual 542, 3) := by decide +kernel
theorem dX12_failings_19 : decode cX12_failings 19 = .ok (.istore 6, 2) := by decide +kernel
theorem dX12_failings_21 : decode cX12_failings 21 = .ok (.iload 6, 2) := by decide +kernel
theorem dX12_failings_23 : decode cX12_failings 23 = .ok (.iconst 1, 1) := by decide +kernel
theorem dX12_failings_24 : decode cX12_failings 24 = .ok (.isub, 1) := by decide +kernel
theorem dX12_failings_25 : decode cX12_failings 25 = .ok (.istore 7, 2) := by decide +kernel
theorem dX12_failings_27 : decode cX12_failings 27 = .ok (.iload 7, 2) := by decide +kernel
theorem dX12_failings_29 : decode cX12_failings 29 = .ok (.ifCond .lt 78, 3) := by decide +kernel
theorem dX12_failings_107 : decode cX12_failings 107 = .ok (.aload_n 0, 1) := by decide +kernel
theorem dX12_failings_108 : decode cX12_failings 108 = .ok (.iload 4, 2) := by decide +kernel
theorem dX12_failings_110 : decode cX12_failings 110 = .ok (.putfield 471, 3) := by decide +kernel
theorem dX12_failings_113 : decode cX12_failings 113 = .ok (.aload_n 0, 1) := by decide +kernel
theorem dX12_failings_114 : decode cX12_failings 114 = .ok (.iload 5, 2) := by decide +kernel
theorem dX12_failings_116 : decode cX12_failings 116 = .ok (.putfield 474, 3) := by decide +kernel
theorem dX12_failings_119 : decode cX12_failings 119 = .ok (.iconst 1, 1) := by decide +kernel
theorem dX12_failings_120 : decode cX12_failings 120 = .ok (.ireturn, 1) := by decide +kernel
theorem dX12_failings_32 : decode cX12_failings 32 = .ok (.aload_n 0, 1) := by decide +kernel
theorem dX12_failings_33 : decode cX12_failings 33 = .ok (.iload 7, 2) := by decide +kernel
theorem dX12_failings_35 : decode cX12_failings 35 = .ok (.iload_n 1, 1) := by decide +kernel
theorem dX12_failings_36 : decode cX12_failings 36 = .ok (.iload_n 2, 1) := by decide +kernel
theorem dX12_failings_37 : decode cX12_failings 37 = .ok (.iconst 3, 1) := by decide +kernel
theorem dX12_failings_38 : decode cX12_failings 38 = .ok (.invokevirtual 529, 3) := by decide +kernel
theorem dX12_failings_41 : decode cX12_failings 41 = .ok (.istore 8, 2) := by decide +kernel
theorem dX12_failings_43 : decode cX12_failings 43 = .ok (.iload 4, 2) := by decide +kernel
theorem dX12_failings_45 : decode cX12_failings 45 = .ok (.ifCond .le 8, 3) := by decide +kernel
theorem dX12_failings_53 : decode cX12_failings 53 = .ok (.iload 5, 2) := by decide +kernel
theorem dX12_failings_55 : decode cX12_failings 55 = .ok (.istore 9, 2) := by decide +kernel
theorem dX12_failings_57 : decode cX12_failings 57 = .ok (.aload_n 0, 1) := by decide +kernel
theorem dX12_failings_58 : decode cX12_failings 58 = .ok (.iconst 3, 1) := by decide +kernel
theorem dX12_failings_59 : decode cX12_failings 59 = .ok (.iload 8, 2) := by decide +kernel
theorem dX12_failings_61 : decode cX12_failings 61 = .ok (.iload 9, 2) := by decide +kernel
theorem dX12_failings_63 : decode cX12_failings 63 = .ok (.invokevirtual 535, 3) := by decide +kernel
theorem dX12_failings_66 : decode cX12_failings 66 = .ok (.aload_n 0, 1) := by decide +kernel
theorem dX12_failings_67 : decode cX12_failings 67 = .ok (.aload_n 0, 1) := by decide +kernel
theorem dX12_failings_68 : decode cX12_failings 68 = .ok (.getfield 137, 3) := by decide +kernel
theorem dX12_failings_71 : decode cX12_failings 71 = .ok (.bipush 12, 2) := by decide +kernel
theorem dX12_failings_73 : decode cX12_failings 73 = .ok (.aload_n 0, 1) := by decide +kernel
theorem dX12_failings_74 : decode cX12_failings 74 = .ok (.getfield 286, 3) := by decide +kernel
theorem dX12_failings_77 : decode cX12_failings 77 = .ok (.imul, 1) := by decide +kernel
theorem dX12_failings_78 : decode cX12_failings 78 = .ok (.iload 8, 2) := by decide +kernel
theorem dX12_failings_80 : decode cX12_failings 80 = .ok (.iadd, 1) := by decide +kernel
theorem dX12_failings_81 : decode cX12_failings 81 = .ok (.iaload, 1) := by decide +kernel
theorem dX12_failings_82 : decode cX12_failings 82 = .ok (.iload_n 1, 1) := by decide +kernel
theorem dX12_failings_83 : decode cX12_failings 83 = .ok (.iload_n 3, 1) := by decide +kernel
theorem dX12_failings_84 : decode cX12_failings 84 = .ok (.iload 9, 2) := by decide +kernel
theorem dX12_failings_86 : decode cX12_failings 86 = .ok (.iconst (-1), 1) := by decide +kernel
theorem dX12_failings_87 : decode cX12_failings 87 = .ok (.invokevirtual 503, 3) := by decide +kernel
theorem dX12_failings_90 : decode cX12_failings 90 = .ok (.istore 10, 2) := by decide +kernel
theorem dX12_failings_92 : decode cX12_failings 92 = .ok (.iload 10, 2) := by decide +kernel
theorem dX12_failings_94 : decode cX12_failings 94 = .ok (.iconst 1, 1) := by decide +kernel
theorem dX12_failings_95 : decode cX12_failings 95 = .ok (.if_icmp .eq 6, 3) := by decide +kernel
theorem dX12_failings_101 : decode cX12_failings 101 = .ok (.iinc 7 (-1), 3) := by decide +kernel
theorem dX12_failings_104 : decode cX12_failings 104 = .ok (.goto (-77), 3) := by decide +kernel
theorem dX12_failings_98 : decode cX12_failings 98 = .ok (.iload 10, 2) := by decide +kernel
theorem dX12_failings_100 : decode cX12_failings 100 = .ok (.ireturn, 1) := by decide +kernel
theorem dX12_failings_48 : decode cX12_failings 48 = .ok (.bipush 20, 2) := by decide +kernel
theorem dX12_failings_50 : decode cX12_failings 50 = .ok (.goto 5, 3) := by decide +kernel
set_option maxHeartbeats 4000000 in
set_option maxRecDepth 100000 in
theorem s_failings {l : Launch} {D : va_G} {ks : KS} {d1 d2 : Nat} (hk_s_works : K_s_works l D ks d1 d2) : K_s_failings l D ks d1 d2 := by
  intro sz ad kk V L p0 p1 p2 hMV rg_p0 rg_p1 rg_p2 rt n1 n2 n3 n4 n5 n6 oq1 n7
  refine g_met (q_s_failings D ks ad kk V L p0 p1 p2) (by decide) (Nat.le_of_ble_eq_true rfl) ?_
  intro p e s m below meth c A ls H locs hx hb hr hml hown hg hlocks hin hnw hgk hP hK hD hS hA hl
  have hown : s.vm.findClass RX12 = some m.cls := hown
  have hl : lv_has ls 11 [(0, .ref (ad 0)), (1, .int p0), (2, .int p1), (3, .int p2)] := hl
  have hP : va_P D vwCl (mw ad kk ks.1 V L) H := hP
  have hD : va_D A (mw ad kk ks.1 V L) := hD
  have hK : va_K D vwCl (mty kk) s := hK
  have agV : agr [(0, 60), (0, 65), (0, 68), (0, 69), (0, 73), (0, 76), (0, 90), (0, 91), (0, 92), (0, 93), (0, 95), (0, 96), (0, 98)] [59, 61, 62, 63, 64, 66, 67, 74, 75, 77, 78, 79, 80, 94, 97] V V := agr.rf
  have r1 : 0 ≤ ((V 0 65)).toInt ∧ ((V 0 65)).toInt ≤ 1000000 := hMV 0 65
  have r2 : 0 ≤ ((V 0 60)).toInt ∧ ((V 0 60)).toInt ≤ 300 := hMV 0 60
  have r3 : 0 ≤ ((V 0 95)).toInt ∧ ((V 0 95)).toInt ≤ 300 := hMV 0 95
  have r4 : 0 ≤ ((V 0 73)).toInt ∧ ((V 0 73)).toInt ≤ 1000000 := hMV 0 73
  have r5 : 0 ≤ ((V 0 76)).toInt ∧ ((V 0 76)).toInt ≤ 2000000000 := hMV 0 76
  have r6 : 0 ≤ ((V 0 69)).toInt ∧ ((V 0 69)).toInt ≤ 3000 := hMV 0 69
  have r7 : 0 ≤ ((V 0 93)).toInt ∧ ((V 0 93)).toInt ≤ 10 := hMV 0 93
  have r8 : 0 ≤ ((V 0 98)).toInt ∧ ((V 0 98)).toInt ≤ 20000 := hMV 0 98
  refine lv_aload_n hx hb dX12_failings_0 rfl (lv_at hl 0 rfl) ?_
  refine va_get (D := D) (ci := 12) (v := .int (V 0 90)) (C := RX12) (T := TX12) (N := 100) hx hb hg inX12 hown hK hP 0 rfl rfl 90 (by decide) (hg _ w1800) (fun _ h9 => h9) rfl dX12_failings_1 ?_
  refine lv_istore (lv' := [(4, .int (V 0 90)), (0, .ref (ad 0)), (1, .int p0), (2, .int p1), (3, .int p2)]) hx hb dX12_failings_4 hl (by decide) rfl (fun ls hl => ?_)
  refine lv_aload_n hx hb dX12_failings_6 rfl (lv_at hl 1 rfl) ?_
  refine va_get (D := D) (ci := 12) (v := .int (V 0 91)) (C := RX12) (T := TX12) (N := 100) hx hb hg inX12 hown hK hP 0 rfl rfl 91 (by decide) (hg _ w1801) (fun _ h9 => h9) rfl dX12_failings_7 ?_
  refine lv_istore (lv' := [(5, .int (V 0 91)), (4, .int (V 0 90)), (0, .ref (ad 0)), (1, .int p0), (2, .int p1), (3, .int p2)]) hx hb dX12_failings_10 hl (by decide) rfl (fun ls hl => ?_)
  refine lv_aload_n hx hb dX12_failings_12 rfl (lv_at hl 2 rfl) ?_
  refine lv_iload_n hx hb dX12_failings_13 rfl (lv_at hl 3 rfl) ?_
  refine lv_iload_n hx hb dX12_failings_14 rfl (lv_at hl 4 rfl) ?_
  refine lv_iconst (v := 3) hx hb dX12_failings_15 (by decide) ?_
  have r9 : Int32.toInt 3 = 3 := by decide
  refine gA_int (gA_runV (As := [.int p0, .int p1, .int 3]) (rest := []) (ci := 12) (q0 := 0) hx hb hml hown hg hP hD hK hS hA hnw hgk (s_wrapsOf2 l D ks H.size ad kk V L p0 p1 3 hMV (by first | omega | ((try (have i_rt := Imp.go rt (by omega))); omega)) (rt).1) w2300 w2302 w143 w172 w2303 rfl rfl hdV_yX12_wrapsOf ⟨(by show (1) + 1 ≤ (4 * d1 + 40 * d2 + 13); omega), (by show 8 + (6 + 11) + (25) ≤ (100 * d1 + 1000 * d2 + 500); omega)⟩ rfl hl.1 rfl (Nat.le_of_ble_eq_true rfl) dX12_failings_16 ⟨Nat.le_of_ble_eq_true rfl, Nat.le_of_ble_eq_true rfl⟩) hP hD hK hS hA (fun z10 u11 H locs w12 hP hD hK hS => ?_)
  obtain ⟨rgz10, t13⟩ := w12
  have rgz10 : 0 ≤ z10.toInt ∧ z10.toInt ≤ 12 := rgz10
  have t13 : z10.toInt = ((wcn (isWb V p0 p1 3) (wmany V) : Nat) : Int) := t13
  refine lv_istore (lv' := [(6, .int z10), (5, .int (V 0 91)), (4, .int (V 0 90)), (0, .ref (ad 0)), (1, .int p0), (2, .int p1), (3, .int p2)]) hx hb dX12_failings_19 hl (by decide) rfl (fun ls hl => ?_)
  refine lv_iload hx hb dX12_failings_21 (lv_at hl 0 rfl) ?_
  refine lv_iconst (v := 1) hx hb dX12_failings_23 (by decide) ?_
  refine lv_isub hx hb dX12_failings_24 ?_
  refine lv_topi (fun z14 ez14 => ?_)
  have hz14 : z14.toInt = z10.toInt - 1 := i_sub ez14 rfl (by decide) (by omega)
  refine lv_istore (lv' := [(7, .int z14), (6, .int z10), (5, .int (V 0 91)), (4, .int (V 0 90)), (0, .ref (ad 0)), (1, .int p0), (2, .int p1), (3, .int p2)]) hx hb dX12_failings_25 hl (by decide) rfl (fun ls hl => ?_)
  have lp17 : ∀ (fulp17 : Nat) (y15 : Int32) (V16 : Vf) (H : Heap) (locs : List Loc) (ls : Array Slot), (-1) ≤ y15.toInt ∧ y15.toInt ≤ 11 → (V16 0 98).toInt = (V 0 98).toInt → (V16 0 93).toInt = (V 0 93).toInt → (V 0 60).toInt ≤ (V16 0 60).toInt → (V 0 65).toInt ≤ (V16 0 65).toInt → (V16 0 65).toInt - (V 0 65).toInt ≤ (V16 0 60).toInt - (V 0 60).toInt → (V16 0 73).toInt + (V16 0 95).toInt - (V16 0 65).toInt ≤ (V 0 73).toInt + (V 0 95).toInt - (V 0 65).toInt → (V 0 73).toInt ≤ (V16 0 73).toInt → (V 0 69).toInt ≤ (V16 0 69).toInt → (V16 0 95).toInt = (V 0 95).toInt → (V16 0 76).toInt - (V16 0 69).toInt - (V16 0 73).toInt ≤ (V 0 76).toInt - (V 0 69).toInt - (V 0 73).toInt → y15.toInt ≤ z10.toInt - 1 → RT V16 → FRM V V16 (-1) → y15.toInt + 1 < (fulp17 : Int) → agr [(0, 60), (0, 65), (0, 68), (0, 69), (0, 73), (0, 76), (0, 90), (0, 91), (0, 92), (0, 93), (0, 95), (0, 96), (0, 98)] [59, 61, 62, 63, 64, 66, 67, 74, 75, 77, 78, 79, 80, 94, 97] V V16 → rgd bM V16 → va_P D vwCl (mw ad kk ks.1 V16 L) H → va_D A (mw ad kk ks.1 V16 L) → va_S A s.heap H locs → lv_has ls 11 [(7, .int y15), (6, .int z10), (5, .int (V 0 91)), (4, .int (V 0 90)), (0, .ref (ad 0)), (1, .int p0), (2, .int p1), (3, .int p2)] → W p l e (rK2 (4 * d1 + 40 * d2 + 13) (100 * d1 + 1000 * d2 + 500)) s m ([.ref (ad 0), .int p0, .int p1, .int p2] : List Value).toArray below meth c H locs 0 0 (MQ below (q_s_failings D ks ad kk V L p0 p1 p2 A) ([.ref (ad 0), .int p0, .int p1, .int p2] : List Value).toArray s 0 0 A) (F0 m 27 ls []) := by
    intro fulp17
    induction fulp17 with
    | zero =>
      intro y15 V16 H locs ls klp17_0 xlp17_0 xlp17_1 xlp17_2 xlp17_3 xlp17_4 xlp17_5 xlp17_6 xlp17_7 xlp17_8 xlp17_9 xlp17_10 xlp17_11 xlp17_12 hn ajV16 hMV16 hP hD hS hl
      exfalso; omega
    | succ fulp17 ihlp17 =>
      intro y15 V16 H locs ls klp17_0 xlp17_0 xlp17_1 xlp17_2 xlp17_3 xlp17_4 xlp17_5 xlp17_6 xlp17_7 xlp17_8 xlp17_9 xlp17_10 xlp17_11 xlp17_12 hn ajV16 hMV16 hP hD hS hl
      have agV16 : agr [(0, 60), (0, 65), (0, 68), (0, 69), (0, 73), (0, 76), (0, 90), (0, 91), (0, 92), (0, 93), (0, 95), (0, 96), (0, 98)] [59, 61, 62, 63, 64, 66, 67, 74, 75, 77, 78, 79, 80, 94, 97] V V16 := agV.tr ajV16 (by decide) (by decide)
      have r18 : 0 ≤ ((V16 0 98)).toInt ∧ ((V16 0 98)).toInt ≤ 20000 := hMV16 0 98
      have r19 : 0 ≤ ((V16 0 93)).toInt ∧ ((V16 0 93)).toInt ≤ 10 := hMV16 0 93
      have r20 : 0 ≤ ((V16 0 60)).toInt ∧ ((V16 0 60)).toInt ≤ 300 := hMV16 0 60
      have r21 : 0 ≤ ((V16 0 65)).toInt ∧ ((V16 0 65)).toInt ≤ 1000000 := hMV16 0 65
      have r22 : 0 ≤ ((V16 0 73)).toInt ∧ ((V16 0 73)).toInt ≤ 1000000 := hMV16 0 73
      have r23 : 0 ≤ ((V16 0 95)).toInt ∧ ((V16 0 95)).toInt ≤ 300 := hMV16 0 95
      have r24 : 0 ≤ ((V16 0 69)).toInt ∧ ((V16 0 69)).toInt ≤ 3000 := hMV16 0 69
      have r25 : 0 ≤ ((V16 0 76)).toInt ∧ ((V16 0 76)).toInt ≤ 2000000000 := hMV16 0 76
      refine lv_iload hx hb dX12_failings_27 (lv_at hl 0 rfl) ?_
      refine lv_if_lt (tgt := 107) hx hb dX12_failings_29 (by decide) (fun c26 => ?_) (fun c26 => ?_)
      · skip
        have f27 : y15.toInt < 0 := b_lt rfl (by decide) c26
        refine lv_aload_n hx hb dX12_failings_107 rfl (lv_at hl 4 rfl) ?_
        refine lv_iload hx hb dX12_failings_108 (lv_at hl 3 rfl) ?_
        refine va_put (D := D) (ci := 12) (v := .int (V 0 90)) (ty := tyX12 90) (C := RX12) (T := TX12) (N := 100) hx hb hg inX12 tyX12 tyX12_ok nmX12 hown hK hP hD hS 0 rfl rfl 90 (by decide) (hg _ w1800) (fun _ h9 => h9) rfl (tyX12_ok 90 (by decide)) rfl rfl (Nat.le_of_ble_eq_true rfl) dX12_failings_110 (fun H locs hP hD hS => ?_)
        obtain ⟨V28, hV28⟩ : ∃ z, z = up2 V16 0 90 (V 0 90) := ⟨_, rfl⟩
        have hP : va_P D vwCl (mw ad kk ks.1 V28 L) H := by rw [hV28]; exact hP
        have hD : va_D A (mw ad kk ks.1 V28 L) := by rw [hV28]; exact hD
        have hMV28 : rgd bM V28 := hMV16.put hV28 (i_full _)
        have agV28 : agr [(0, 60), (0, 65), (0, 68), (0, 69), (0, 73), (0, 76), (0, 90), (0, 91), (0, 92), (0, 93), (0, 95), (0, 96), (0, 98)] [59, 61, 62, 63, 64, 66, 67, 74, 75, 77, 78, 79, 80, 94, 97] V V28 := agV16.up hV28 rfl
        refine lv_aload_n hx hb dX12_failings_113 rfl (lv_at hl 4 rfl) ?_
        refine lv_iload hx hb dX12_failings_114 (lv_at hl 2 rfl) ?_
        refine va_put (D := D) (ci := 12) (v := .int (V 0 91)) (ty := tyX12 91) (C := RX12) (T := TX12) (N := 100) hx hb hg inX12 tyX12 tyX12_ok nmX12 hown hK hP hD hS 0 rfl rfl 91 (by decide) (hg _ w1801) (fun _ h9 => h9) rfl (tyX12_ok 91 (by decide)) rfl rfl (Nat.le_of_ble_eq_true rfl) dX12_failings_116 (fun H locs hP hD hS => ?_)
        obtain ⟨V29, hV29⟩ : ∃ z, z = up2 V28 0 91 (V 0 91) := ⟨_, rfl⟩
        have hP : va_P D vwCl (mw ad kk ks.1 V29 L) H := by rw [hV29]; exact hP
        have hD : va_D A (mw ad kk ks.1 V29 L) := by rw [hV29]; exact hD
        have hMV29 : rgd bM V29 := hMV28.put hV29 (i_full _)
        have agV29 : agr [(0, 60), (0, 65), (0, 68), (0, 69), (0, 73), (0, 76), (0, 90), (0, 91), (0, 92), (0, 93), (0, 95), (0, 96), (0, 98)] [59, 61, 62, 63, 64, 66, 67, 74, 75, 77, 78, 79, 80, 94, 97] V V29 := agV28.up hV29 rfl
        refine lv_iconst (v := 1) hx hb dX12_failings_119 (by decide) ?_
        have pq30 : (V29 0 93).toInt = ((V16 0 93)).toInt := congrArg Int32.toInt ((up2_k hV29 (by decide)).trans (up2_k hV28 (by decide)))
        have pq31 : (V29 0 98).toInt = ((V16 0 98)).toInt := congrArg Int32.toInt ((up2_k hV29 (by decide)).trans (up2_k hV28 (by decide)))
        have pq32 : (V29 0 60).toInt = ((V16 0 60)).toInt := congrArg Int32.toInt ((up2_k hV29 (by decide)).trans (up2_k hV28 (by decide)))
        have pq33 : (V29 0 65).toInt = ((V16 0 65)).toInt := congrArg Int32.toInt ((up2_k hV29 (by decide)).trans (up2_k hV28 (by decide)))
        have pq34 : (V29 0 73).toInt = ((V16 0 73)).toInt := congrArg Int32.toInt ((up2_k hV29 (by decide)).trans (up2_k hV28 (by decide)))
        have pq35 : (V29 0 95).toInt = ((V16 0 95)).toInt := congrArg Int32.toInt ((up2_k hV29 (by decide)).trans (up2_k hV28 (by decide)))
        have pq36 : (V29 0 69).toInt = ((V16 0 69)).toInt := congrArg Int32.toInt ((up2_k hV29 (by decide)).trans (up2_k hV28 (by decide)))
        have pq37 : (V29 0 76).toInt = ((V16 0 76)).toInt := congrArg Int32.toInt ((up2_k hV29 (by decide)).trans (up2_k hV28 (by decide)))
        have rt38 : RT V29 := RT.ag xlp17_11 hMV16 (show agr [(0, 90), (0, 91)] [] V16 V29 from (agr.up (agr.up agr.rf hV28 rfl) hV29 rfl)) ⟨⟨rfl, fun _ => rfl, fun _ => rfl, fun _ => rfl, fun _ => rfl, fun _ => rfl, fun _ => rfl⟩, by decide, by decide, rfl, rfl, fun _ => rfl, fun _ => rfl, fun _ => rfl, fun _ => rfl, fun _ => rfl, fun _ => rfl⟩ (c0k.ag (show agr [(0, 90), (0, 91)] [] V16 V29 from (agr.up (agr.up agr.rf hV28 rfl) hV29 rfl)) rfl)
        have fm39 : FRM V V29 (-1) := (FRM.tr xlp17_12 (FRM.ag (show agr [(0, 90), (0, 91)] [] V16 V29 from (agr.up (agr.up agr.rf hV28 rfl) hV29 rfl)) ⟨⟨rfl, fun _ => rfl, fun _ => rfl, fun _ => rfl, fun _ => rfl, fun _ => rfl, fun _ => rfl⟩, by decide, by decide, rfl, rfl, fun _ => rfl, fun _ => rfl, fun _ => rfl, fun _ => rfl, fun _ => rfl, fun _ => rfl⟩) agV16 ⟨rfl, fun _ => rfl, fun _ => rfl, fun _ => rfl, fun _ => rfl, fun _ => rfl, fun _ => rfl⟩ (by omega))
        exact W.iret (v := 1) hx hb hr (fun t ht hW => ⟨⟨1, (V29, L), rfl, ⟨hMV29, agV29, rfl, (by decide), (show (V29 0 93).toInt = (V 0 93).toInt from by first | omega | ((try (have i_rt := Imp.go rt (by omega))); omega)), (show (V29 0 98).toInt = (V 0 98).toInt from by first | omega | ((try (have i_rt := Imp.go rt (by omega))); omega)), (show (V 0 60).toInt ≤ (V29 0 60).toInt from by first | omega | ((try (have i_rt := Imp.go rt (by omega))); omega)), (show (V 0 65).toInt ≤ (V29 0 65).toInt from by first | omega | ((try (have i_rt := Imp.go rt (by omega))); omega)), (show (V29 0 65).toInt - (V 0 65).toInt ≤ (V29 0 60).toInt - (V 0 60).toInt from by first | omega | ((try (have i_rt := Imp.go rt (by omega))); omega)), (show (V29 0 73).toInt + (V29 0 95).toInt - (V29 0 65).toInt ≤ (V 0 73).toInt + (V 0 95).toInt - (V 0 65).toInt from by first | omega | ((try (have i_rt := Imp.go rt (by omega))); omega)), (show (V 0 73).toInt ≤ (V29 0 73).toInt from by first | omega | ((try (have i_rt := Imp.go rt (by omega))); omega)), (show (V 0 69).toInt ≤ (V29 0 69).toInt from by first | omega | ((try (have i_rt := Imp.go rt (by omega))); omega)), (show (V29 0 95).toInt = (V 0 95).toInt from by first | omega | ((try (have i_rt := Imp.go rt (by omega))); omega)), (show (V29 0 76).toInt - (V29 0 69).toInt - (V29 0 73).toInt ≤ (V 0 76).toInt - (V 0 69).toInt - (V 0 73).toInt + 1 from by first | omega | ((try (have i_rt := Imp.go rt (by omega))); omega)), (Imp.mk (fun _ => (show (V29 0 76).toInt - (V29 0 69).toInt - (V29 0 73).toInt ≤ (V 0 76).toInt - (V 0 69).toInt - (V 0 73).toInt from by first | omega | ((try (have i_rt := Imp.go rt (by omega))); omega)))), rt38, fm39⟩, by rw [ht]; exact hP, va_K.moved hW.alike hK, hD⟩, hS.F ht⟩) hS.2.2 dX12_failings_120
      · skip
        have f40 : 0 ≤ y15.toInt := b_nlt rfl (by decide) c26
        refine lv_aload_n hx hb dX12_failings_32 rfl (lv_at hl 4 rfl) ?_
        refine lv_iload hx hb dX12_failings_33 (lv_at hl 0 rfl) ?_
        refine lv_iload_n hx hb dX12_failings_35 rfl (lv_at hl 5 rfl) ?_
        refine lv_iload_n hx hb dX12_failings_36 rfl (lv_at hl 6 rfl) ?_
        refine lv_iconst (v := 3) hx hb dX12_failings_37 (by decide) ?_
        refine gA_int (gA_runV (As := [.int y15, .int p0, .int p1, .int 3]) (rest := []) (ci := 12) (q0 := 0) hx hb hml hown hg hP hD hK hS hA hnw hgk (s_wrapAt2 l D ks H.size ad kk V16 L y15 p0 p1 3 hMV16 (by first | omega | ((try (have i_rt := Imp.go rt (by omega))); omega)) (by first | omega | ((try (have i_rt := Imp.go rt (by omega))); omega)) (xlp17_11).1) w2288 w2290 w140 w172 w2291 rfl rfl hdV_yX12_wrapAt ⟨(by show (1) + 1 ≤ (4 * d1 + 40 * d2 + 13); omega), (by show 8 + (8 + 11) + (25) ≤ (100 * d1 + 1000 * d2 + 500); omega)⟩ rfl hl.1 rfl (Nat.le_of_ble_eq_true rfl) dX12_failings_38 ⟨Nat.le_of_ble_eq_true rfl, Nat.le_of_ble_eq_true rfl⟩) hP hD hK hS hA (fun z41 u42 H locs w43 hP hD hK hS => ?_)
        obtain ⟨rgz41, t44, t45⟩ := w43
        have rgz41 : (-1) ≤ z41.toInt ∧ z41.toInt ≤ 11 := rgz41
        have t44 : Imp (0 ≤ z41.toInt) (z41.toInt < (V16 39 (nwh V16)).toInt ∧ isWb V16 p0 p1 3 (Int32.toNatClampNeg z41) = true ∧ y15.toInt < ((wcn (isWb V16 p0 p1 3) (wmany V16) : Nat) : Int)) := t44
        have t45 : Imp (z41.toInt = -1) (((wcn (isWb V16 p0 p1 3) (wmany V16) : Nat) : Int) ≤ y15.toInt) := t45
        refine lv_istore (lv' := [(8, .int z41), (7, .int y15), (6, .int z10), (5, .int (V 0 91)), (4, .int (V 0 90)), (0, .ref (ad 0)), (1, .int p0), (2, .int p1), (3, .int p2)]) hx hb dX12_failings_41 hl (by decide) rfl (fun ls hl => ?_)
        have ko := i_clamp (x := p0) rfl (by omega)
        have iw := isWb_ag (o := p0) (m := p1) (ph := 3) (show agr [(0, 60), (0, 65), (0, 68), (0, 69), (0, 73), (0, 76), (0, 90), (0, 91), (0, 92), (0, 93), (0, 95), (0, 96), (0, 98)] [59, 61, 62, 63, 64, 66, 67, 74, 75, 77, 78, 79, 80, 94, 97] V V16 from (agr.tr agr.rf ajV16 (by decide) (by decide))) rfl (by decide) (by decide) ((xlp17_12.2.1 (Int32.toNatClampNeg p0) (by omega)).1.trans ((FRM.rf : FRM V V (-1)).2.1 (Int32.toNatClampNeg p0) (by omega)).1.symm)
        have wn : 0 ≤ z41.toInt := by
          refine Int.not_lt.mp (fun hq => ?_)
          have h9 := Imp.go t45 (by omega)
          rw [iw.1, iw.2] at h9
          omega
        have hw := Imp.go t44 wn
        have r39 : 0 ≤ (V16 39 (nwh V16)).toInt ∧ (V16 39 (nwh V16)).toInt ≤ 12 := hMV16 39 _
        have kw := i_clamp (x := z41) rfl wn
        have nb : 0 ≤ (V16 0 11).toInt ∧ (V16 0 11).toInt ≤ 1 := hMV16 0 11
        have kn : (nwh V16 : Int) = (V16 0 11).toInt := i_clamp (x := V16 0 11) rfl nb.1
        have wE := TB.wrapE (ar := false) (w := Int32.toNatClampNeg z41) xlp17_11.1 (by omega) hw.2.1 (by decide)
        have wE1 := wE.1
        have wE2 := wE.2.lt
        refine lv_iload hx hb dX12_failings_43 (lv_at hl 4 rfl) ?_
        refine lv_if_le (tgt := 53) hx hb dX12_failings_45 (by decide) (fun c46 => ?_) (fun c46 => ?_)
        · skip
          have f47 : ((V 0 90)).toInt ≤ 0 := b_le rfl (by decide) c46
          refine lv_iload hx hb dX12_failings_53 (lv_at hl 3 rfl) ?_
          refine lv_istore (lv' := [(9, .int (V 0 91)), (8, .int z41), (7, .int y15), (6, .int z10), (5, .int (V 0 91)), (4, .int (V 0 90)), (0, .ref (ad 0)), (1, .int p0), (2, .int p1), (3, .int p2)]) hx hb dX12_failings_55 hl (by decide) rfl (fun ls hl => ?_)
          refine lv_aload_n hx hb dX12_failings_57 rfl (lv_at hl 6 rfl) ?_
          refine lv_iconst (v := 3) hx hb dX12_failings_58 (by decide) ?_
          refine lv_iload hx hb dX12_failings_59 (lv_at hl 1 rfl) ?_
          refine lv_iload hx hb dX12_failings_61 (lv_at hl 0 rfl) ?_
          refine gA_void (gA_runV (As := [.int 3, .int z41, .int (V 0 91)]) (rest := []) (ci := 12) (q0 := 0) hx hb hml hown hg hP hD hK hS hA hnw hgk (s_notes2 l D ks H.size ad kk V16 L 3 z41 (V 0 91) hMV16 (show (V16 0 76).toInt ≤ 1999999999 from by first | omega | ((try (have i_rt := Imp.go rt (by omega))); omega))) w2304 w2306 w144 w172 w2307 rfl rfl hdV_yX12_notes ⟨(by show (0) + 1 ≤ (4 * d1 + 40 * d2 + 13); omega), (by show 8 + (4 + 11) + (0) ≤ (100 * d1 + 1000 * d2 + 500); omega)⟩ rfl hl.1 rfl (Nat.le_of_ble_eq_true rfl) dX12_failings_63 ⟨Nat.le_of_ble_eq_true rfl, Nat.le_of_ble_eq_true rfl⟩) hP hD hK hS hA (fun u49 H locs w50 hP hD hK hS => ?_)
          obtain ⟨V52, L53⟩ := u49
          obtain ⟨hMV52, ajV52, axL53, t51⟩ := w50
          have axL53 : L = L53 := Eq.symm axL53
          subst axL53
          have hP : va_P D vwCl (mw ad kk ks.1 V52 L) H := hP
          have hD : va_D A (mw ad kk ks.1 V52 L) := hD
          have hMV52 : rgd bM V52 := hMV52
          have ajV52 : agr [(0, 76)] [77, 78, 79] V16 V52 := ajV52
          have agV52 : agr [(0, 60), (0, 65), (0, 68), (0, 69), (0, 73), (0, 76), (0, 90), (0, 91), (0, 92), (0, 93), (0, 95), (0, 96), (0, 98)] [59, 61, 62, 63, 64, 66, 67, 74, 75, 77, 78, 79, 80, 94, 97] V V52 := agV16.tr ajV52 (by decide) (by decide)
          have t51 : (V52 0 76).toInt = (V16 0 76).toInt + 1 := t51
          have r54 : 0 ≤ ((V52 0 76)).toInt ∧ ((V52 0 76)).toInt ≤ 2000000000 := hMV52 0 76
          refine lv_aload_n hx hb dX12_failings_66 rfl (lv_at hl 6 rfl) ?_
          refine lv_aload_n hx hb dX12_failings_67 rfl (lv_at hl 6 rfl) ?_
          refine va_get (D := D) (ci := 12) (v := .ref (ad 44)) (C := RX12) (T := TX12) (N := 100) hx hb hg inX12 hown hK hP 0 rfl rfl 44 (by decide) (hg _ w1754) (fun _ h9 => h9) rfl dX12_failings_68 ?_
          refine lv_bipush (v := 12) hx hb dX12_failings_71 (by decide) ?_
          refine lv_aload_n hx hb dX12_failings_73 rfl (lv_at hl 6 rfl) ?_
          refine va_get (D := D) (ci := 12) (v := .int (V52 0 11)) (C := RX12) (T := TX12) (N := 100) hx hb hg inX12 hown hK hP 0 rfl rfl 11 (by decide) (hg _ w1721) (fun _ h9 => h9) rfl dX12_failings_74 ?_
          refine g_top (v := (V 0 11)) ((ajV52 0 11 rfl).trans (ajV16 0 11 rfl)) ?_
          have r55 : 0 ≤ ((V 0 11)).toInt ∧ ((V 0 11)).toInt ≤ 1 := hMV 0 11
          refine lv_imul hx hb dX12_failings_77 ?_
          refine lv_topi (fun z56 ez56 => ?_)
          have hz56 : z56.toInt = 12 * ((V 0 11)).toInt := i_mul ez56 (by decide) rfl (by omega)
          refine lv_iload hx hb dX12_failings_78 (lv_at hl 1 rfl) ?_
          refine lv_iadd hx hb dX12_failings_80 ?_
          refine lv_topi (fun z57 ez57 => ?_)
          have hz57 : z57.toInt = z56.toInt + z41.toInt := i_add ez57 rfl rfl (by omega)
          have pq58 : (V52 0 11).toInt = ((V 0 11)).toInt := congrArg Int32.toInt ((ajV52 0 11 rfl).trans (ajV16 0 11 rfl))
          have pq59 : (V16 0 11).toInt = ((V 0 11)).toInt := congrArg Int32.toInt (ajV16 0 11 rfl)
          have kz : Int32.toNatClampNeg z57 = 12 * nwh V16 + Int32.toNatClampNeg z41 := by have h9 := i_clamp (x := z57) rfl (by omega); omega
          have e44 : V52 44 (Int32.toNatClampNeg z57) = V16 44 (Int32.toNatClampNeg z57) := (show agr [(0, 76)] [77, 78, 79] V16 V52 from (agr.tr agr.rf ajV52 (by decide) (by decide))) 44 _ rfl
          have q44 : V16 44 (12 * nwh V16 + Int32.toNatClampNeg z41) = V16 44 (Int32.toNatClampNeg z57) := by rw [kz]
          have q44i := congrArg Int32.toInt q44
          have e44i := congrArg Int32.toInt e44
          have pq60 : (V16 44 (Int32.toNatClampNeg z57)).toInt = ((V 44 (Int32.toNatClampNeg z57))).toInt := congrArg Int32.toInt (ajV16 44 (Int32.toNatClampNeg z57) rfl)
          have pq61 : (V52 44 (Int32.toNatClampNeg z57)).toInt = ((V 44 (Int32.toNatClampNeg z57))).toInt := congrArg Int32.toInt ((ajV52 44 (Int32.toNatClampNeg z57) rfl).trans (ajV16 44 (Int32.toNatClampNeg z57) rfl))
          have q44b : V16 44 (12 * nwh V16 + Int32.toNatClampNeg z41) = V 44 (Int32.toNatClampNeg z57) := q44.trans ((show agr [(0, 60), (0, 65), (0, 68), (0, 69), (0, 73), (0, 76), (0, 90), (0, 91), (0, 92), (0, 93), (0, 95), (0, 96), (0, 98)] [59, 61, 62, 63, 64, 66, 67, 74, 75, 77, 78, 79, 80, 94, 97] V V16 from (agr.tr agr.rf ajV16 (by decide) (by decide))) 44 _ rfl)
          refine va_iald (D := D) (i := z57) hx hb hK hP 37 36 rfl rfl (i_in (a := z57.toInt) rfl (by first | omega | ((try (have i_rt := Imp.go rt (by omega))); omega))) dX12_failings_81 ?_
          refine g_top (v := (V 44 (Int32.toNatClampNeg z57))) ((ajV52 44 (Int32.toNatClampNeg z57) rfl).trans (ajV16 44 (Int32.toNatClampNeg z57) rfl)) ?_
          refine lv_iload_n hx hb dX12_failings_82 rfl (lv_at hl 7 rfl) ?_
          refine lv_iload_n hx hb dX12_failings_83 rfl (lv_at hl 9 rfl) ?_
          refine lv_iload hx hb dX12_failings_84 (lv_at hl 0 rfl) ?_
          refine lv_iconst (v := (-1)) hx hb dX12_failings_86 (by decide) ?_
          have r62 : Int32.toInt (-1) = (-1) := by decide
          have pq63 : (V52 0 65).toInt = ((V16 0 65)).toInt := congrArg Int32.toInt (ajV52 0 65 rfl)
          have pq64 : (V52 0 60).toInt = ((V16 0 60)).toInt := congrArg Int32.toInt (ajV52 0 60 rfl)
          have pq65 : (V52 0 95).toInt = ((V16 0 95)).toInt := congrArg Int32.toInt (ajV52 0 95 rfl)
          have pq66 : (V52 0 73).toInt = ((V16 0 73)).toInt := congrArg Int32.toInt (ajV52 0 73 rfl)
          have pq67 : (V52 0 69).toInt = ((V16 0 69)).toInt := congrArg Int32.toInt (ajV52 0 69 rfl)
          have pq68 : (V52 0 93).toInt = ((V16 0 93)).toInt := congrArg Int32.toInt (ajV52 0 93 rfl)
          have pq69 : (V52 0 98).toInt = ((V16 0 98)).toInt := congrArg Int32.toInt (ajV52 0 98 rfl)
          have rt70 : RT V52 := RT.ag xlp17_11 hMV16 (show agr [(0, 76)] [77, 78, 79] V16 V52 from (agr.tr agr.rf ajV52 (by decide) (by decide))) ⟨⟨rfl, fun _ => rfl, fun _ => rfl, fun _ => rfl, fun _ => rfl, fun _ => rfl, fun _ => rfl⟩, by decide, by decide, rfl, rfl, fun _ => rfl, fun _ => rfl, fun _ => rfl, fun _ => rfl, fun _ => rfl, fun _ => rfl⟩ (c0k.ag (show agr [(0, 76)] [77, 78, 79] V16 V52 from (agr.tr agr.rf ajV52 (by decide) (by decide))) rfl)
          refine gA_int (gA_runV (As := [.int (V 44 (Int32.toNatClampNeg z57)), .int p0, .int p2, .int (V 0 91), .int (-1)]) (rest := []) (ci := 12) (q0 := 0) hx hb hml hown hg hP hD hK hS hA hnw hgk (hk_s_works H.size ad kk V52 L (V 44 (Int32.toNatClampNeg z57)) p0 p2 (V 0 91) (-1) (0) (10000 * nwh V16) (10000 * nwh V16 + 10000) hMV52 (by first | omega | ((try (have i_rt := Imp.go rt (by omega))); omega)) (by first | omega | ((try (have i_rt := Imp.go rt (by omega))); omega)) (by first | omega | ((try (have i_rt := Imp.go rt (by omega))); omega)) rt70 (show (V52 0 65).toInt ≤ (V52 0 60).toInt from by first | omega | ((try (have i_rt := Imp.go rt (by omega))); omega)) (show (V52 0 95).toInt ≤ (V52 0 65).toInt from by first | omega | ((try (have i_rt := Imp.go rt (by omega))); omega)) (show (V52 0 73).toInt + (V52 0 95).toInt - (V52 0 65).toInt ≤ 999000 from by first | omega | ((try (have i_rt := Imp.go rt (by omega))); omega)) (show (V52 0 76).toInt - (V52 0 69).toInt - (V52 0 73).toInt ≤ 1000000001 from by first | omega | ((try (have i_rt := Imp.go rt (by omega))); omega)) (show 300 - (V52 0 60).toInt ≤ ((d1 : Nat) : Int) from by first | omega | ((try (have i_rt := Imp.go rt (by omega))); omega)) (show 10 - (V52 0 93).toInt ≤ ((d2 : Nat) : Int) from by first | omega | ((try (have i_rt := Imp.go rt (by omega))); omega)) (show p0.toInt < (V52 0 60).toInt from by first | omega | ((try (have i_rt := Imp.go rt (by omega))); omega)) (show (V52 0 98).toInt + 400 * ((d2 : Nat) : Int) + 30 ≤ 19000 from by first | omega | ((try (have i_rt := Imp.go rt (by omega))); omega)) (CE.same (show CE 0 false V16 (10000 * nwh V16) (10000 * nwh V16 + 10000) (V 44 (Int32.toNatClampNeg z57)).toInt.toNat from q44b ▸ wE.2) (Int.le_refl _) (Nat.le_refl _) (fun i _ _ => ⟨(show agr [(0, 76)] [77, 78, 79] V16 V52 from (agr.tr agr.rf ajV52 (by decide) (by decide))) 45 _ rfl, (show agr [(0, 76)] [77, 78, 79] V16 V52 from (agr.tr agr.rf ajV52 (by decide) (by decide))) 46 _ rfl, (show agr [(0, 76)] [77, 78, 79] V16 V52 from (agr.tr agr.rf ajV52 (by decide) (by decide))) 47 _ rfl⟩)) (show ((10000 * nwh V16 + 10000) : Int) ≤ 20000 from by first | omega | ((try (have i_rt := Imp.go rt (by omega))); omega)) (hMV52 27 _).1) w2272 w2274 w136 w172 w2275 rfl rfl hdV_yX12_works ⟨(by show (4 * (d1) + 40 * (d2) + 12) + 1 ≤ (4 * d1 + 40 * d2 + 13); omega), (by show 8 + (6 + 11) + (100 * (d1) + 1000 * (d2) + 460) ≤ (100 * d1 + 1000 * d2 + 500); omega)⟩ rfl hl.1 rfl (Nat.le_of_ble_eq_true rfl) dX12_failings_87 ⟨Nat.le_of_ble_eq_true rfl, Nat.le_of_ble_eq_true rfl⟩) hP hD hK hS hA (fun z71 u72 H locs w73 hP hD hK hS => ?_)
          obtain ⟨V87, L88⟩ := u72
          obtain ⟨hMV87, ajV87, axL88, rgz71, t74, t75, t76, t77, t78, t79, t80, t81, t82, t83, t84, t85, t86⟩ := w73
          have axL88 : L = L88 := Eq.symm axL88
          subst axL88
          have hP : va_P D vwCl (mw ad kk ks.1 V87 L) H := hP
          have hD : va_D A (mw ad kk ks.1 V87 L) := hD
          have hMV87 : rgd bM V87 := hMV87
          have ajV87 : agr [(0, 60), (0, 65), (0, 68), (0, 69), (0, 73), (0, 76), (0, 90), (0, 91), (0, 92), (0, 93), (0, 95), (0, 96), (0, 98)] [59, 61, 62, 63, 64, 66, 67, 74, 75, 77, 78, 79, 80, 94, 97] V52 V87 := ajV87
          have agV87 : agr [(0, 60), (0, 65), (0, 68), (0, 69), (0, 73), (0, 76), (0, 90), (0, 91), (0, 92), (0, 93), (0, 95), (0, 96), (0, 98)] [59, 61, 62, 63, 64, 66, 67, 74, 75, 77, 78, 79, 80, 94, 97] V V87 := agV52.tr ajV87 (by decide) (by decide)
          have rgz71 : 0 ≤ z71.toInt ∧ z71.toInt ≤ 2 := rgz71
          have t74 : (V87 0 93).toInt = (V52 0 93).toInt := t74
          have t75 : (V87 0 98).toInt = (V52 0 98).toInt := t75
          have t76 : (V52 0 60).toInt ≤ (V87 0 60).toInt := t76
          have t77 : (V52 0 65).toInt ≤ (V87 0 65).toInt := t77
          have t78 : (V87 0 65).toInt - (V52 0 65).toInt ≤ (V87 0 60).toInt - (V52 0 60).toInt := t78
          have t79 : (V87 0 73).toInt + (V87 0 95).toInt - (V87 0 65).toInt ≤ (V52 0 73).toInt + (V52 0 95).toInt - (V52 0 65).toInt := t79
          have t80 : (V52 0 73).toInt ≤ (V87 0 73).toInt := t80
          have t81 : (V52 0 69).toInt ≤ (V87 0 69).toInt := t81
          have t82 : (V87 0 95).toInt = (V52 0 95).toInt := t82
          have t83 : (V87 0 76).toInt - (V87 0 69).toInt - (V87 0 73).toInt ≤ (V52 0 76).toInt - (V52 0 69).toInt - (V52 0 73).toInt := t83
          have t84 : Imp (z71.toInt ≠ 2) ((V87 0 76).toInt - (V87 0 69).toInt - (V87 0 73).toInt + 1 ≤ (V52 0 76).toInt - (V52 0 69).toInt - (V52 0 73).toInt) := t84
          have t85 : RT V87 := t85
          have t86 : FRM V52 V87 (-1) := t86
          have r89 : 0 ≤ ((V87 0 93)).toInt ∧ ((V87 0 93)).toInt ≤ 10 := hMV87 0 93
          have r90 : 0 ≤ ((V87 0 98)).toInt ∧ ((V87 0 98)).toInt ≤ 20000 := hMV87 0 98
          have r91 : 0 ≤ ((V87 0 60)).toInt ∧ ((V87 0 60)).toInt ≤ 300 := hMV87 0 60
          have r92 : 0 ≤ ((V87 0 65)).toInt ∧ ((V87 0 65)).toInt ≤ 1000000 := hMV87 0 65
          have r93 : 0 ≤ ((V87 0 73)).toInt ∧ ((V87 0 73)).toInt ≤ 1000000 := hMV87 0 73
          have r94 : 0 ≤ ((V87 0 95)).toInt ∧ ((V87 0 95)).toInt ≤ 300 := hMV87 0 95
          have r95 : 0 ≤ ((V87 0 69)).toInt ∧ ((V87 0 69)).toInt ≤ 3000 := hMV87 0 69
          have r96 : 0 ≤ ((V87 0 76)).toInt ∧ ((V87 0 76)).toInt ≤ 2000000000 := hMV87 0 76
          refine lv_istore (lv' := [(10, .int z71), (9, .int (V 0 91)), (8, .int z41), (7, .int y15), (6, .int z10), (5, .int (V 0 91)), (4, .int (V 0 90)), (0, .ref (ad 0)), (1, .int p0), (2, .int p1), (3, .int p2)]) hx hb dX12_failings_90 hl (by decide) rfl (fun ls hl => ?_)
          refine lv_iload hx hb dX12_failings_92 (lv_at hl 0 rfl) ?_
          refine lv_iconst (v := 1) hx hb dX12_failings_94 (by decide) ?_
          refine lv_icmp_eq (tgt := 101) hx hb dX12_failings_95 (by decide) (fun c97 => ?_) (fun c97 => ?_)
          · skip
            have f98 : z71.toInt = 1 := b_eq rfl (by decide) c97
            obtain ⟨z99, ez99⟩ : ∃ y : Int32, y = y15 + (-1) := ⟨_, rfl⟩
            have hz99 : z99.toInt = y15.toInt + (-1) := i_add ez99 rfl (by decide) (by omega)
            refine lv_iinc (v := z99) (lv' := [(7, .int z99), (10, .int z71), (9, .int (V 0 91)), (8, .int z41), (6, .int z10), (5, .int (V 0 91)), (4, .int (V 0 90)), (0, .ref (ad 0)), (1, .int p0), (2, .int p1), (3, .int p2)]) hx hb dX12_failings_101 hl (k := 3) rfl (by rw [ez99]; rfl) (by decide) rfl (fun ls hl => ?_)
            refine lv_goto (tgt := 27) hx hb dX12_failings_104 (by decide) ?_
            have fm100 : FRM V V52 (-1) := (FRM.tr xlp17_12 (FRM.ag (show agr [(0, 76)] [77, 78, 79] V16 V52 from (agr.tr agr.rf ajV52 (by decide) (by decide))) ⟨⟨rfl, fun _ => rfl, fun _ => rfl, fun _ => rfl, fun _ => rfl, fun _ => rfl, fun _ => rfl⟩, by decide, by decide, rfl, rfl, fun _ => rfl, fun _ => rfl, fun _ => rfl, fun _ => rfl, fun _ => rfl, fun _ => rfl⟩) agV16 ⟨rfl, fun _ => rfl, fun _ => rfl, fun _ => rfl, fun _ => rfl, fun _ => rfl, fun _ => rfl⟩ (by omega))
            have fm101 : FRM V V87 (-1) := (FRM.tr fm100 t86 agV52 ⟨rfl, fun _ => rfl, fun _ => rfl, fun _ => rfl, fun _ => rfl, fun _ => rfl, fun _ => rfl⟩ (by omega))
            exact ihlp17 z99 V87 H locs ls (by first | omega | ((try (have i_t84 := Imp.go t84 (by omega))); (try (have i_rt := Imp.go rt (by omega))); (try (have i_rt := Imp.go rt (by omega))); (try (have i_t84 := Imp.go t84 (by omega))); omega)) (show (V87 0 98).toInt = (V 0 98).toInt from by first | omega | ((try (have i_t84 := Imp.go t84 (by omega))); (try (have i_rt := Imp.go rt (by omega))); (try (have i_rt := Imp.go rt (by omega))); (try (have i_t84 := Imp.go t84 (by omega))); omega)) (show (V87 0 93).toInt = (V 0 93).toInt from by first | omega | ((try (have i_t84 := Imp.go t84 (by omega))); (try (have i_rt := Imp.go rt (by omega))); (try (have i_rt := Imp.go rt (by omega))); (try (have i_t84 := Imp.go t84 (by omega))); omega)) (show (V 0 60).toInt ≤ (V87 0 60).toInt from by first | omega | ((try (have i_t84 := Imp.go t84 (by omega))); (try (have i_rt := Imp.go rt (by omega))); (try (have i_rt := Imp.go rt (by omega))); (try (have i_t84 := Imp.go t84 (by omega))); omega)) (show (V 0 65).toInt ≤ (V87 0 65).toInt from by first | omega | ((try (have i_t84 := Imp.go t84 (by omega))); (try (have i_rt := Imp.go rt (by omega))); (try (have i_rt := Imp.go rt (by omega))); (try (have i_t84 := Imp.go t84 (by omega))); omega)) (show (V87 0 65).toInt - (V 0 65).toInt ≤ (V87 0 60).toInt - (V 0 60).toInt from by first | omega | ((try (have i_t84 := Imp.go t84 (by omega))); (try (have i_rt := Imp.go rt (by omega))); (try (have i_rt := Imp.go rt (by omega))); (try (have i_t84 := Imp.go t84 (by omega))); omega)) (show (V87 0 73).toInt + (V87 0 95).toInt - (V87 0 65).toInt ≤ (V 0 73).toInt + (V 0 95).toInt - (V 0 65).toInt from by first | omega | ((try (have i_t84 := Imp.go t84 (by omega))); (try (have i_rt := Imp.go rt (by omega))); (try (have i_rt := Imp.go rt (by omega))); (try (have i_t84 := Imp.go t84 (by omega))); omega)) (show (V 0 73).toInt ≤ (V87 0 73).toInt from by first | omega | ((try (have i_t84 := Imp.go t84 (by omega))); (try (have i_rt := Imp.go rt (by omega))); (try (have i_rt := Imp.go rt (by omega))); (try (have i_t84 := Imp.go t84 (by omega))); omega)) (show (V 0 69).toInt ≤ (V87 0 69).toInt from by first | omega | ((try (have i_t84 := Imp.go t84 (by omega))); (try (have i_rt := Imp.go rt (by omega))); (try (have i_rt := Imp.go rt (by omega))); (try (have i_t84 := Imp.go t84 (by omega))); omega)) (show (V87 0 95).toInt = (V 0 95).toInt from by first | omega | ((try (have i_t84 := Imp.go t84 (by omega))); (try (have i_rt := Imp.go rt (by omega))); (try (have i_rt := Imp.go rt (by omega))); (try (have i_t84 := Imp.go t84 (by omega))); omega)) (show (V87 0 76).toInt - (V87 0 69).toInt - (V87 0 73).toInt ≤ (V 0 76).toInt - (V 0 69).toInt - (V 0 73).toInt from by first | omega | ((try (have i_t84 := Imp.go t84 (by omega))); (try (have i_rt := Imp.go rt (by omega))); (try (have i_rt := Imp.go rt (by omega))); (try (have i_t84 := Imp.go t84 (by omega))); omega)) (show z99.toInt ≤ z10.toInt - 1 from by first | omega | ((try (have i_t84 := Imp.go t84 (by omega))); (try (have i_rt := Imp.go rt (by omega))); (try (have i_rt := Imp.go rt (by omega))); (try (have i_t84 := Imp.go t84 (by omega))); omega)) t85 fm101 (by first | omega | ((try (have i_t84 := Imp.go t84 (by omega))); (try (have i_rt := Imp.go rt (by omega))); (try (have i_rt := Imp.go rt (by omega))); (try (have i_t84 := Imp.go t84 (by omega))); omega)) (agr.tr (agr.tr (agr.tr agr.rf ajV16 (by decide) (by decide)) ajV52 (by decide) (by decide)) ajV87 (by decide) (by decide)) hMV87 hP hD hS (lv_sub hl [0, 4, 5, 6, 7, 8, 9, 10] rfl)
          · skip
            have f102 : z71.toInt ≠ 1 := b_neq rfl (by decide) c97
            refine lv_iload hx hb dX12_failings_98 (lv_at hl 0 rfl) ?_
            have fm103 : FRM V V52 (-1) := (FRM.tr xlp17_12 (FRM.ag (show agr [(0, 76)] [77, 78, 79] V16 V52 from (agr.tr agr.rf ajV52 (by decide) (by decide))) ⟨⟨rfl, fun _ => rfl, fun _ => rfl, fun _ => rfl, fun _ => rfl, fun _ => rfl, fun _ => rfl⟩, by decide, by decide, rfl, rfl, fun _ => rfl, fun _ => rfl, fun _ => rfl, fun _ => rfl, fun _ => rfl, fun _ => rfl⟩) agV16 ⟨rfl, fun _ => rfl, fun _ => rfl, fun _ => rfl, fun _ => rfl, fun _ => rfl, fun _ => rfl⟩ (by omega))
            have fm104 : FRM V V87 (-1) := (FRM.tr fm103 t86 agV52 ⟨rfl, fun _ => rfl, fun _ => rfl, fun _ => rfl, fun _ => rfl, fun _ => rfl, fun _ => rfl⟩ (by omega))
            exact W.iret (v := z71) hx hb hr (fun t ht hW => ⟨⟨z71, (V87, L), rfl, ⟨hMV87, agV87, rfl, (show 0 ≤ z71.toInt ∧ z71.toInt ≤ 2 from by first | omega | ((try (have i_t84 := Imp.go t84 (by omega))); (try (have i_rt := Imp.go rt (by omega))); (try (have i_rt := Imp.go rt (by omega))); (try (have i_t84 := Imp.go t84 (by omega))); omega)), (show (V87 0 93).toInt = (V 0 93).toInt from by first | omega | ((try (have i_t84 := Imp.go t84 (by omega))); (try (have i_rt := Imp.go rt (by omega))); (try (have i_rt := Imp.go rt (by omega))); (try (have i_t84 := Imp.go t84 (by omega))); omega)), (show (V87 0 98).toInt = (V 0 98).toInt from by first | omega | ((try (have i_t84 := Imp.go t84 (by omega))); (try (have i_rt := Imp.go rt (by omega))); (try (have i_rt := Imp.go rt (by omega))); (try (have i_t84 := Imp.go t84 (by omega))); omega)), (show (V 0 60).toInt ≤ (V87 0 60).toInt from by first | omega | ((try (have i_t84 := Imp.go t84 (by omega))); (try (have i_rt := Imp.go rt (by omega))); (try (have i_rt := Imp.go rt (by omega))); (try (have i_t84 := Imp.go t84 (by omega))); omega)), (show (V 0 65).toInt ≤ (V87 0 65).toInt from by first | omega | ((try (have i_t84 := Imp.go t84 (by omega))); (try (have i_rt := Imp.go rt (by omega))); (try (have i_rt := Imp.go rt (by omega))); (try (have i_t84 := Imp.go t84 (by omega))); omega)), (show (V87 0 65).toInt - (V 0 65).toInt ≤ (V87 0 60).toInt - (V 0 60).toInt from by first | omega | ((try (have i_t84 := Imp.go t84 (by omega))); (try (have i_rt := Imp.go rt (by omega))); (try (have i_rt := Imp.go rt (by omega))); (try (have i_t84 := Imp.go t84 (by omega))); omega)), (show (V87 0 73).toInt + (V87 0 95).toInt - (V87 0 65).toInt ≤ (V 0 73).toInt + (V 0 95).toInt - (V 0 65).toInt from by first | omega | ((try (have i_t84 := Imp.go t84 (by omega))); (try (have i_rt := Imp.go rt (by omega))); (try (have i_rt := Imp.go rt (by omega))); (try (have i_t84 := Imp.go t84 (by omega))); omega)), (show (V 0 73).toInt ≤ (V87 0 73).toInt from by first | omega | ((try (have i_t84 := Imp.go t84 (by omega))); (try (have i_rt := Imp.go rt (by omega))); (try (have i_rt := Imp.go rt (by omega))); (try (have i_t84 := Imp.go t84 (by omega))); omega)), (show (V 0 69).toInt ≤ (V87 0 69).toInt from by first | omega | ((try (have i_t84 := Imp.go t84 (by omega))); (try (have i_rt := Imp.go rt (by omega))); (try (have i_rt := Imp.go rt (by omega))); (try (have i_t84 := Imp.go t84 (by omega))); omega)), (show (V87 0 95).toInt = (V 0 95).toInt from by first | omega | ((try (have i_t84 := Imp.go t84 (by omega))); (try (have i_rt := Imp.go rt (by omega))); (try (have i_rt := Imp.go rt (by omega))); (try (have i_t84 := Imp.go t84 (by omega))); omega)), (show (V87 0 76).toInt - (V87 0 69).toInt - (V87 0 73).toInt ≤ (V 0 76).toInt - (V 0 69).toInt - (V 0 73).toInt + 1 from by first | omega | ((try (have i_t84 := Imp.go t84 (by omega))); (try (have i_rt := Imp.go rt (by omega))); (try (have i_rt := Imp.go rt (by omega))); (try (have i_t84 := Imp.go t84 (by omega))); omega)), (Imp.mk (fun hp => have hp : z71.toInt ≠ 2 := hp; (show (V87 0 76).toInt - (V87 0 69).toInt - (V87 0 73).toInt ≤ (V 0 76).toInt - (V 0 69).toInt - (V 0 73).toInt from by first | omega | ((try (have i_t84 := Imp.go t84 (by omega))); (try (have i_rt := Imp.go rt (by omega))); (try (have i_rt := Imp.go rt (by omega))); (try (have i_t84 := Imp.go t84 (by omega))); omega)))), t85, fm104⟩, by rw [ht]; exact hP, va_K.moved hW.alike hK, hD⟩, hS.F ht⟩) hS.2.2 dX12_failings_100
        · skip
          have f105 : 0 < ((V 0 90)).toInt := b_nle rfl (by decide) c46
          refine lv_bipush (v := 20) hx hb dX12_failings_48 (by decide) ?_
          refine lv_goto (tgt := 55) hx hb dX12_failings_50 (by decide) ?_
          refine lv_istore (lv' := [(9, .int 20), (8, .int z41), (7, .int y15), (6, .int z10), (5, .int (V 0 91)), (4, .int (V 0 90)), (0, .ref (ad 0)), (1, .int p0), (2, .int p1), (3, .int p2)]) hx hb dX12_failings_55 hl (by decide) rfl (fun ls hl => ?_)
          refine lv_aload_n hx hb dX12_failings_57 rfl (lv_at hl 6 rfl) ?_
          refine lv_iconst (v := 3) hx hb dX12_failings_58 (by decide) ?_
          refine lv_iload hx hb dX12_failings_59 (lv_at hl 1 rfl) ?_
          refine lv_iload hx hb dX12_failings_61 (lv_at hl 0 rfl) ?_
          have r106 : Int32.toInt 20 = 20 := by decide
          refine gA_void (gA_runV (As := [.int 3, .int z41, .int 20]) (rest := []) (ci := 12) (q0 := 0) hx hb hml hown hg hP hD hK hS hA hnw hgk (s_notes2 l D ks H.size ad kk V16 L 3 z41 20 hMV16 (show (V16 0 76).toInt ≤ 1999999999 from by first | omega | ((try (have i_rt := Imp.go rt (by omega))); omega))) w2304 w2306 w144 w172 w2307 rfl rfl hdV_yX12_notes ⟨(by show (0) + 1 ≤ (4 * d1 + 40 * d2 + 13); omega), (by show 8 + (4 + 11) + (0) ≤ (100 * d1 + 1000 * d2 + 500); omega)⟩ rfl hl.1 rfl (Nat.le_of_ble_eq_true rfl) dX12_failings_63 ⟨Nat.le_of_ble_eq_true rfl, Nat.le_of_ble_eq_true rfl⟩) hP hD hK hS hA (fun u108 H locs w109 hP hD hK hS => ?_)
          obtain ⟨V111, L112⟩ := u108
          obtain ⟨hMV111, ajV111, axL112, t110⟩ := w109
          have axL112 : L = L112 := Eq.symm axL112
          subst axL112
          have hP : va_P D vwCl (mw ad kk ks.1 V111 L) H := hP
          have hD : va_D A (mw ad kk ks.1 V111 L) := hD
          have hMV111 : rgd bM V111 := hMV111
          have ajV111 : agr [(0, 76)] [77, 78, 79] V16 V111 := ajV111
          have agV111 : agr [(0, 60), (0, 65), (0, 68), (0, 69), (0, 73), (0, 76), (0, 90), (0, 91), (0, 92), (0, 93), (0, 95), (0, 96), (0, 98)] [59, 61, 62, 63, 64, 66, 67, 74, 75, 77, 78, 79, 80, 94, 97] V V111 := agV16.tr ajV111 (by decide) (by decide)
          have t110 : (V111 0 76).toInt = (V16 0 76).toInt + 1 := t110
          have r113 : 0 ≤ ((V111 0 76)).toInt ∧ ((V111 0 76)).toInt ≤ 2000000000 := hMV111 0 76
          refine lv_aload_n hx hb dX12_failings_66 rfl (lv_at hl 6 rfl) ?_
          refine lv_aload_n hx hb dX12_failings_67 rfl (lv_at hl 6 rfl) ?_
          refine va_get (D := D) (ci := 12) (v := .ref (ad 44)) (C := RX12) (T := TX12) (N := 100) hx hb hg inX12 hown hK hP 0 rfl rfl 44 (by decide) (hg _ w1754) (fun _ h9 => h9) rfl dX12_failings_68 ?_
          refine lv_bipush (v := 12) hx hb dX12_failings_71 (by decide) ?_
          refine lv_aload_n hx hb dX12_failings_73 rfl (lv_at hl 6 rfl) ?_
          refine va_get (D := D) (ci := 12) (v := .int (V111 0 11)) (C := RX12) (T := TX12) (N := 100) hx hb hg inX12 hown hK hP 0 rfl rfl 11 (by decide) (hg _ w1721) (fun _ h9 => h9) rfl dX12_failings_74 ?_
          refine g_top (v := (V 0 11)) ((ajV111 0 11 rfl).trans (ajV16 0 11 rfl)) ?_
          have r114 : 0 ≤ ((V 0 11)).toInt ∧ ((V 0 11)).toInt ≤ 1 := hMV 0 11
          refine lv_imul hx hb dX12_failings_77 ?_
          refine lv_topi (fun z115 ez115 => ?_)
          have hz115 : z115.toInt = 12 * ((V 0 11)).toInt := i_mul ez115 (by decide) rfl (by omega)
          refine lv_iload hx hb dX12_failings_78 (lv_at hl 1 rfl) ?_
          refine lv_iadd hx hb dX12_failings_80 ?_
          refine lv_topi (fun z116 ez116 => ?_)
          have hz116 : z116.toInt = z115.toInt + z41.toInt := i_add ez116 rfl rfl (by omega)
          have pq117 : (V111 0 11).toInt = ((V 0 11)).toInt := congrArg Int32.toInt ((ajV111 0 11 rfl).trans (ajV16 0 11 rfl))
          have pq118 : (V16 0 11).toInt = ((V 0 11)).toInt := congrArg Int32.toInt (ajV16 0 11 rfl)
          have kz : Int32.toNatClampNeg z116 = 12 * nwh V16 + Int32.toNatClampNeg z41 := by have h9 := i_clamp (x := z116) rfl (by omega); omega
          have e44 : V111 44 (Int32.toNatClampNeg z116) = V16 44 (Int32.toNatClampNeg z116) := (show agr [(0, 76)] [77, 78, 79] V16 V111 from (agr.tr agr.rf ajV111 (by decide) (by decide))) 44 _ rfl
          have q44 : V16 44 (12 * nwh V16 + Int32.toNatClampNeg z41) = V16 44 (Int32.toNatClampNeg z116) := by rw [kz]
          have q44i := congrArg Int32.toInt q44
          have e44i := congrArg Int32.toInt e44
          have pq119 : (V16 44 (Int32.toNatClampNeg z116)).toInt = ((V 44 (Int32.toNatClampNeg z116))).toInt := congrArg Int32.toInt (ajV16 44 (Int32.toNatClampNeg z116) rfl)
          have pq120 : (V111 44 (Int32.toNatClampNeg z116)).toInt = ((V 44 (Int32.toNatClampNeg z116))).toInt := congrArg Int32.toInt ((ajV111 44 (Int32.toNatClampNeg z116) rfl).trans (ajV16 44 (Int32.toNatClampNeg z116) rfl))
          have q44b : V16 44 (12 * nwh V16 + Int32.toNatClampNeg z41) = V 44 (Int32.toNatClampNeg z116) := q44.trans ((show agr [(0, 60), (0, 65), (0, 68), (0, 69), (0, 73), (0, 76), (0, 90), (0, 91), (0, 92), (0, 93), (0, 95), (0, 96), (0, 98)] [59, 61, 62, 63, 64, 66, 67, 74, 75, 77, 78, 79, 80, 94, 97] V V16 from (agr.tr agr.rf ajV16 (by decide) (by decide))) 44 _ rfl)
          refine va_iald (D := D) (i := z116) hx hb hK hP 37 36 rfl rfl (i_in (a := z116.toInt) rfl (by first | omega | ((try (have i_rt := Imp.go rt (by omega))); omega))) dX12_failings_81 ?_
          refine g_top (v := (V 44 (Int32.toNatClampNeg z116))) ((ajV111 44 (Int32.toNatClampNeg z116) rfl).trans (ajV16 44 (Int32.toNatClampNeg z116) rfl)) ?_
          refine lv_iload_n hx hb dX12_failings_82 rfl (lv_at hl 7 rfl) ?_
          refine lv_iload_n hx hb dX12_failings_83 rfl (lv_at hl 9 rfl) ?_
          refine lv_iload hx hb dX12_failings_84 (lv_at hl 0 rfl) ?_
          refine lv_iconst (v := (-1)) hx hb dX12_failings_86 (by decide) ?_
          have r121 : Int32.toInt (-1) = (-1) := by decide
          have pq122 : (V111 0 65).toInt = ((V16 0 65)).toInt := congrArg Int32.toInt (ajV111 0 65 rfl)
          have pq123 : (V111 0 60).toInt = ((V16 0 60)).toInt := congrArg Int32.toInt (ajV111 0 60 rfl)
          have pq124 : (V111 0 95).toInt = ((V16 0 95)).toInt := congrArg Int32.toInt (ajV111 0 95 rfl)
          have pq125 : (V111 0 73).toInt = ((V16 0 73)).toInt := congrArg Int32.toInt (ajV111 0 73 rfl)
          have pq126 : (V111 0 69).toInt = ((V16 0 69)).toInt := congrArg Int32.toInt (ajV111 0 69 rfl)
          have pq127 : (V111 0 93).toInt = ((V16 0 93)).toInt := congrArg Int32.toInt (ajV111 0 93 rfl)
          have pq128 : (V111 0 98).toInt = ((V16 0 98)).toInt := congrArg Int32.toInt (ajV111 0 98 rfl)
          have rt129 : RT V111 := RT.ag xlp17_11 hMV16 (show agr [(0, 76)] [77, 78, 79] V16 V111 from (agr.tr agr.rf ajV111 (by decide) (by decide))) ⟨⟨rfl, fun _ => rfl, fun _ => rfl, fun _ => rfl, fun _ => rfl, fun _ => rfl, fun _ => rfl⟩, by decide, by decide, rfl, rfl, fun _ => rfl, fun _ => rfl, fun _ => rfl, fun _ => rfl, fun _ => rfl, fun _ => rfl⟩ (c0k.ag (show agr [(0, 76)] [77, 78, 79] V16 V111 from (agr.tr agr.rf ajV111 (by decide) (by decide))) rfl)
          refine gA_int (gA_runV (As := [.int (V 44 (Int32.toNatClampNeg z116)), .int p0, .int p2, .int 20, .int (-1)]) (rest := []) (ci := 12) (q0 := 0) hx hb hml hown hg hP hD hK hS hA hnw hgk (hk_s_works H.size ad kk V111 L (V 44 (Int32.toNatClampNeg z116)) p0 p2 20 (-1) (0) (10000 * nwh V16) (10000 * nwh V16 + 10000) hMV111 (by first | omega | ((try (have i_rt := Imp.go rt (by omega))); omega)) (by first | omega | ((try (have i_rt := Imp.go rt (by omega))); omega)) (by first | omega | ((try (have i_rt := Imp.go rt (by omega))); omega)) rt129 (show (V111 0 65).toInt ≤ (V111 0 60).toInt from by first | omega | ((try (have i_rt := Imp.go rt (by omega))); omega)) (show (V111 0 95).toInt ≤ (V111 0 65).toInt from by first | omega | ((try (have i_rt := Imp.go rt (by omega))); omega)) (show (V111 0 73).toInt + (V111 0 95).toInt - (V111 0 65).toInt ≤ 999000 from by first | omega | ((try (have i_rt := Imp.go rt (by omega))); omega)) (show (V111 0 76).toInt - (V111 0 69).toInt - (V111 0 73).toInt ≤ 1000000001 from by first | omega | ((try (have i_rt := Imp.go rt (by omega))); omega)) (show 300 - (V111 0 60).toInt ≤ ((d1 : Nat) : Int) from by first | omega | ((try (have i_rt := Imp.go rt (by omega))); omega)) (show 10 - (V111 0 93).toInt ≤ ((d2 : Nat) : Int) from by first | omega | ((try (have i_rt := Imp.go rt (by omega))); omega)) (show p0.toInt < (V111 0 60).toInt from by first | omega | ((try (have i_rt := Imp.go rt (by omega))); omega)) (show (V111 0 98).toInt + 400 * ((d2 : Nat) : Int) + 30 ≤ 19000 from by first | omega | ((try (have i_rt := Imp.go rt (by omega))); omega)) (CE.same (show CE 0 false V16 (10000 * nwh V16) (10000 * nwh V16 + 10000) (V 44 (Int32.toNatClampNeg z116)).toInt.toNat from q44b ▸ wE.2) (Int.le_refl _) (Nat.le_refl _) (fun i _ _ => ⟨(show agr [(0, 76)] [77, 78, 79] V16 V111 from (agr.tr agr.rf ajV111 (by decide) (by decide))) 45 _ rfl, (show agr [(0, 76)] [77, 78, 79] V16 V111 from (agr.tr agr.rf ajV111 (by decide) (by decide))) 46 _ rfl, (show agr [(0, 76)] [77, 78, 79] V16 V111 from (agr.tr agr.rf ajV111 (by decide) (by decide))) 47 _ rfl⟩)) (show ((10000 * nwh V16 + 10000) : Int) ≤ 20000 from by first | omega | ((try (have i_rt := Imp.go rt (by omega))); omega)) (hMV111 27 _).1) w2272 w2274 w136 w172 w2275 rfl rfl hdV_yX12_works ⟨(by show (4 * (d1) + 40 * (d2) + 12) + 1 ≤ (4 * d1 + 40 * d2 + 13); omega), (by show 8 + (6 + 11) + (100 * (d1) + 1000 * (d2) + 460) ≤ (100 * d1 + 1000 * d2 + 500); omega)⟩ rfl hl.1 rfl (Nat.le_of_ble_eq_true rfl) dX12_failings_87 ⟨Nat.le_of_ble_eq_true rfl, Nat.le_of_ble_eq_true rfl⟩) hP hD hK hS hA (fun z130 u131 H locs w132 hP hD hK hS => ?_)
          obtain ⟨V146, L147⟩ := u131
          obtain ⟨hMV146, ajV146, axL147, rgz130, t133, t134, t135, t136, t137, t138, t139, t140, t141, t142, t143, t144, t145⟩ := w132
          have axL147 : L = L147 := Eq.symm axL147
          subst axL147
          have hP : va_P D vwCl (mw ad kk ks.1 V146 L) H := hP
          have hD : va_D A (mw ad kk ks.1 V146 L) := hD
          have hMV146 : rgd bM V146 := hMV146
          have ajV146 : agr [(0, 60), (0, 65), (0, 68), (0, 69), (0, 73), (0, 76), (0, 90), (0, 91), (0, 92), (0, 93), (0, 95), (0, 96), (0, 98)] [59, 61, 62, 63, 64, 66, 67, 74, 75, 77, 78, 79, 80, 94, 97] V111 V146 := ajV146
          have agV146 : agr [(0, 60), (0, 65), (0, 68), (0, 69), (0, 73), (0, 76), (0, 90), (0, 91), (0, 92), (0, 93), (0, 95), (0, 96), (0, 98)] [59, 61, 62, 63, 64, 66, 67, 74, 75, 77, 78, 79, 80, 94, 97] V V146 := agV111.tr ajV146 (by decide) (by decide)
          have rgz130 : 0 ≤ z130.toInt ∧ z130.toInt ≤ 2 := rgz130
          have t133 : (V146 0 93).toInt = (V111 0 93).toInt := t133
          have t134 : (V146 0 98).toInt = (V111 0 98).toInt := t134
          have t135 : (V111 0 60).toInt ≤ (V146 0 60).toInt := t135
          have t136 : (V111 0 65).toInt ≤ (V146 0 65).toInt := t136
          have t137 : (V146 0 65).toInt - (V111 0 65).toInt ≤ (V146 0 60).toInt - (V111 0 60).toInt := t137
          have t138 : (V146 0 73).toInt + (V146 0 95).toInt - (V146 0 65).toInt ≤ (V111 0 73).toInt + (V111 0 95).toInt - (V111 0 65).toInt := t138
          have t139 : (V111 0 73).toInt ≤ (V146 0 73).toInt := t139
          have t140 : (V111 0 69).toInt ≤ (V146 0 69).toInt := t140
          have t141 : (V146 0 95).toInt = (V111 0 95).toInt := t141
          have t142 : (V146 0 76).toInt - (V146 0 69).toInt - (V146 0 73).toInt ≤ (V111 0 76).toInt - (V111 0 69).toInt - (V111 0 73).toInt := t142
          have t143 : Imp (z130.toInt ≠ 2) ((V146 0 76).toInt - (V146 0 69).toInt - (V146 0 73).toInt + 1 ≤ (V111 0 76).toInt - (V111 0 69).toInt - (V111 0 73).toInt) := t143
          have t144 : RT V146 := t144
          have t145 : FRM V111 V146 (-1) := t145
          have r148 : 0 ≤ ((V146 0 93)).toInt ∧ ((V146 0 93)).toInt ≤ 10 := hMV146 0 93
          have r149 : 0 ≤ ((V146 0 98)).toInt ∧ ((V146 0 98)).toInt ≤ 20000 := hMV146 0 98
          have r150 : 0 ≤ ((V146 0 60)).toInt ∧ ((V146 0 60)).toInt ≤ 300 := hMV146 0 60
          have r151 : 0 ≤ ((V146 0 65)).toInt ∧ ((V146 0 65)).toInt ≤ 1000000 := hMV146 0 65
          have r152 : 0 ≤ ((V146 0 73)).toInt ∧ ((V146 0 73)).toInt ≤ 1000000 := hMV146 0 73
          have r153 : 0 ≤ ((V146 0 95)).toInt ∧ ((V146 0 95)).toInt ≤ 300 := hMV146 0 95
          have r154 : 0 ≤ ((V146 0 69)).toInt ∧ ((V146 0 69)).toInt ≤ 3000 := hMV146 0 69
          have r155 : 0 ≤ ((V146 0 76)).toInt ∧ ((V146 0 76)).toInt ≤ 2000000000 := hMV146 0 76
          refine lv_istore (lv' := [(10, .int z130), (9, .int 20), (8, .int z41), (7, .int y15), (6, .int z10), (5, .int (V 0 91)), (4, .int (V 0 90)), (0, .ref (ad 0)), (1, .int p0), (2, .int p1), (3, .int p2)]) hx hb dX12_failings_90 hl (by decide) rfl (fun ls hl => ?_)
          refine lv_iload hx hb dX12_failings_92 (lv_at hl 0 rfl) ?_
          refine lv_iconst (v := 1) hx hb dX12_failings_94 (by decide) ?_
          refine lv_icmp_eq (tgt := 101) hx hb dX12_failings_95 (by decide) (fun c156 => ?_) (fun c156 => ?_)
          · skip
            have f157 : z130.toInt = 1 := b_eq rfl (by decide) c156
            obtain ⟨z158, ez158⟩ : ∃ y : Int32, y = y15 + (-1) := ⟨_, rfl⟩
            have hz158 : z158.toInt = y15.toInt + (-1) := i_add ez158 rfl (by decide) (by omega)
            refine lv_iinc (v := z158) (lv' := [(7, .int z158), (10, .int z130), (9, .int 20), (8, .int z41), (6, .int z10), (5, .int (V 0 91)), (4, .int (V 0 90)), (0, .ref (ad 0)), (1, .int p0), (2, .int p1), (3, .int p2)]) hx hb dX12_failings_101 hl (k := 3) rfl (by rw [ez158]; rfl) (by decide) rfl (fun ls hl => ?_)
            refine lv_goto (tgt := 27) hx hb dX12_failings_104 (by decide) ?_
            have fm159 : FRM V V111 (-1) := (FRM.tr xlp17_12 (FRM.ag (show agr [(0, 76)] [77, 78, 79] V16 V111 from (agr.tr agr.rf ajV111 (by decide) (by decide))) ⟨⟨rfl, fun _ => rfl, fun _ => rfl, fun _ => rfl, fun _ => rfl, fun _ => rfl, fun _ => rfl⟩, by decide, by decide, rfl, rfl, fun _ => rfl, fun _ => rfl, fun _ => rfl, fun _ => rfl, fun _ => rfl, fun _ => rfl⟩) agV16 ⟨rfl, fun _ => rfl, fun _ => rfl, fun _ => rfl, fun _ => rfl, fun _ => rfl, fun _ => rfl⟩ (by omega))
            have fm160 : FRM V V146 (-1) := (FRM.tr fm159 t145 agV111 ⟨rfl, fun _ => rfl, fun _ => rfl, fun _ => rfl, fun _ => rfl, fun _ => rfl, fun _ => rfl⟩ (by omega))
            exact ihlp17 z158 V146 H locs ls (by first | omega | ((try (have i_t143 := Imp.go t143 (by omega))); (try (have i_rt := Imp.go rt (by omega))); (try (have i_rt := Imp.go rt (by omega))); (try (have i_t143 := Imp.go t143 (by omega))); omega)) (show (V146 0 98).toInt = (V 0 98).toInt from by first | omega | ((try (have i_t143 := Imp.go t143 (by omega))); (try (have i_rt := Imp.go rt (by omega))); (try (have i_rt := Imp.go rt (by omega))); (try (have i_t143 := Imp.go t143 (by omega))); omega)) (show (V146 0 93).toInt = (V 0 93).toInt from by first | omega | ((try (have i_t143 := Imp.go t143 (by omega))); (try (have i_rt := Imp.go rt (by omega))); (try (have i_rt := Imp.go rt (by omega))); (try (have i_t143 := Imp.go t143 (by omega))); omega)) (show (V 0 60).toInt ≤ (V146 0 60).toInt from by first | omega | ((try (have i_t143 := Imp.go t143 (by omega))); (try (have i_rt := Imp.go rt (by omega))); (try (have i_rt := Imp.go rt (by omega))); (try (have i_t143 := Imp.go t143 (by omega))); omega)) (show (V 0 65).toInt ≤ (V146 0 65).toInt from by first | omega | ((try (have i_t143 := Imp.go t143 (by omega))); (try (have i_rt := Imp.go rt (by omega))); (try (have i_rt := Imp.go rt (by omega))); (try (have i_t143 := Imp.go t143 (by omega))); omega)) (show (V146 0 65).toInt - (V 0 65).toInt ≤ (V146 0 60).toInt - (V 0 60).toInt from by first | omega | ((try (have i_t143 := Imp.go t143 (by omega))); (try (have i_rt := Imp.go rt (by omega))); (try (have i_rt := Imp.go rt (by omega))); (try (have i_t143 := Imp.go t143 (by omega))); omega)) (show (V146 0 73).toInt + (V146 0 95).toInt - (V146 0 65).toInt ≤ (V 0 73).toInt + (V 0 95).toInt - (V 0 65).toInt from by first | omega | ((try (have i_t143 := Imp.go t143 (by omega))); (try (have i_rt := Imp.go rt (by omega))); (try (have i_rt := Imp.go rt (by omega))); (try (have i_t143 := Imp.go t143 (by omega))); omega)) (show (V 0 73).toInt ≤ (V146 0 73).toInt from by first | omega | ((try (have i_t143 := Imp.go t143 (by omega))); (try (have i_rt := Imp.go rt (by omega))); (try (have i_rt := Imp.go rt (by omega))); (try (have i_t143 := Imp.go t143 (by omega))); omega)) (show (V 0 69).toInt ≤ (V146 0 69).toInt from by first | omega | ((try (have i_t143 := Imp.go t143 (by omega))); (try (have i_rt := Imp.go rt (by omega))); (try (have i_rt := Imp.go rt (by omega))); (try (have i_t143 := Imp.go t143 (by omega))); omega)) (show (V146 0 95).toInt = (V 0 95).toInt from by first | omega | ((try (have i_t143 := Imp.go t143 (by omega))); (try (have i_rt := Imp.go rt (by omega))); (try (have i_rt := Imp.go rt (by omega))); (try (have i_t143 := Imp.go t143 (by omega))); omega)) (show (V146 0 76).toInt - (V146 0 69).toInt - (V146 0 73).toInt ≤ (V 0 76).toInt - (V 0 69).toInt - (V 0 73).toInt from by first | omega | ((try (have i_t143 := Imp.go t143 (by omega))); (try (have i_rt := Imp.go rt (by omega))); (try (have i_rt := Imp.go rt (by omega))); (try (have i_t143 := Imp.go t143 (by omega))); omega)) (show z158.toInt ≤ z10.toInt - 1 from by first | omega | ((try (have i_t143 := Imp.go t143 (by omega))); (try (have i_rt := Imp.go rt (by omega))); (try (have i_rt := Imp.go rt (by omega))); (try (have i_t143 := Imp.go t143 (by omega))); omega)) t144 fm160 (by first | omega | ((try (have i_t143 := Imp.go t143 (by omega))); (try (have i_rt := Imp.go rt (by omega))); (try (have i_rt := Imp.go rt (by omega))); (try (have i_t143 := Imp.go t143 (by omega))); omega)) (agr.tr (agr.tr (agr.tr agr.rf ajV16 (by decide) (by decide)) ajV111 (by decide) (by decide)) ajV146 (by decide) (by decide)) hMV146 hP hD hS (lv_sub hl [0, 4, 5, 6, 7, 8, 9, 10] rfl)
          · skip
            have f161 : z130.toInt ≠ 1 := b_neq rfl (by decide) c156
            refine lv_iload hx hb dX12_failings_98 (lv_at hl 0 rfl) ?_
            have fm162 : FRM V V111 (-1) := (FRM.tr xlp17_12 (FRM.ag (show agr [(0, 76)] [77, 78, 79] V16 V111 from (agr.tr agr.rf ajV111 (by decide) (by decide))) ⟨⟨rfl, fun _ => rfl, fun _ => rfl, fun _ => rfl, fun _ => rfl, fun _ => rfl, fun _ => rfl⟩, by decide, by decide, rfl, rfl, fun _ => rfl, fun _ => rfl, fun _ => rfl, fun _ => rfl, fun _ => rfl, fun _ => rfl⟩) agV16 ⟨rfl, fun _ => rfl, fun _ => rfl, fun _ => rfl, fun _ => rfl, fun _ => rfl, fun _ => rfl⟩ (by omega))
            have fm163 : FRM V V146 (-1) := (FRM.tr fm162 t145 agV111 ⟨rfl, fun _ => rfl, fun _ => rfl, fun _ => rfl, fun _ => rfl, fun _ => rfl, fun _ => rfl⟩ (by omega))
            exact W.iret (v := z130) hx hb hr (fun t ht hW => ⟨⟨z130, (V146, L), rfl, ⟨hMV146, agV146, rfl, (show 0 ≤ z130.toInt ∧ z130.toInt ≤ 2 from by first | omega | ((try (have i_t143 := Imp.go t143 (by omega))); (try (have i_rt := Imp.go rt (by omega))); (try (have i_rt := Imp.go rt (by omega))); (try (have i_t143 := Imp.go t143 (by omega))); omega)), (show (V146 0 93).toInt = (V 0 93).toInt from by first | omega | ((try (have i_t143 := Imp.go t143 (by omega))); (try (have i_rt := Imp.go rt (by omega))); (try (have i_rt := Imp.go rt (by omega))); (try (have i_t143 := Imp.go t143 (by omega))); omega)), (show (V146 0 98).toInt = (V 0 98).toInt from by first | omega | ((try (have i_t143 := Imp.go t143 (by omega))); (try (have i_rt := Imp.go rt (by omega))); (try (have i_rt := Imp.go rt (by omega))); (try (have i_t143 := Imp.go t143 (by omega))); omega)), (show (V 0 60).toInt ≤ (V146 0 60).toInt from by first | omega | ((try (have i_t143 := Imp.go t143 (by omega))); (try (have i_rt := Imp.go rt (by omega))); (try (have i_rt := Imp.go rt (by omega))); (try (have i_t143 := Imp.go t143 (by omega))); omega)), (show (V 0 65).toInt ≤ (V146 0 65).toInt from by first | omega | ((try (have i_t143 := Imp.go t143 (by omega))); (try (have i_rt := Imp.go rt (by omega))); (try (have i_rt := Imp.go rt (by omega))); (try (have i_t143 := Imp.go t143 (by omega))); omega)), (show (V146 0 65).toInt - (V 0 65).toInt ≤ (V146 0 60).toInt - (V 0 60).toInt from by first | omega | ((try (have i_t143 := Imp.go t143 (by omega))); (try (have i_rt := Imp.go rt (by omega))); (try (have i_rt := Imp.go rt (by omega))); (try (have i_t143 := Imp.go t143 (by omega))); omega)), (show (V146 0 73).toInt + (V146 0 95).toInt - (V146 0 65).toInt ≤ (V 0 73).toInt + (V 0 95).toInt - (V 0 65).toInt from by first | omega | ((try (have i_t143 := Imp.go t143 (by omega))); (try (have i_rt := Imp.go rt (by omega))); (try (have i_rt := Imp.go rt (by omega))); (try (have i_t143 := Imp.go t143 (by omega))); omega)), (show (V 0 73).toInt ≤ (V146 0 73).toInt from by first | omega | ((try (have i_t143 := Imp.go t143 (by omega))); (try (have i_rt := Imp.go rt (by omega))); (try (have i_rt := Imp.go rt (by omega))); (try (have i_t143 := Imp.go t143 (by omega))); omega)), (show (V 0 69).toInt ≤ (V146 0 69).toInt from by first | omega | ((try (have i_t143 := Imp.go t143 (by omega))); (try (have i_rt := Imp.go rt (by omega))); (try (have i_rt := Imp.go rt (by omega))); (try (have i_t143 := Imp.go t143 (by omega))); omega)), (show (V146 0 95).toInt = (V 0 95).toInt from by first | omega | ((try (have i_t143 := Imp.go t143 (by omega))); (try (have i_rt := Imp.go rt (by omega))); (try (have i_rt := Imp.go rt (by omega))); (try (have i_t143 := Imp.go t143 (by omega))); omega)), (show (V146 0 76).toInt - (V146 0 69).toInt - (V146 0 73).toInt ≤ (V 0 76).toInt - (V 0 69).toInt - (V 0 73).toInt + 1 from by first | omega | ((try (have i_t143 := Imp.go t143 (by omega))); (try (have i_rt := Imp.go rt (by omega))); (try (have i_rt := Imp.go rt (by omega))); (try (have i_t143 := Imp.go t143 (by omega))); omega)), (Imp.mk (fun hp => have hp : z130.toInt ≠ 2 := hp; (show (V146 0 76).toInt - (V146 0 69).toInt - (V146 0 73).toInt ≤ (V 0 76).toInt - (V 0 69).toInt - (V 0 73).toInt from by first | omega | ((try (have i_t143 := Imp.go t143 (by omega))); (try (have i_rt := Imp.go rt (by omega))); (try (have i_rt := Imp.go rt (by omega))); (try (have i_t143 := Imp.go t143 (by omega))); omega)))), t144, fm163⟩, by rw [ht]; exact hP, va_K.moved hW.alike hK, hD⟩, hS.F ht⟩) hS.2.2 dX12_failings_100
  exact lp17 ((z14.toInt + 1 + 1 : Int).toNat) z14 V H locs ls (by first | omega | ((try (have i_rt := Imp.go rt (by omega))); omega)) (show (V 0 98).toInt = (V 0 98).toInt from by first | omega | ((try (have i_rt := Imp.go rt (by omega))); omega)) (show (V 0 93).toInt = (V 0 93).toInt from by first | omega | ((try (have i_rt := Imp.go rt (by omega))); omega)) (show (V 0 60).toInt ≤ (V 0 60).toInt from by first | omega | ((try (have i_rt := Imp.go rt (by omega))); omega)) (show (V 0 65).toInt ≤ (V 0 65).toInt from by first | omega | ((try (have i_rt := Imp.go rt (by omega))); omega)) (show (V 0 65).toInt - (V 0 65).toInt ≤ (V 0 60).toInt - (V 0 60).toInt from by first | omega | ((try (have i_rt := Imp.go rt (by omega))); omega)) (show (V 0 73).toInt + (V 0 95).toInt - (V 0 65).toInt ≤ (V 0 73).toInt + (V 0 95).toInt - (V 0 65).toInt from by first | omega | ((try (have i_rt := Imp.go rt (by omega))); omega)) (show (V 0 73).toInt ≤ (V 0 73).toInt from by first | omega | ((try (have i_rt := Imp.go rt (by omega))); omega)) (show (V 0 69).toInt ≤ (V 0 69).toInt from by first | omega | ((try (have i_rt := Imp.go rt (by omega))); omega)) (show (V 0 95).toInt = (V 0 95).toInt from by first | omega | ((try (have i_rt := Imp.go rt (by omega))); omega)) (show (V 0 76).toInt - (V 0 69).toInt - (V 0 73).toInt ≤ (V 0 76).toInt - (V 0 69).toInt - (V 0 73).toInt from by first | omega | ((try (have i_rt := Imp.go rt (by omega))); omega)) (show z14.toInt ≤ z10.toInt - 1 from by first | omega | ((try (have i_rt := Imp.go rt (by omega))); omega)) rt (FRM.rf : FRM V V (-1)) (by first | omega | ((try (have i_rt := Imp.go rt (by omega))); omega)) agr.rf hMV hP hD hS (lv_sub hl [0, 1, 2, 3, 4, 5, 6, 7] rfl)
