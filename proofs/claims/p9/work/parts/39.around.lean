theorem w2291 : Cond.code yX12_wrapAt cX12_wrapAt 8 (some .int) ∈ GW := gw_mem 2291 (by decide +kernel) rfl
theorem w2288 : Cond.methodLink RX12 529 yX12_wrapAt ∈ GW := gw_mem 2288 (by decide +kernel) rfl
theorem w2290 : Cond.instanceMethod yX12_wrapAt ∈ GW := gw_mem 2290 (by decide +kernel) rfl
theorem w140 : Cond.selects RX12 yX12_wrapAt yX12_wrapAt ∈ GW := gw_mem 140 (by decide +kernel) rfl
theorem hdV_yX12_wrapAt : yX12_wrapAt.cls = RX12 ∧ yX12_wrapAt.cls ≠ "java/lang/invoke/MethodHandle" ∧ yX12_wrapAt.cls ≠ "java/lang/invoke/VarHandle" ∧ (parseMethodDescriptor yX12_wrapAt.desc).map (fun d => d.parameters.length) = some 4 := by decide +kernel
theorem w2307 : Cond.code yX12_notes cX12_notes 4 none ∈ GW := gw_mem 2307 (by decide +kernel) rfl
theorem w2304 : Cond.methodLink RX12 535 yX12_notes ∈ GW := gw_mem 2304 (by decide +kernel) rfl
theorem w2306 : Cond.instanceMethod yX12_notes ∈ GW := gw_mem 2306 (by decide +kernel) rfl
theorem w144 : Cond.selects RX12 yX12_notes yX12_notes ∈ GW := gw_mem 144 (by decide +kernel) rfl
theorem hdV_yX12_notes : yX12_notes.cls = RX12 ∧ yX12_notes.cls ≠ "java/lang/invoke/MethodHandle" ∧ yX12_notes.cls ≠ "java/lang/invoke/VarHandle" ∧ (parseMethodDescriptor yX12_notes.desc).map (fun d => d.parameters.length) = some 3 := by decide +kernel
theorem w2299 : Cond.code yX12_inside cX12_inside 11 (some .int) ∈ GW := gw_mem 2299 (by decide +kernel) rfl
theorem w2296 : Cond.methodLink RX12 532 yX12_inside ∈ GW := gw_mem 2296 (by decide +kernel) rfl
theorem w2298 : Cond.instanceMethod yX12_inside ∈ GW := gw_mem 2298 (by decide +kernel) rfl
theorem w142 : Cond.selects RX12 yX12_inside yX12_inside ∈ GW := gw_mem 142 (by decide +kernel) rfl
theorem hdV_yX12_inside : yX12_inside.cls = RX12 ∧ yX12_inside.cls ≠ "java/lang/invoke/MethodHandle" ∧ yX12_inside.cls ≠ "java/lang/invoke/VarHandle" ∧ (parseMethodDescriptor yX12_inside.desc).map (fun d => d.parameters.length) = some 4 := by decide +kernel
theorem dX12_arounds_0 : decode cX12_arounds 0 = .ok (.aload_n 0, 1) := by decide +kernel
theorem dX12_arounds_1 : decode cX12_arounds 1 = .ok (.iload_n 1, 1) := by decide +kernel
theorem dX12_arounds_2 : decode cX12_arounds 2 = .ok (.iload_n 2, 1) := by decide +kernel
theorem dX12_arounds_3 : decode cX12_arounds 3 = .ok (.iload_n 3, 1) := by decide +kernel
theorem dX12_arounds_4 : decode cX12_arounds 4 = .ok (.iconst 1, 1) := by decide +kernel
theorem dX12_arounds_5 : decode cX12_arounds 5 = .ok (.invokevirtual 529, 3) := by decide +kernel
theorem dX12_arounds_8 : decode cX12_arounds 8 = .ok (.istore 6, 2) := by decide +kernel
theorem dX12_arounds_10 : decode cX12_arounds 10 = .ok (.iload 6, 2) := by decide +kernel
theorem dX12_arounds_12 : decode cX12_arounds 12 = .ok (.ifCond .ge 14, 3) := by decide +kernel
theorem dX12_arounds_26 : decode cX12_arounds 26 = .ok (.aload_n 0, 1) := by decide +kernel
theorem dX12_arounds_27 : decode cX12_arounds 27 = .ok (.iconst 1, 1) := by decide +kernel
theorem dX12_arounds_28 : decode cX12_arounds 28 = .ok (.iload 6, 2) := by decide +kernel
theorem dX12_arounds_30 : decode cX12_arounds 30 = .ok (.iload 5, 2) := by decide +kernel
theorem dX12_arounds_32 : decode cX12_arounds 32 = .ok (.invokevirtual 535, 3) := by decide +kernel
theorem dX12_arounds_35 : decode cX12_arounds 35 = .ok (.aload_n 0, 1) := by decide +kernel
theorem dX12_arounds_36 : decode cX12_arounds 36 = .ok (.aload_n 0, 1) := by decide +kernel
theorem dX12_arounds_37 : decode cX12_arounds 37 = .ok (.getfield 137, 3) := by decide +kernel
theorem dX12_arounds_40 : decode cX12_arounds 40 = .ok (.bipush 12, 2) := by decide +kernel
theorem dX12_arounds_42 : decode cX12_arounds 42 = .ok (.aload_n 0, 1) := by decide +kernel
theorem dX12_arounds_43 : decode cX12_arounds 43 = .ok (.getfield 286, 3) := by decide +kernel
theorem dX12_arounds_46 : decode cX12_arounds 46 = .ok (.imul, 1) := by decide +kernel
theorem dX12_arounds_47 : decode cX12_arounds 47 = .ok (.iload 6, 2) := by decide +kernel
theorem dX12_arounds_49 : decode cX12_arounds 49 = .ok (.iadd, 1) := by decide +kernel
theorem dX12_arounds_50 : decode cX12_arounds 50 = .ok (.iaload, 1) := by decide +kernel
theorem dX12_arounds_51 : decode cX12_arounds 51 = .ok (.iload_n 2, 1) := by decide +kernel
theorem dX12_arounds_52 : decode cX12_arounds 52 = .ok (.iload_n 3, 1) := by decide +kernel
theorem dX12_arounds_53 : decode cX12_arounds 53 = .ok (.iload 4, 2) := by decide +kernel
theorem dX12_arounds_55 : decode cX12_arounds 55 = .ok (.iload 5, 2) := by decide +kernel
theorem dX12_arounds_57 : decode cX12_arounds 57 = .ok (.iload_n 1, 1) := by decide +kernel
theorem dX12_arounds_58 : decode cX12_arounds 58 = .ok (.iconst 1, 1) := by decide +kernel
theorem dX12_arounds_59 : decode cX12_arounds 59 = .ok (.iadd, 1) := by decide +kernel
theorem dX12_arounds_60 : decode cX12_arounds 60 = .ok (.invokevirtual 538, 3) := by decide +kernel
theorem dX12_arounds_63 : decode cX12_arounds 63 = .ok (.ireturn, 1) := by decide +kernel
theorem dX12_arounds_15 : decode cX12_arounds 15 = .ok (.aload_n 0, 1) := by decide +kernel
theorem dX12_arounds_16 : decode cX12_arounds 16 = .ok (.iload_n 2, 1) := by decide +kernel
theorem dX12_arounds_17 : decode cX12_arounds 17 = .ok (.iload_n 3, 1) := by decide +kernel
theorem dX12_arounds_18 : decode cX12_arounds 18 = .ok (.iload 4, 2) := by decide +kernel
theorem dX12_arounds_20 : decode cX12_arounds 20 = .ok (.iload 5, 2) := by decide +kernel
theorem dX12_arounds_22 : decode cX12_arounds 22 = .ok (.invokevirtual 532, 3) := by decide +kernel
theorem dX12_arounds_25 : decode cX12_arounds 25 = .ok (.ireturn, 1) := by decide +kernel
abbrev q_s_inside (D : va_G) (ks : KS) (ad : Nat → Nat) (kk : Nat → ClassId) (V : Vf) (L : Lf) (p0 : Int32) (p1 : Int32) (p2 : Int32) (p3 : Int32) (A : Nat → Prop) : Array Value → State → Outcome → State → Prop := va_Qi (fun (r : Int32) (u : Vf × Lf) => rgd bM u.1 ∧ agr [(0, 60), (0, 65), (0, 68), (0, 69), (0, 73), (0, 76), (0, 90), (0, 91), (0, 92), (0, 93), (0, 95), (0, 96), (0, 98)] [59, 61, 62, 63, 64, 66, 67, 74, 75, 77, 78, 79, 80, 94, 97] V u.1 ∧ u.2 = L ∧ (0 ≤ r.toInt ∧ r.toInt ≤ 2) ∧ ((u.1 0 93).toInt = (V 0 93).toInt) ∧ ((u.1 0 98).toInt = (V 0 98).toInt) ∧ ((V 0 60).toInt ≤ (u.1 0 60).toInt) ∧ ((V 0 65).toInt ≤ (u.1 0 65).toInt) ∧ ((u.1 0 65).toInt - (V 0 65).toInt ≤ (u.1 0 60).toInt - (V 0 60).toInt) ∧ ((u.1 0 73).toInt + (u.1 0 95).toInt - (u.1 0 65).toInt ≤ (V 0 73).toInt + (V 0 95).toInt - (V 0 65).toInt) ∧ ((V 0 73).toInt ≤ (u.1 0 73).toInt) ∧ ((V 0 69).toInt ≤ (u.1 0 69).toInt) ∧ ((u.1 0 95).toInt = (V 0 95).toInt) ∧ ((u.1 0 76).toInt - (u.1 0 69).toInt - (u.1 0 73).toInt ≤ (V 0 76).toInt - (V 0 69).toInt - (V 0 73).toInt + 1) ∧ (Imp (r.toInt ≠ 2) ((u.1 0 76).toInt - (u.1 0 69).toInt - (u.1 0 73).toInt ≤ (V 0 76).toInt - (V 0 69).toInt - (V 0 73).toInt)) ∧ (RT u.1) ∧ (FRM V u.1 (-1))) (fun u t => gq D A (mw ad kk ks.1 u.1 u.2) (mty kk) t) A
def K_s_inside (l : Launch) (D : va_G) (ks : KS) (d1 d2 : Nat) : Prop := ∀ (sz : Nat) (ad : Nat → Nat) (kk : Nat → ClassId) (V : Vf) (L : Lf) (p0 : Int32) (p1 : Int32) (p2 : Int32) (p3 : Int32) (hMV : rgd bM V) (rg_p0 : 0 ≤ p0.toInt ∧ p0.toInt ≤ 299) (rg_p1 : 0 ≤ p1.toInt ∧ p1.toInt ≤ 19) (rg_p2 : 0 ≤ p2.toInt ∧ p2.toInt ≤ 39) (rt : RT V) (n1 : (V 0 65).toInt ≤ (V 0 60).toInt) (n2 : (V 0 95).toInt ≤ (V 0 65).toInt) (n3 : (V 0 73).toInt + (V 0 95).toInt - (V 0 65).toInt ≤ 999000) (n4 : (V 0 76).toInt - (V 0 69).toInt - (V 0 73).toInt ≤ 1000000000) (n5 : 300 - (V 0 60).toInt ≤ (d1 : Int)) (n6 : 10 - (V 0 93).toInt ≤ (d2 : Int)) (oq1 : p0.toInt < (V 0 60).toInt) (n7 : (V 0 98).toInt + 400 * (d2 : Int) + 30 ≤ 19000) , Met l yX12_inside (Cond.code yX12_inside cX12_inside 11 (some .int) :: GW) (rK2 (4 * d1 + 40 * d2 + 13) (100 * d1 + 1000 * d2 + 500)) (va_Pc [.ref (ad 0), .int p0, .int p1, .int p2, .int p3] (gp D ks (mw ad kk ks.1 V L) (mty kk) sz)) (q_s_inside D ks ad kk V L p0 p1 p2 p3 (va_A (mw ad kk ks.1 V L) sz)) 0 0 (va_A (mw ad kk ks.1 V L) sz)
set_option maxHeartbeats 4000000 in
set_option maxRecDepth 100000 in
theorem s_arounds {l : Launch} {D : va_G} {ks : KS} {d1 d2 d3 : Nat} (hk_s_inside : K_s_inside l D ks d1 d2) (hk_s_wA1 : ∀ d8, d3 = d8 + 1 → K_s_wA1 l D ks d1 d2 d8) : K_s_arounds l D ks d1 d2 d3 := by
  intro sz ad kk V L p0 p1 p2 p3 p4 hMV rg_p0 rg_p1 rg_p2 rg_p3 rt n1 n2 n3 n4 n5 n6 oq1 n7 n8
  refine g_met (q_s_arounds D ks ad kk V L p0 p1 p2 p3 p4) (by decide) (Nat.le_of_ble_eq_true rfl) ?_
  intro p e s m below meth c A ls H locs hx hb hr hml hown hg hlocks hin hnw hgk hP hK hD hS hA hl
  have hown : s.vm.findClass RX12 = some m.cls := hown
  have hl : lv_has ls 7 [(0, .ref (ad 0)), (1, .int p0), (2, .int p1), (3, .int p2), (4, .int p3), (5, .int p4)] := hl
  have hP : va_P D vwCl (mw ad kk ks.1 V L) H := hP
  have hD : va_D A (mw ad kk ks.1 V L) := hD
  have hK : va_K D vwCl (mty kk) s := hK
  have agV : agr [(0, 60), (0, 65), (0, 68), (0, 69), (0, 73), (0, 76), (0, 90), (0, 91), (0, 92), (0, 93), (0, 95), (0, 96), (0, 98)] [59, 61, 62, 63, 64, 66, 67, 74, 75, 77, 78, 79, 80, 94, 97] V V := agr.rf
  have r1 : 0 ≤ ((V 0 65)).toInt ∧ ((V 0 65)).toInt ≤ 1000000 := hMV 0 65
  have r2 : 0 ≤ ((V 0 60)).toInt ∧ ((V 0 60)).toInt ≤ 300 := hMV 0 60
  have r3 : 0 ≤ ((V 0 95)).toInt ∧ ((V 0 95)).toInt ≤ 300 := hMV 0 95
  have r4 : 0 ≤ ((V 0 73)).toInt ∧ ((V 0 73)).toInt ≤ 1000000 := hMV 0 73
  have r5 : 0 ≤ ((V 0 76)).toInt ∧ ((V 0 76)).toInt ≤ 2000000000 := hMV 0 76
  have r6 : 0 ≤ ((V 0 69)).toInt ∧ ((V 0 69)).toInt ≤ 3000 := hMV 0 69
  have r7 : 0 ≤ ((V 0 93)).toInt ∧ ((V 0 93)).toInt ≤ 10 := hMV 0 93
  have r8 : 0 ≤ ((V 0 98)).toInt ∧ ((V 0 98)).toInt ≤ 20000 := hMV 0 98
  refine lv_aload_n hx hb dX12_arounds_0 rfl (lv_at hl 0 rfl) ?_
  refine lv_iload_n hx hb dX12_arounds_1 rfl (lv_at hl 1 rfl) ?_
  refine lv_iload_n hx hb dX12_arounds_2 rfl (lv_at hl 2 rfl) ?_
  refine lv_iload_n hx hb dX12_arounds_3 rfl (lv_at hl 3 rfl) ?_
  refine lv_iconst (v := 1) hx hb dX12_arounds_4 (by decide) ?_
  have r9 : Int32.toInt 1 = 1 := by decide
  refine gA_int (gA_runV (As := [.int p0, .int p1, .int p2, .int 1]) (rest := []) (ci := 12) (q0 := 0) hx hb hml hown hg hP hD hK hS hA hnw hgk (s_wrapAt2 l D ks H.size ad kk V L p0 p1 p2 1 hMV (by first | omega | ((try (have i_rt := Imp.go rt (by omega))); omega)) (by first | omega | ((try (have i_rt := Imp.go rt (by omega))); omega)) (rt).1) w2288 w2290 w140 w172 w2291 rfl rfl hdV_yX12_wrapAt ⟨(by show (1) + 1 ≤ (4 * d1 + 40 * d2 + 14 + 2 * d3); omega), (by show 8 + (8 + 11) + (25) ≤ (100 * d1 + 1000 * d2 + 560 + 60 * d3); omega)⟩ rfl hl.1 rfl (Nat.le_of_ble_eq_true rfl) dX12_arounds_5 ⟨Nat.le_of_ble_eq_true rfl, Nat.le_of_ble_eq_true rfl⟩) hP hD hK hS hA (fun z10 u11 H locs w12 hP hD hK hS => ?_)
  obtain ⟨rgz10, t13, t14⟩ := w12
  have rgz10 : (-1) ≤ z10.toInt ∧ z10.toInt ≤ 11 := rgz10
  have t13 : Imp (0 ≤ z10.toInt) (z10.toInt < (V 39 (nwh V)).toInt ∧ isWb V p1 p2 1 (Int32.toNatClampNeg z10) = true ∧ p0.toInt < ((wcn (isWb V p1 p2 1) (wmany V) : Nat) : Int)) := t13
  have t14 : Imp (z10.toInt = -1) (((wcn (isWb V p1 p2 1) (wmany V) : Nat) : Int) ≤ p0.toInt) := t14
  refine lv_istore (lv' := [(6, .int z10), (0, .ref (ad 0)), (1, .int p0), (2, .int p1), (3, .int p2), (4, .int p3), (5, .int p4)]) hx hb dX12_arounds_8 hl (by decide) rfl (fun ls hl => ?_)
  refine lv_iload hx hb dX12_arounds_10 (lv_at hl 0 rfl) ?_
  refine lv_if_ge (tgt := 26) hx hb dX12_arounds_12 (by decide) (fun c15 => ?_) (fun c15 => ?_)
  · skip
    have f16 : 0 ≤ z10.toInt := b_le (by decide) rfl c15
    have hw := Imp.go t13 (by omega)
    have wl := wcn_le (f := isWb V p1 p2 1) (wmany V)
    have r39 : 0 ≤ (V 39 (nwh V)).toInt ∧ (V 39 (nwh V)).toInt ≤ 12 := hMV 39 _
    have wm : wmany V ≤ 12 := by unfold wmany; omega
    have p11 : p0.toInt ≤ 11 := by omega
    have kw := i_clamp (x := z10) rfl (by omega)
    have kn : (nwh V : Int) = (V 0 11).toInt := i_clamp (x := V 0 11) rfl (by have h9 : 0 ≤ (V 0 11).toInt ∧ (V 0 11).toInt ≤ 1 := hMV 0 11; omega)
    have nb : 0 ≤ (V 0 11).toInt ∧ (V 0 11).toInt ≤ 1 := hMV 0 11
    have wE := TB.wrapE (ar := true) (w := Int32.toNatClampNeg z10) rt.1 (by omega) hw.2.1 (by decide)
    have wE1 := wE.1
    have wE2 := wE.2.lt
    obtain ⟨d8, hd8⟩ : ∃ d8, d3 = d8 + 1 := ⟨d3 - 1, by omega⟩
    refine lv_aload_n hx hb dX12_arounds_26 rfl (lv_at hl 1 rfl) ?_
    refine lv_iconst (v := 1) hx hb dX12_arounds_27 (by decide) ?_
    refine lv_iload hx hb dX12_arounds_28 (lv_at hl 0 rfl) ?_
    refine lv_iload hx hb dX12_arounds_30 (lv_at hl 6 rfl) ?_
    refine gA_void (gA_runV (As := [.int 1, .int z10, .int p4]) (rest := []) (ci := 12) (q0 := 0) hx hb hml hown hg hP hD hK hS hA hnw hgk (s_notes2 l D ks H.size ad kk V L 1 z10 p4 hMV (show (V 0 76).toInt ≤ 1999999999 from by first | omega | ((try (have i_rt := Imp.go rt (by omega))); omega))) w2304 w2306 w144 w172 w2307 rfl rfl hdV_yX12_notes ⟨(by show (0) + 1 ≤ (4 * d1 + 40 * d2 + 14 + 2 * d3); omega), (by show 8 + (4 + 11) + (0) ≤ (100 * d1 + 1000 * d2 + 560 + 60 * d3); omega)⟩ rfl hl.1 rfl (Nat.le_of_ble_eq_true rfl) dX12_arounds_32 ⟨Nat.le_of_ble_eq_true rfl, Nat.le_of_ble_eq_true rfl⟩) hP hD hK hS hA (fun u18 H locs w19 hP hD hK hS => ?_)
    obtain ⟨V21, L22⟩ := u18
    obtain ⟨hMV21, ajV21, axL22, t20⟩ := w19
    have axL22 : L = L22 := Eq.symm axL22
    subst axL22
    have hP : va_P D vwCl (mw ad kk ks.1 V21 L) H := hP
    have hD : va_D A (mw ad kk ks.1 V21 L) := hD
    have hMV21 : rgd bM V21 := hMV21
    have ajV21 : agr [(0, 76)] [77, 78, 79] V V21 := ajV21
    have agV21 : agr [(0, 60), (0, 65), (0, 68), (0, 69), (0, 73), (0, 76), (0, 90), (0, 91), (0, 92), (0, 93), (0, 95), (0, 96), (0, 98)] [59, 61, 62, 63, 64, 66, 67, 74, 75, 77, 78, 79, 80, 94, 97] V V21 := agV.tr ajV21 (by decide) (by decide)
    have t20 : (V21 0 76).toInt = (V 0 76).toInt + 1 := t20
    have r23 : 0 ≤ ((V21 0 76)).toInt ∧ ((V21 0 76)).toInt ≤ 2000000000 := hMV21 0 76
    refine lv_aload_n hx hb dX12_arounds_35 rfl (lv_at hl 1 rfl) ?_
    refine lv_aload_n hx hb dX12_arounds_36 rfl (lv_at hl 1 rfl) ?_
    refine va_get (D := D) (ci := 12) (v := .ref (ad 44)) (C := RX12) (T := TX12) (N := 100) hx hb hg inX12 hown hK hP 0 rfl rfl 44 (by decide) (hg _ w1754) (fun _ h9 => h9) rfl dX12_arounds_37 ?_
    refine lv_bipush (v := 12) hx hb dX12_arounds_40 (by decide) ?_
    refine lv_aload_n hx hb dX12_arounds_42 rfl (lv_at hl 1 rfl) ?_
    refine va_get (D := D) (ci := 12) (v := .int (V21 0 11)) (C := RX12) (T := TX12) (N := 100) hx hb hg inX12 hown hK hP 0 rfl rfl 11 (by decide) (hg _ w1721) (fun _ h9 => h9) rfl dX12_arounds_43 ?_
    refine g_top (v := (V 0 11)) (ajV21 0 11 rfl) ?_
    have r24 : 0 ≤ ((V 0 11)).toInt ∧ ((V 0 11)).toInt ≤ 1 := hMV 0 11
    refine lv_imul hx hb dX12_arounds_46 ?_
    refine lv_topi (fun z25 ez25 => ?_)
    have hz25 : z25.toInt = 12 * ((V 0 11)).toInt := i_mul ez25 (by decide) rfl (by omega)
    refine lv_iload hx hb dX12_arounds_47 (lv_at hl 0 rfl) ?_
    refine lv_iadd hx hb dX12_arounds_49 ?_
    refine lv_topi (fun z26 ez26 => ?_)
    have hz26 : z26.toInt = z25.toInt + z10.toInt := i_add ez26 rfl rfl (by omega)
    have kz : Int32.toNatClampNeg z26 = 12 * nwh V + Int32.toNatClampNeg z10 := by have h9 := i_clamp (x := z26) rfl (by omega); omega
    have q44 : V 44 (12 * nwh V + Int32.toNatClampNeg z10) = V 44 (Int32.toNatClampNeg z26) := by rw [kz]
    have q44i := congrArg Int32.toInt q44
    refine va_iald (D := D) (i := z26) hx hb hK hP 37 36 rfl rfl (i_in (a := z26.toInt) rfl (by first | omega | ((try (have i_rt := Imp.go rt (by omega))); omega))) dX12_arounds_50 ?_
    refine g_top (v := (V 44 (Int32.toNatClampNeg z26))) (ajV21 44 (Int32.toNatClampNeg z26) rfl) ?_
    refine lv_iload_n hx hb dX12_arounds_51 rfl (lv_at hl 3 rfl) ?_
    refine lv_iload_n hx hb dX12_arounds_52 rfl (lv_at hl 4 rfl) ?_
    refine lv_iload hx hb dX12_arounds_53 (lv_at hl 5 rfl) ?_
    refine lv_iload hx hb dX12_arounds_55 (lv_at hl 6 rfl) ?_
    refine lv_iload_n hx hb dX12_arounds_57 rfl (lv_at hl 2 rfl) ?_
    refine lv_iconst (v := 1) hx hb dX12_arounds_58 (by decide) ?_
    refine lv_iadd hx hb dX12_arounds_59 ?_
    refine lv_topi (fun z27 ez27 => ?_)
    have hz27 : z27.toInt = p0.toInt + 1 := i_add ez27 rfl (by decide) (by omega)
    have pq28 : (V21 0 65).toInt = ((V 0 65)).toInt := congrArg Int32.toInt (ajV21 0 65 rfl)
    have pq29 : (V21 0 60).toInt = ((V 0 60)).toInt := congrArg Int32.toInt (ajV21 0 60 rfl)
    have pq30 : (V21 0 95).toInt = ((V 0 95)).toInt := congrArg Int32.toInt (ajV21 0 95 rfl)
    have pq31 : (V21 0 73).toInt = ((V 0 73)).toInt := congrArg Int32.toInt (ajV21 0 73 rfl)
    have pq32 : (V21 0 69).toInt = ((V 0 69)).toInt := congrArg Int32.toInt (ajV21 0 69 rfl)
    have pq33 : (V21 0 93).toInt = ((V 0 93)).toInt := congrArg Int32.toInt (ajV21 0 93 rfl)
    have pq34 : (V21 0 98).toInt = ((V 0 98)).toInt := congrArg Int32.toInt (ajV21 0 98 rfl)
    have rt35 : RT V21 := RT.ag rt hMV (show agr [(0, 76)] [77, 78, 79] V V21 from (agr.tr agr.rf ajV21 (by decide) (by decide))) ⟨⟨rfl, fun _ => rfl, fun _ => rfl, fun _ => rfl, fun _ => rfl, fun _ => rfl, fun _ => rfl⟩, by decide, by decide, rfl, rfl, fun _ => rfl, fun _ => rfl, fun _ => rfl, fun _ => rfl, fun _ => rfl, fun _ => rfl⟩ (c0k.ag (show agr [(0, 76)] [77, 78, 79] V V21 from (agr.tr agr.rf ajV21 (by decide) (by decide))) rfl)
    refine gA_int (gA_runV (As := [.int (V 44 (Int32.toNatClampNeg z26)), .int p1, .int p2, .int p3, .int p4, .int z27]) (rest := []) (ci := 12) (q0 := 0) hx hb hml hown hg hP hD hK hS hA hnw hgk ((hk_s_wA1 d8 hd8) H.size ad kk V21 L (V 44 (Int32.toNatClampNeg z26)) p1 p2 p3 p4 z27 (0) (10000 * nwh V) (10000 * nwh V + 10000) hMV21 (by first | omega | ((try (have i_rt := Imp.go rt (by omega))); omega)) (by first | omega | ((try (have i_rt := Imp.go rt (by omega))); omega)) (by first | omega | ((try (have i_rt := Imp.go rt (by omega))); omega)) (by first | omega | ((try (have i_rt := Imp.go rt (by omega))); omega)) (by first | omega | ((try (have i_rt := Imp.go rt (by omega))); omega)) rt35 (show (V21 0 65).toInt ≤ (V21 0 60).toInt from by first | omega | ((try (have i_rt := Imp.go rt (by omega))); omega)) (show (V21 0 95).toInt ≤ (V21 0 65).toInt from by first | omega | ((try (have i_rt := Imp.go rt (by omega))); omega)) (show (V21 0 73).toInt + (V21 0 95).toInt - (V21 0 65).toInt ≤ 999000 from by first | omega | ((try (have i_rt := Imp.go rt (by omega))); omega)) (show (V21 0 76).toInt - (V21 0 69).toInt - (V21 0 73).toInt ≤ 1000000001 from by first | omega | ((try (have i_rt := Imp.go rt (by omega))); omega)) (show 300 - (V21 0 60).toInt ≤ ((d1 : Nat) : Int) from by first | omega | ((try (have i_rt := Imp.go rt (by omega))); omega)) (show 10 - (V21 0 93).toInt ≤ ((d2 : Nat) : Int) from by first | omega | ((try (have i_rt := Imp.go rt (by omega))); omega)) (show p1.toInt < (V21 0 60).toInt from by first | omega | ((try (have i_rt := Imp.go rt (by omega))); omega)) (show (V21 0 98).toInt + 400 * ((d2 : Nat) : Int) + 30 * (14 - z27.toInt) ≤ 19000 from by first | omega | ((try (have i_rt := Imp.go rt (by omega))); omega)) (CE.same (show CE 0 true V (10000 * nwh V) (10000 * nwh V + 10000) (V 44 (Int32.toNatClampNeg z26)).toInt.toNat from q44 ▸ wE.2) (Int.le_refl _) (Nat.le_refl _) (fun i _ _ => ⟨agV21 45 _ rfl, agV21 46 _ rfl, agV21 47 _ rfl⟩)) (show ((10000 * nwh V + 10000) : Int) ≤ 20000 from by first | omega | ((try (have i_rt := Imp.go rt (by omega))); omega)) (hMV21 27 _).1 (show 12 - z27.toInt ≤ ((d8 : Nat) : Int) from by first | omega | ((try (have i_rt := Imp.go rt (by omega))); omega))) w2276 w2278 w137 w172 w2279 rfl rfl hdV_yX12_worksAround ⟨(by show (4 * (d1) + 40 * (d2) + 15 + 2 * (d8)) + 1 ≤ (4 * d1 + 40 * d2 + 14 + 2 * d3); omega), (by show 8 + (13 + 11) + (100 * (d1) + 1000 * (d2) + 588 + 60 * (d8)) ≤ (100 * d1 + 1000 * d2 + 560 + 60 * d3); omega)⟩ rfl hl.1 rfl (Nat.le_of_ble_eq_true rfl) dX12_arounds_60 ⟨Nat.le_of_ble_eq_true rfl, Nat.le_of_ble_eq_true rfl⟩) hP hD hK hS hA (fun z36 u37 H locs w38 hP hD hK hS => ?_)
    obtain ⟨V52, L53⟩ := u37
    obtain ⟨hMV52, ajV52, axL53, rgz36, t39, t40, t41, t42, t43, t44, t45, t46, t47, t48, t49, t50, t51⟩ := w38
    have axL53 : L = L53 := Eq.symm axL53
    subst axL53
    have hP : va_P D vwCl (mw ad kk ks.1 V52 L) H := hP
    have hD : va_D A (mw ad kk ks.1 V52 L) := hD
    have hMV52 : rgd bM V52 := hMV52
    have ajV52 : agr [(0, 60), (0, 65), (0, 68), (0, 69), (0, 73), (0, 76), (0, 90), (0, 91), (0, 92), (0, 93), (0, 95), (0, 96), (0, 98)] [59, 61, 62, 63, 64, 66, 67, 74, 75, 77, 78, 79, 80, 94, 97] V21 V52 := ajV52
    have agV52 : agr [(0, 60), (0, 65), (0, 68), (0, 69), (0, 73), (0, 76), (0, 90), (0, 91), (0, 92), (0, 93), (0, 95), (0, 96), (0, 98)] [59, 61, 62, 63, 64, 66, 67, 74, 75, 77, 78, 79, 80, 94, 97] V V52 := agV21.tr ajV52 (by decide) (by decide)
    have rgz36 : 0 ≤ z36.toInt ∧ z36.toInt ≤ 2 := rgz36
    have t39 : (V52 0 93).toInt = (V21 0 93).toInt := t39
    have t40 : (V52 0 98).toInt = (V21 0 98).toInt := t40
    have t41 : (V21 0 60).toInt ≤ (V52 0 60).toInt := t41
    have t42 : (V21 0 65).toInt ≤ (V52 0 65).toInt := t42
    have t43 : (V52 0 65).toInt - (V21 0 65).toInt ≤ (V52 0 60).toInt - (V21 0 60).toInt := t43
    have t44 : (V52 0 73).toInt + (V52 0 95).toInt - (V52 0 65).toInt ≤ (V21 0 73).toInt + (V21 0 95).toInt - (V21 0 65).toInt := t44
    have t45 : (V21 0 73).toInt ≤ (V52 0 73).toInt := t45
    have t46 : (V21 0 69).toInt ≤ (V52 0 69).toInt := t46
    have t47 : (V52 0 95).toInt = (V21 0 95).toInt := t47
    have t48 : (V52 0 76).toInt - (V52 0 69).toInt - (V52 0 73).toInt ≤ (V21 0 76).toInt - (V21 0 69).toInt - (V21 0 73).toInt := t48
    have t49 : Imp (z36.toInt ≠ 2) ((V52 0 76).toInt - (V52 0 69).toInt - (V52 0 73).toInt + 1 ≤ (V21 0 76).toInt - (V21 0 69).toInt - (V21 0 73).toInt) := t49
    have t50 : RT V52 := t50
    have t51 : FRM V21 V52 (-1) := t51
    have r54 : 0 ≤ ((V52 0 93)).toInt ∧ ((V52 0 93)).toInt ≤ 10 := hMV52 0 93
    have r55 : 0 ≤ ((V52 0 98)).toInt ∧ ((V52 0 98)).toInt ≤ 20000 := hMV52 0 98
    have r56 : 0 ≤ ((V52 0 60)).toInt ∧ ((V52 0 60)).toInt ≤ 300 := hMV52 0 60
    have r57 : 0 ≤ ((V52 0 65)).toInt ∧ ((V52 0 65)).toInt ≤ 1000000 := hMV52 0 65
    have r58 : 0 ≤ ((V52 0 73)).toInt ∧ ((V52 0 73)).toInt ≤ 1000000 := hMV52 0 73
    have r59 : 0 ≤ ((V52 0 95)).toInt ∧ ((V52 0 95)).toInt ≤ 300 := hMV52 0 95
    have r60 : 0 ≤ ((V52 0 69)).toInt ∧ ((V52 0 69)).toInt ≤ 3000 := hMV52 0 69
    have r61 : 0 ≤ ((V52 0 76)).toInt ∧ ((V52 0 76)).toInt ≤ 2000000000 := hMV52 0 76
    have fm62 : FRM V V21 (-1) := ((FRM.ag (show agr [(0, 76)] [77, 78, 79] V V21 from (agr.tr agr.rf ajV21 (by decide) (by decide))) ⟨⟨rfl, fun _ => rfl, fun _ => rfl, fun _ => rfl, fun _ => rfl, fun _ => rfl, fun _ => rfl⟩, by decide, by decide, rfl, rfl, fun _ => rfl, fun _ => rfl, fun _ => rfl, fun _ => rfl, fun _ => rfl, fun _ => rfl⟩) : FRM V V21 (-1))
    have fm63 : FRM V V52 (-1) := (FRM.tr fm62 t51 agV21 ⟨rfl, fun _ => rfl, fun _ => rfl, fun _ => rfl, fun _ => rfl, fun _ => rfl, fun _ => rfl⟩ (by omega))
    exact W.iret (v := z36) hx hb hr (fun t ht hW => ⟨⟨z36, (V52, L), rfl, ⟨hMV52, agV52, rfl, (show 0 ≤ z36.toInt ∧ z36.toInt ≤ 2 from by first | omega | ((try (have i_t49 := Imp.go t49 (by omega))); (try (have i_rt := Imp.go rt (by omega))); (try (have i_rt := Imp.go rt (by omega))); (try (have i_t49 := Imp.go t49 (by omega))); omega)), (show (V52 0 93).toInt = (V 0 93).toInt from by first | omega | ((try (have i_t49 := Imp.go t49 (by omega))); (try (have i_rt := Imp.go rt (by omega))); (try (have i_rt := Imp.go rt (by omega))); (try (have i_t49 := Imp.go t49 (by omega))); omega)), (show (V52 0 98).toInt = (V 0 98).toInt from by first | omega | ((try (have i_t49 := Imp.go t49 (by omega))); (try (have i_rt := Imp.go rt (by omega))); (try (have i_rt := Imp.go rt (by omega))); (try (have i_t49 := Imp.go t49 (by omega))); omega)), (show (V 0 60).toInt ≤ (V52 0 60).toInt from by first | omega | ((try (have i_t49 := Imp.go t49 (by omega))); (try (have i_rt := Imp.go rt (by omega))); (try (have i_rt := Imp.go rt (by omega))); (try (have i_t49 := Imp.go t49 (by omega))); omega)), (show (V 0 65).toInt ≤ (V52 0 65).toInt from by first | omega | ((try (have i_t49 := Imp.go t49 (by omega))); (try (have i_rt := Imp.go rt (by omega))); (try (have i_rt := Imp.go rt (by omega))); (try (have i_t49 := Imp.go t49 (by omega))); omega)), (show (V52 0 65).toInt - (V 0 65).toInt ≤ (V52 0 60).toInt - (V 0 60).toInt from by first | omega | ((try (have i_t49 := Imp.go t49 (by omega))); (try (have i_rt := Imp.go rt (by omega))); (try (have i_rt := Imp.go rt (by omega))); (try (have i_t49 := Imp.go t49 (by omega))); omega)), (show (V52 0 73).toInt + (V52 0 95).toInt - (V52 0 65).toInt ≤ (V 0 73).toInt + (V 0 95).toInt - (V 0 65).toInt from by first | omega | ((try (have i_t49 := Imp.go t49 (by omega))); (try (have i_rt := Imp.go rt (by omega))); (try (have i_rt := Imp.go rt (by omega))); (try (have i_t49 := Imp.go t49 (by omega))); omega)), (show (V 0 73).toInt ≤ (V52 0 73).toInt from by first | omega | ((try (have i_t49 := Imp.go t49 (by omega))); (try (have i_rt := Imp.go rt (by omega))); (try (have i_rt := Imp.go rt (by omega))); (try (have i_t49 := Imp.go t49 (by omega))); omega)), (show (V 0 69).toInt ≤ (V52 0 69).toInt from by first | omega | ((try (have i_t49 := Imp.go t49 (by omega))); (try (have i_rt := Imp.go rt (by omega))); (try (have i_rt := Imp.go rt (by omega))); (try (have i_t49 := Imp.go t49 (by omega))); omega)), (show (V52 0 95).toInt = (V 0 95).toInt from by first | omega | ((try (have i_t49 := Imp.go t49 (by omega))); (try (have i_rt := Imp.go rt (by omega))); (try (have i_rt := Imp.go rt (by omega))); (try (have i_t49 := Imp.go t49 (by omega))); omega)), (show (V52 0 76).toInt - (V52 0 69).toInt - (V52 0 73).toInt ≤ (V 0 76).toInt - (V 0 69).toInt - (V 0 73).toInt + 1 from by first | omega | ((try (have i_t49 := Imp.go t49 (by omega))); (try (have i_rt := Imp.go rt (by omega))); (try (have i_rt := Imp.go rt (by omega))); (try (have i_t49 := Imp.go t49 (by omega))); omega)), (Imp.mk (fun hp => have hp : z36.toInt ≠ 2 := hp; (show (V52 0 76).toInt - (V52 0 69).toInt - (V52 0 73).toInt ≤ (V 0 76).toInt - (V 0 69).toInt - (V 0 73).toInt from by first | omega | ((try (have i_t49 := Imp.go t49 (by omega))); (try (have i_rt := Imp.go rt (by omega))); (try (have i_rt := Imp.go rt (by omega))); (try (have i_t49 := Imp.go t49 (by omega))); omega)))), t50, fm63⟩, by rw [ht]; exact hP, va_K.moved hW.alike hK, hD⟩, hS.F ht⟩) hS.2.2 dX12_arounds_63
  · skip
    have f64 : z10.toInt < 0 := b_nle (by decide) rfl c15
    refine lv_aload_n hx hb dX12_arounds_15 rfl (lv_at hl 1 rfl) ?_
    refine lv_iload_n hx hb dX12_arounds_16 rfl (lv_at hl 3 rfl) ?_
    refine lv_iload_n hx hb dX12_arounds_17 rfl (lv_at hl 4 rfl) ?_
    refine lv_iload hx hb dX12_arounds_18 (lv_at hl 5 rfl) ?_
    refine lv_iload hx hb dX12_arounds_20 (lv_at hl 6 rfl) ?_
    refine gA_int (gA_runV (As := [.int p1, .int p2, .int p3, .int p4]) (rest := []) (ci := 12) (q0 := 0) hx hb hml hown hg hP hD hK hS hA hnw hgk (hk_s_inside H.size ad kk V L p1 p2 p3 p4 hMV (by first | omega | ((try (have i_rt := Imp.go rt (by omega))); omega)) (by first | omega | ((try (have i_rt := Imp.go rt (by omega))); omega)) (by first | omega | ((try (have i_rt := Imp.go rt (by omega))); omega)) rt (show (V 0 65).toInt ≤ (V 0 60).toInt from by first | omega | ((try (have i_rt := Imp.go rt (by omega))); omega)) (show (V 0 95).toInt ≤ (V 0 65).toInt from by first | omega | ((try (have i_rt := Imp.go rt (by omega))); omega)) (show (V 0 73).toInt + (V 0 95).toInt - (V 0 65).toInt ≤ 999000 from by first | omega | ((try (have i_rt := Imp.go rt (by omega))); omega)) (show (V 0 76).toInt - (V 0 69).toInt - (V 0 73).toInt ≤ 1000000000 from by first | omega | ((try (have i_rt := Imp.go rt (by omega))); omega)) (show 300 - (V 0 60).toInt ≤ ((d1 : Nat) : Int) from by first | omega | ((try (have i_rt := Imp.go rt (by omega))); omega)) (show 10 - (V 0 93).toInt ≤ ((d2 : Nat) : Int) from by first | omega | ((try (have i_rt := Imp.go rt (by omega))); omega)) (show p1.toInt < (V 0 60).toInt from by first | omega | ((try (have i_rt := Imp.go rt (by omega))); omega)) (show (V 0 98).toInt + 400 * ((d2 : Nat) : Int) + 30 ≤ 19000 from by first | omega | ((try (have i_rt := Imp.go rt (by omega))); omega))) w2296 w2298 w142 w172 w2299 rfl rfl hdV_yX12_inside ⟨(by show (4 * (d1) + 40 * (d2) + 13) + 1 ≤ (4 * d1 + 40 * d2 + 14 + 2 * d3); omega), (by show 8 + (11 + 11) + (100 * (d1) + 1000 * (d2) + 500) ≤ (100 * d1 + 1000 * d2 + 560 + 60 * d3); omega)⟩ rfl hl.1 rfl (Nat.le_of_ble_eq_true rfl) dX12_arounds_22 ⟨Nat.le_of_ble_eq_true rfl, Nat.le_of_ble_eq_true rfl⟩) hP hD hK hS hA (fun z65 u66 H locs w67 hP hD hK hS => ?_)
    obtain ⟨V81, L82⟩ := u66
    obtain ⟨hMV81, ajV81, axL82, rgz65, t68, t69, t70, t71, t72, t73, t74, t75, t76, t77, t78, t79, t80⟩ := w67
    have axL82 : L = L82 := Eq.symm axL82
    subst axL82
    have hP : va_P D vwCl (mw ad kk ks.1 V81 L) H := hP
    have hD : va_D A (mw ad kk ks.1 V81 L) := hD
    have hMV81 : rgd bM V81 := hMV81
    have ajV81 : agr [(0, 60), (0, 65), (0, 68), (0, 69), (0, 73), (0, 76), (0, 90), (0, 91), (0, 92), (0, 93), (0, 95), (0, 96), (0, 98)] [59, 61, 62, 63, 64, 66, 67, 74, 75, 77, 78, 79, 80, 94, 97] V V81 := ajV81
    have agV81 : agr [(0, 60), (0, 65), (0, 68), (0, 69), (0, 73), (0, 76), (0, 90), (0, 91), (0, 92), (0, 93), (0, 95), (0, 96), (0, 98)] [59, 61, 62, 63, 64, 66, 67, 74, 75, 77, 78, 79, 80, 94, 97] V V81 := agV.tr ajV81 (by decide) (by decide)
    have rgz65 : 0 ≤ z65.toInt ∧ z65.toInt ≤ 2 := rgz65
    have t68 : (V81 0 93).toInt = (V 0 93).toInt := t68
    have t69 : (V81 0 98).toInt = (V 0 98).toInt := t69
    have t70 : (V 0 60).toInt ≤ (V81 0 60).toInt := t70
    have t71 : (V 0 65).toInt ≤ (V81 0 65).toInt := t71
    have t72 : (V81 0 65).toInt - (V 0 65).toInt ≤ (V81 0 60).toInt - (V 0 60).toInt := t72
    have t73 : (V81 0 73).toInt + (V81 0 95).toInt - (V81 0 65).toInt ≤ (V 0 73).toInt + (V 0 95).toInt - (V 0 65).toInt := t73
    have t74 : (V 0 73).toInt ≤ (V81 0 73).toInt := t74
    have t75 : (V 0 69).toInt ≤ (V81 0 69).toInt := t75
    have t76 : (V81 0 95).toInt = (V 0 95).toInt := t76
    have t77 : (V81 0 76).toInt - (V81 0 69).toInt - (V81 0 73).toInt ≤ (V 0 76).toInt - (V 0 69).toInt - (V 0 73).toInt + 1 := t77
    have t78 : Imp (z65.toInt ≠ 2) ((V81 0 76).toInt - (V81 0 69).toInt - (V81 0 73).toInt ≤ (V 0 76).toInt - (V 0 69).toInt - (V 0 73).toInt) := t78
    have t79 : RT V81 := t79
    have t80 : FRM V V81 (-1) := t80
    have r83 : 0 ≤ ((V81 0 93)).toInt ∧ ((V81 0 93)).toInt ≤ 10 := hMV81 0 93
    have r84 : 0 ≤ ((V81 0 98)).toInt ∧ ((V81 0 98)).toInt ≤ 20000 := hMV81 0 98
    have r85 : 0 ≤ ((V81 0 60)).toInt ∧ ((V81 0 60)).toInt ≤ 300 := hMV81 0 60
    have r86 : 0 ≤ ((V81 0 65)).toInt ∧ ((V81 0 65)).toInt ≤ 1000000 := hMV81 0 65
    have r87 : 0 ≤ ((V81 0 73)).toInt ∧ ((V81 0 73)).toInt ≤ 1000000 := hMV81 0 73
    have r88 : 0 ≤ ((V81 0 95)).toInt ∧ ((V81 0 95)).toInt ≤ 300 := hMV81 0 95
    have r89 : 0 ≤ ((V81 0 69)).toInt ∧ ((V81 0 69)).toInt ≤ 3000 := hMV81 0 69
    have r90 : 0 ≤ ((V81 0 76)).toInt ∧ ((V81 0 76)).toInt ≤ 2000000000 := hMV81 0 76
    have fm91 : FRM V V81 (-1) := (t80 : FRM V V81 (-1))
    exact W.iret (v := z65) hx hb hr (fun t ht hW => ⟨⟨z65, (V81, L), rfl, ⟨hMV81, agV81, rfl, (show 0 ≤ z65.toInt ∧ z65.toInt ≤ 2 from by first | omega | ((try (have i_t78 := Imp.go t78 (by omega))); (try (have i_rt := Imp.go rt (by omega))); (try (have i_rt := Imp.go rt (by omega))); (try (have i_t78 := Imp.go t78 (by omega))); omega)), (show (V81 0 93).toInt = (V 0 93).toInt from by first | omega | ((try (have i_t78 := Imp.go t78 (by omega))); (try (have i_rt := Imp.go rt (by omega))); (try (have i_rt := Imp.go rt (by omega))); (try (have i_t78 := Imp.go t78 (by omega))); omega)), (show (V81 0 98).toInt = (V 0 98).toInt from by first | omega | ((try (have i_t78 := Imp.go t78 (by omega))); (try (have i_rt := Imp.go rt (by omega))); (try (have i_rt := Imp.go rt (by omega))); (try (have i_t78 := Imp.go t78 (by omega))); omega)), (show (V 0 60).toInt ≤ (V81 0 60).toInt from by first | omega | ((try (have i_t78 := Imp.go t78 (by omega))); (try (have i_rt := Imp.go rt (by omega))); (try (have i_rt := Imp.go rt (by omega))); (try (have i_t78 := Imp.go t78 (by omega))); omega)), (show (V 0 65).toInt ≤ (V81 0 65).toInt from by first | omega | ((try (have i_t78 := Imp.go t78 (by omega))); (try (have i_rt := Imp.go rt (by omega))); (try (have i_rt := Imp.go rt (by omega))); (try (have i_t78 := Imp.go t78 (by omega))); omega)), (show (V81 0 65).toInt - (V 0 65).toInt ≤ (V81 0 60).toInt - (V 0 60).toInt from by first | omega | ((try (have i_t78 := Imp.go t78 (by omega))); (try (have i_rt := Imp.go rt (by omega))); (try (have i_rt := Imp.go rt (by omega))); (try (have i_t78 := Imp.go t78 (by omega))); omega)), (show (V81 0 73).toInt + (V81 0 95).toInt - (V81 0 65).toInt ≤ (V 0 73).toInt + (V 0 95).toInt - (V 0 65).toInt from by first | omega | ((try (have i_t78 := Imp.go t78 (by omega))); (try (have i_rt := Imp.go rt (by omega))); (try (have i_rt := Imp.go rt (by omega))); (try (have i_t78 := Imp.go t78 (by omega))); omega)), (show (V 0 73).toInt ≤ (V81 0 73).toInt from by first | omega | ((try (have i_t78 := Imp.go t78 (by omega))); (try (have i_rt := Imp.go rt (by omega))); (try (have i_rt := Imp.go rt (by omega))); (try (have i_t78 := Imp.go t78 (by omega))); omega)), (show (V 0 69).toInt ≤ (V81 0 69).toInt from by first | omega | ((try (have i_t78 := Imp.go t78 (by omega))); (try (have i_rt := Imp.go rt (by omega))); (try (have i_rt := Imp.go rt (by omega))); (try (have i_t78 := Imp.go t78 (by omega))); omega)), (show (V81 0 95).toInt = (V 0 95).toInt from by first | omega | ((try (have i_t78 := Imp.go t78 (by omega))); (try (have i_rt := Imp.go rt (by omega))); (try (have i_rt := Imp.go rt (by omega))); (try (have i_t78 := Imp.go t78 (by omega))); omega)), (show (V81 0 76).toInt - (V81 0 69).toInt - (V81 0 73).toInt ≤ (V 0 76).toInt - (V 0 69).toInt - (V 0 73).toInt + 1 from by first | omega | ((try (have i_t78 := Imp.go t78 (by omega))); (try (have i_rt := Imp.go rt (by omega))); (try (have i_rt := Imp.go rt (by omega))); (try (have i_t78 := Imp.go t78 (by omega))); omega)), (Imp.mk (fun hp => have hp : z65.toInt ≠ 2 := hp; (show (V81 0 76).toInt - (V81 0 69).toInt - (V81 0 73).toInt ≤ (V 0 76).toInt - (V 0 69).toInt - (V 0 73).toInt from by first | omega | ((try (have i_t78 := Imp.go t78 (by omega))); (try (have i_rt := Imp.go rt (by omega))); (try (have i_rt := Imp.go rt (by omega))); (try (have i_t78 := Imp.go t78 (by omega))); omega)))), t79, fm91⟩, by rw [ht]; exact hP, va_K.moved hW.alike hK, hD⟩, hS.F ht⟩) hS.2.2 dX12_arounds_25
