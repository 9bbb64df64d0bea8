theorem w2279 : Cond.code yX12_worksAround cX12_worksAround 13 (some .int) ∈ GW := gw_mem 2279 (by decide +kernel) rfl
theorem w2276 : Cond.methodLink RX12 538 yX12_worksAround ∈ GW := gw_mem 2276 (by decide +kernel) rfl
theorem w2278 : Cond.instanceMethod yX12_worksAround ∈ GW := gw_mem 2278 (by decide +kernel) rfl
theorem w137 : Cond.selects RX12 yX12_worksAround yX12_worksAround ∈ GW := gw_mem 137 (by decide +kernel) rfl
theorem hdV_yX12_worksAround : yX12_worksAround.cls = RX12 ∧ yX12_worksAround.cls ≠ "java/lang/invoke/MethodHandle" ∧ yX12_worksAround.cls ≠ "java/lang/invoke/VarHandle" ∧ (parseMethodDescriptor yX12_worksAround.desc).map (fun d => d.parameters.length) = some 6 := by decide +kernel
theorem w2323 : Cond.code yX12_calls cX12_calls 6 (some .int) ∈ GW := gw_mem 2323 (by decide +kernel) rfl
theorem w2320 : Cond.methodLink RX12 566 yX12_calls ∈ GW := gw_mem 2320 (by decide +kernel) rfl
theorem w2322 : Cond.instanceMethod yX12_calls ∈ GW := gw_mem 2322 (by decide +kernel) rfl
theorem w148 : Cond.selects RX12 yX12_calls yX12_calls ∈ GW := gw_mem 148 (by decide +kernel) rfl
theorem hdV_yX12_calls : yX12_calls.cls = RX12 ∧ yX12_calls.cls ≠ "java/lang/invoke/MethodHandle" ∧ yX12_calls.cls ≠ "java/lang/invoke/VarHandle" ∧ (parseMethodDescriptor yX12_calls.desc).map (fun d => d.parameters.length) = some 4 := by decide +kernel
theorem w2319 : Cond.code yX12_ofLate cX12_ofLate 11 (some .int) ∈ GW := gw_mem 2319 (by decide +kernel) rfl
theorem w2316 : Cond.methodLink RX12 563 yX12_ofLate ∈ GW := gw_mem 2316 (by decide +kernel) rfl
theorem w2318 : Cond.instanceMethod yX12_ofLate ∈ GW := gw_mem 2318 (by decide +kernel) rfl
theorem w147 : Cond.selects RX12 yX12_ofLate yX12_ofLate ∈ GW := gw_mem 147 (by decide +kernel) rfl
theorem hdV_yX12_ofLate : yX12_ofLate.cls = RX12 ∧ yX12_ofLate.cls ≠ "java/lang/invoke/MethodHandle" ∧ yX12_ofLate.cls ≠ "java/lang/invoke/VarHandle" ∧ (parseMethodDescriptor yX12_ofLate.desc).map (fun d => d.parameters.length) = some 6 := by decide +kernel
theorem dX12_works_0 : decode cX12_works 0 = .ok (.aload_n 0, 1) := by decide +kernel
theorem dX12_works_1 : decode cX12_works 1 = .ok (.iload_n 1, 1) := by decide +kernel
theorem dX12_works_2 : decode cX12_works 2 = .ok (.iload_n 2, 1) := by decide +kernel
theorem dX12_works_3 : decode cX12_works 3 = .ok (.iconst (-1), 1) := by decide +kernel
theorem dX12_works_4 : decode cX12_works 4 = .ok (.iload_n 3, 1) := by decide +kernel
theorem dX12_works_5 : decode cX12_works 5 = .ok (.iload 4, 2) := by decide +kernel
theorem dX12_works_7 : decode cX12_works 7 = .ok (.iconst 0, 1) := by decide +kernel
theorem dX12_works_8 : decode cX12_works 8 = .ok (.invokevirtual 538, 3) := by decide +kernel
theorem dX12_works_11 : decode cX12_works 11 = .ok (.ireturn, 1) := by decide +kernel
theorem dX12_ofNeed_0 : decode cX12_ofNeed 0 = .ok (.bipush 8, 2) := by decide +kernel
theorem dX12_ofNeed_2 : decode cX12_ofNeed 2 = .ok (.bipush 24, 2) := by decide +kernel
theorem dX12_ofNeed_4 : decode cX12_ofNeed 4 = .ok (.aload_n 0, 1) := by decide +kernel
theorem dX12_ofNeed_5 : decode cX12_ofNeed 5 = .ok (.getfield 286, 3) := by decide +kernel
theorem dX12_ofNeed_8 : decode cX12_ofNeed 8 = .ok (.imul, 1) := by decide +kernel
theorem dX12_ofNeed_9 : decode cX12_ofNeed 9 = .ok (.aload_n 0, 1) := by decide +kernel
theorem dX12_ofNeed_10 : decode cX12_ofNeed 10 = .ok (.getfield 164, 3) := by decide +kernel
theorem dX12_ofNeed_13 : decode cX12_ofNeed 13 = .ok (.iload_n 1, 1) := by decide +kernel
theorem dX12_ofNeed_14 : decode cX12_ofNeed 14 = .ok (.iaload, 1) := by decide +kernel
theorem dX12_ofNeed_15 : decode cX12_ofNeed 15 = .ok (.iadd, 1) := by decide +kernel
theorem dX12_ofNeed_16 : decode cX12_ofNeed 16 = .ok (.imul, 1) := by decide +kernel
theorem dX12_ofNeed_17 : decode cX12_ofNeed 17 = .ok (.iload_n 2, 1) := by decide +kernel
theorem dX12_ofNeed_18 : decode cX12_ofNeed 18 = .ok (.iadd, 1) := by decide +kernel
theorem dX12_ofNeed_19 : decode cX12_ofNeed 19 = .ok (.istore 6, 2) := by decide +kernel
theorem dX12_ofNeed_21 : decode cX12_ofNeed 21 = .ok (.aload_n 0, 1) := by decide +kernel
theorem dX12_ofNeed_22 : decode cX12_ofNeed 22 = .ok (.getfield 92, 3) := by decide +kernel
theorem dX12_ofNeed_25 : decode cX12_ofNeed 25 = .ok (.iload 6, 2) := by decide +kernel
theorem dX12_ofNeed_27 : decode cX12_ofNeed 27 = .ok (.baload, 1) := by decide +kernel
theorem dX12_ofNeed_28 : decode cX12_ofNeed 28 = .ok (.ifCond .eq 17, 3) := by decide +kernel
theorem dX12_ofNeed_45 : decode cX12_ofNeed 45 = .ok (.iconst 0, 1) := by decide +kernel
theorem dX12_ofNeed_46 : decode cX12_ofNeed 46 = .ok (.istore 7, 2) := by decide +kernel
theorem dX12_ofNeed_48 : decode cX12_ofNeed 48 = .ok (.iconst 0, 1) := by decide +kernel
theorem dX12_ofNeed_49 : decode cX12_ofNeed 49 = .ok (.istore 8, 2) := by decide +kernel
theorem dX12_ofNeed_51 : decode cX12_ofNeed 51 = .ok (.iload 8, 2) := by decide +kernel
theorem dX12_ofNeed_53 : decode cX12_ofNeed 53 = .ok (.aload_n 0, 1) := by decide +kernel
theorem dX12_ofNeed_54 : decode cX12_ofNeed 54 = .ok (.getfield 176, 3) := by decide +kernel
theorem dX12_ofNeed_57 : decode cX12_ofNeed 57 = .ok (.bipush 8, 2) := by decide +kernel
theorem dX12_ofNeed_59 : decode cX12_ofNeed 59 = .ok (.iload_n 1, 1) := by decide +kernel
theorem dX12_ofNeed_60 : decode cX12_ofNeed 60 = .ok (.imul, 1) := by decide +kernel
theorem dX12_ofNeed_61 : decode cX12_ofNeed 61 = .ok (.iload_n 2, 1) := by decide +kernel
theorem dX12_ofNeed_62 : decode cX12_ofNeed 62 = .ok (.iadd, 1) := by decide +kernel
theorem dX12_ofNeed_63 : decode cX12_ofNeed 63 = .ok (.iaload, 1) := by decide +kernel
theorem dX12_ofNeed_64 : decode cX12_ofNeed 64 = .ok (.if_icmp .ge 54, 3) := by decide +kernel
theorem dX12_ofNeed_118 : decode cX12_ofNeed 118 = .ok (.aload_n 0, 1) := by decide +kernel
theorem dX12_ofNeed_119 : decode cX12_ofNeed 119 = .ok (.iload 7, 2) := by decide +kernel
theorem dX12_ofNeed_121 : decode cX12_ofNeed 121 = .ok (.putfield 545, 3) := by decide +kernel
theorem dX12_ofNeed_124 : decode cX12_ofNeed 124 = .ok (.iconst 0, 1) := by decide +kernel
theorem dX12_ofNeed_125 : decode cX12_ofNeed 125 = .ok (.ireturn, 1) := by decide +kernel
theorem dX12_ofNeed_67 : decode cX12_ofNeed 67 = .ok (.aload_n 0, 1) := by decide +kernel
theorem dX12_ofNeed_68 : decode cX12_ofNeed 68 = .ok (.aload_n 0, 1) := by decide +kernel
theorem dX12_ofNeed_69 : decode cX12_ofNeed 69 = .ok (.getfield 180, 3) := by decide +kernel
theorem dX12_ofNeed_72 : decode cX12_ofNeed 72 = .ok (.bipush 24, 2) := by decide +kernel
theorem dX12_ofNeed_74 : decode cX12_ofNeed 74 = .ok (.bipush 8, 2) := by decide +kernel
theorem dX12_ofNeed_76 : decode cX12_ofNeed 76 = .ok (.iload_n 1, 1) := by decide +kernel
theorem dX12_ofNeed_77 : decode cX12_ofNeed 77 = .ok (.imul, 1) := by decide +kernel
theorem dX12_ofNeed_78 : decode cX12_ofNeed 78 = .ok (.iload_n 2, 1) := by decide +kernel
theorem dX12_ofNeed_79 : decode cX12_ofNeed 79 = .ok (.iadd, 1) := by decide +kernel
theorem dX12_ofNeed_80 : decode cX12_ofNeed 80 = .ok (.imul, 1) := by decide +kernel
theorem dX12_ofNeed_81 : decode cX12_ofNeed 81 = .ok (.iload 8, 2) := by decide +kernel
theorem dX12_ofNeed_83 : decode cX12_ofNeed 83 = .ok (.iadd, 1) := by decide +kernel
theorem dX12_ofNeed_84 : decode cX12_ofNeed 84 = .ok (.iaload, 1) := by decide +kernel
theorem dX12_ofNeed_85 : decode cX12_ofNeed 85 = .ok (.iload_n 3, 1) := by decide +kernel
theorem dX12_ofNeed_86 : decode cX12_ofNeed 86 = .ok (.iload 4, 2) := by decide +kernel
theorem dX12_ofNeed_88 : decode cX12_ofNeed 88 = .ok (.iload 5, 2) := by decide +kernel
theorem dX12_ofNeed_90 : decode cX12_ofNeed 90 = .ok (.invokevirtual 566, 3) := by decide +kernel
theorem dX12_ofNeed_93 : decode cX12_ofNeed 93 = .ok (.istore 9, 2) := by decide +kernel
theorem dX12_ofNeed_95 : decode cX12_ofNeed 95 = .ok (.iload 9, 2) := by decide +kernel
theorem dX12_ofNeed_97 : decode cX12_ofNeed 97 = .ok (.ifCond .le 6, 3) := by decide +kernel
theorem dX12_ofNeed_103 : decode cX12_ofNeed 103 = .ok (.iload 7, 2) := by decide +kernel
theorem dX12_ofNeed_105 : decode cX12_ofNeed 105 = .ok (.aload_n 0, 1) := by decide +kernel
theorem dX12_ofNeed_106 : decode cX12_ofNeed 106 = .ok (.getfield 545, 3) := by decide +kernel
theorem dX12_ofNeed_109 : decode cX12_ofNeed 109 = .ok (.iadd, 1) := by decide +kernel
theorem dX12_ofNeed_110 : decode cX12_ofNeed 110 = .ok (.istore 7, 2) := by decide +kernel
theorem dX12_ofNeed_112 : decode cX12_ofNeed 112 = .ok (.iinc 8 1, 3) := by decide +kernel
theorem dX12_ofNeed_115 : decode cX12_ofNeed 115 = .ok (.goto (-64), 3) := by decide +kernel
theorem dX12_ofNeed_100 : decode cX12_ofNeed 100 = .ok (.iload 9, 2) := by decide +kernel
theorem dX12_ofNeed_102 : decode cX12_ofNeed 102 = .ok (.ireturn, 1) := by decide +kernel
theorem dX12_ofNeed_31 : decode cX12_ofNeed 31 = .ok (.aload_n 0, 1) := by decide +kernel
theorem dX12_ofNeed_32 : decode cX12_ofNeed 32 = .ok (.iload_n 1, 1) := by decide +kernel
theorem dX12_ofNeed_33 : decode cX12_ofNeed 33 = .ok (.iload_n 2, 1) := by decide +kernel
theorem dX12_ofNeed_34 : decode cX12_ofNeed 34 = .ok (.iload 6, 2) := by decide +kernel
theorem dX12_ofNeed_36 : decode cX12_ofNeed 36 = .ok (.iload_n 3, 1) := by decide +kernel
theorem dX12_ofNeed_37 : decode cX12_ofNeed 37 = .ok (.iload 4, 2) := by decide +kernel
theorem dX12_ofNeed_39 : decode cX12_ofNeed 39 = .ok (.iload 5, 2) := by decide +kernel
theorem dX12_ofNeed_41 : decode cX12_ofNeed 41 = .ok (.invokevirtual 563, 3) := by decide +kernel
theorem dX12_ofNeed_44 : decode cX12_ofNeed 44 = .ok (.ireturn, 1) := by decide +kernel
abbrev q_s_works (D : va_G) (ks : KS) (ad : Nat → Nat) (kk : Nat → ClassId) (V : Vf) (L : Lf) (p0 : Int32) (p1 : Int32) (p2 : Int32) (p3 : Int32) (p4 : Int32) (nd : Int) (lo : Nat) (hi : Nat) (A : Nat → Prop) : Array Value → State → Outcome → State → Prop := va_Qi (fun (r : Int32) (u : Vf × Lf) => rgd bM u.1 ∧ agr [(0, 60), (0, 65), (0, 68), (0, 69), (0, 73), (0, 76), (0, 90), (0, 91), (0, 92), (0, 93), (0, 95), (0, 96), (0, 98)] [59, 61, 62, 63, 64, 66, 67, 74, 75, 77, 78, 79, 80, 94, 97] V u.1 ∧ u.2 = L ∧ (0 ≤ r.toInt ∧ r.toInt ≤ 2) ∧ ((u.1 0 93).toInt = (V 0 93).toInt) ∧ ((u.1 0 98).toInt = (V 0 98).toInt) ∧ ((V 0 60).toInt ≤ (u.1 0 60).toInt) ∧ ((V 0 65).toInt ≤ (u.1 0 65).toInt) ∧ ((u.1 0 65).toInt - (V 0 65).toInt ≤ (u.1 0 60).toInt - (V 0 60).toInt) ∧ ((u.1 0 73).toInt + (u.1 0 95).toInt - (u.1 0 65).toInt ≤ (V 0 73).toInt + (V 0 95).toInt - (V 0 65).toInt) ∧ ((V 0 73).toInt ≤ (u.1 0 73).toInt) ∧ ((V 0 69).toInt ≤ (u.1 0 69).toInt) ∧ ((u.1 0 95).toInt = (V 0 95).toInt) ∧ ((u.1 0 76).toInt - (u.1 0 69).toInt - (u.1 0 73).toInt ≤ (V 0 76).toInt - (V 0 69).toInt - (V 0 73).toInt) ∧ (Imp (r.toInt ≠ 2) ((u.1 0 76).toInt - (u.1 0 69).toInt - (u.1 0 73).toInt + 1 ≤ (V 0 76).toInt - (V 0 69).toInt - (V 0 73).toInt)) ∧ (RT u.1) ∧ (FRM V u.1 (-1))) (fun u t => gq D A (mw ad kk ks.1 u.1 u.2) (mty kk) t) A
def K_s_works (l : Launch) (D : va_G) (ks : KS) (d1 d2 : Nat) : Prop := ∀ (sz : Nat) (ad : Nat → Nat) (kk : Nat → ClassId) (V : Vf) (L : Lf) (p0 : Int32) (p1 : Int32) (p2 : Int32) (p3 : Int32) (p4 : Int32) (nd : Int) (lo : Nat) (hi : Nat) (hMV : rgd bM V) (rg_p0 : 0 ≤ p0.toInt ∧ p0.toInt ≤ 19999) (rg_p1 : 0 ≤ p1.toInt ∧ p1.toInt ≤ 299) (rg_p2 : 0 ≤ p2.toInt ∧ p2.toInt ≤ 39) (rt : RT V) (n1 : (V 0 65).toInt ≤ (V 0 60).toInt) (n2 : (V 0 95).toInt ≤ (V 0 65).toInt) (n3 : (V 0 73).toInt + (V 0 95).toInt - (V 0 65).toInt ≤ 999000) (n4 : (V 0 76).toInt - (V 0 69).toInt - (V 0 73).toInt ≤ 1000000001) (n5 : 300 - (V 0 60).toInt ≤ (d1 : Int)) (n6 : 10 - (V 0 93).toInt ≤ (d2 : Int)) (oq1 : p1.toInt < (V 0 60).toInt) (n7 : (V 0 98).toInt + 400 * (d2 : Int) + 30 ≤ 19000) (ce : CE nd false V lo hi (Int32.toNatClampNeg p0)) (hq : (hi : Int) ≤ 20000) (ndq : nd ≤ (V 27 (24 * nwh V + Int32.toNatClampNeg (V 61 (Int32.toNatClampNeg p1)))).toInt) , Met l yX12_works (Cond.code yX12_works cX12_works 6 (some .int) :: GW) (rK2 (4 * d1 + 40 * d2 + 12) (100 * d1 + 1000 * d2 + 460)) (va_Pc [.ref (ad 0), .int p0, .int p1, .int p2, .int p3, .int p4] (gp D ks (mw ad kk ks.1 V L) (mty kk) sz)) (q_s_works D ks ad kk V L p0 p1 p2 p3 p4 nd lo hi (va_A (mw ad kk ks.1 V L) sz)) 0 0 (va_A (mw ad kk ks.1 V L) sz)
set_option maxHeartbeats 4000000 in
set_option maxRecDepth 100000 in
theorem s_works {l : Launch} {D : va_G} {ks : KS} {d1 d2 : Nat} (hk_s_wA0 : K_s_wA0 l D ks d1 d2) : K_s_works l D ks d1 d2 := by
  intro sz ad kk V L p0 p1 p2 p3 p4 nd lo hi hMV rg_p0 rg_p1 rg_p2 rt n1 n2 n3 n4 n5 n6 oq1 n7 ce hq ndq
  refine g_met (q_s_works D ks ad kk V L p0 p1 p2 p3 p4 nd lo hi) (by decide) (Nat.le_of_ble_eq_true rfl) ?_
  intro p e s m below meth c A ls H locs hx hb hr hml hown hg hlocks hin hnw hgk hP hK hD hS hA hl
  have hown : s.vm.findClass RX12 = some m.cls := hown
  have hl : lv_has ls 6 [(0, .ref (ad 0)), (1, .int p0), (2, .int p1), (3, .int p2), (4, .int p3), (5, .int p4)] := hl
  have hP : va_P D vwCl (mw ad kk ks.1 V L) H := hP
  have hD : va_D A (mw ad kk ks.1 V L) := hD
  have hK : va_K D vwCl (mty kk) s := hK
  have agV : agr [(0, 60), (0, 65), (0, 68), (0, 69), (0, 73), (0, 76), (0, 90), (0, 91), (0, 92), (0, 93), (0, 95), (0, 96), (0, 98)] [59, 61, 62, 63, 64, 66, 67, 74, 75, 77, 78, 79, 80, 94, 97] V V := agr.rf
  have r1 : 0 ≤ ((V 0 65)).toInt ∧ ((V 0 65)).toInt ≤ 1000000 := hMV 0 65
  have r2 : 0 ≤ ((V 0 60)).toInt ∧ ((V 0 60)).toInt ≤ 300 := hMV 0 60
  have r3 : 0 ≤ ((V 0 95)).toInt ∧ ((V 0 95)).toInt ≤ 300 := hMV 0 95
  have r4 : 0 ≤ ((V 0 73)).toInt ∧ ((V 0 73)).toInt ≤ 1000000 := hMV 0 73
  have r5 : 0 ≤ ((V 0 76)).toInt ∧ ((V 0 76)).toInt ≤ 2000000000 := hMV 0 76
  have r6 : 0 ≤ ((V 0 69)).toInt ∧ ((V 0 69)).toInt ≤ 3000 := hMV 0 69
  have r7 : 0 ≤ ((V 0 93)).toInt ∧ ((V 0 93)).toInt ≤ 10 := hMV 0 93
  have r8 : 0 ≤ ((V 0 98)).toInt ∧ ((V 0 98)).toInt ≤ 20000 := hMV 0 98
  refine lv_aload_n hx hb dX12_works_0 rfl (lv_at hl 0 rfl) ?_
  refine lv_iload_n hx hb dX12_works_1 rfl (lv_at hl 1 rfl) ?_
  refine lv_iload_n hx hb dX12_works_2 rfl (lv_at hl 2 rfl) ?_
  refine lv_iconst (v := (-1)) hx hb dX12_works_3 (by decide) ?_
  refine lv_iload_n hx hb dX12_works_4 rfl (lv_at hl 3 rfl) ?_
  refine lv_iload hx hb dX12_works_5 (lv_at hl 4 rfl) ?_
  refine lv_iconst (v := 0) hx hb dX12_works_7 (by decide) ?_
  have r9 : Int32.toInt (-1) = (-1) := by decide
  have r10 : Int32.toInt 0 = 0 := by decide
  refine gA_int (gA_runV (As := [.int p0, .int p1, .int (-1), .int p2, .int p3, .int 0]) (rest := []) (ci := 12) (q0 := 0) hx hb hml hown hg hP hD hK hS hA hnw hgk (hk_s_wA0 H.size ad kk V L p0 p1 (-1) p2 p3 0 (nd) (lo) (hi) hMV (by first | omega | ((try (have i_ndq := Imp.go ndq (by omega))); (try (have i_ce := Imp.go ce (by omega))); (try (have i_rt := Imp.go rt (by omega))); (try (have i_rt := Imp.go rt (by omega))); (try (have i_ce := Imp.go ce (by omega))); (try (have i_ndq := Imp.go ndq (by omega))); omega)) (by first | omega | ((try (have i_ndq := Imp.go ndq (by omega))); (try (have i_ce := Imp.go ce (by omega))); (try (have i_rt := Imp.go rt (by omega))); (try (have i_rt := Imp.go rt (by omega))); (try (have i_ce := Imp.go ce (by omega))); (try (have i_ndq := Imp.go ndq (by omega))); omega)) (by first | omega | ((try (have i_ndq := Imp.go ndq (by omega))); (try (have i_ce := Imp.go ce (by omega))); (try (have i_rt := Imp.go rt (by omega))); (try (have i_rt := Imp.go rt (by omega))); (try (have i_ce := Imp.go ce (by omega))); (try (have i_ndq := Imp.go ndq (by omega))); omega)) rt (show (V 0 65).toInt ≤ (V 0 60).toInt from by first | omega | ((try (have i_ndq := Imp.go ndq (by omega))); (try (have i_ce := Imp.go ce (by omega))); (try (have i_rt := Imp.go rt (by omega))); (try (have i_rt := Imp.go rt (by omega))); (try (have i_ce := Imp.go ce (by omega))); (try (have i_ndq := Imp.go ndq (by omega))); omega)) (show (V 0 95).toInt ≤ (V 0 65).toInt from by first | omega | ((try (have i_ndq := Imp.go ndq (by omega))); (try (have i_ce := Imp.go ce (by omega))); (try (have i_rt := Imp.go rt (by omega))); (try (have i_rt := Imp.go rt (by omega))); (try (have i_ce := Imp.go ce (by omega))); (try (have i_ndq := Imp.go ndq (by omega))); omega)) (show (V 0 73).toInt + (V 0 95).toInt - (V 0 65).toInt ≤ 999000 from by first | omega | ((try (have i_ndq := Imp.go ndq (by omega))); (try (have i_ce := Imp.go ce (by omega))); (try (have i_rt := Imp.go rt (by omega))); (try (have i_rt := Imp.go rt (by omega))); (try (have i_ce := Imp.go ce (by omega))); (try (have i_ndq := Imp.go ndq (by omega))); omega)) (show (V 0 76).toInt - (V 0 69).toInt - (V 0 73).toInt ≤ 1000000001 from by first | omega | ((try (have i_ndq := Imp.go ndq (by omega))); (try (have i_ce := Imp.go ce (by omega))); (try (have i_rt := Imp.go rt (by omega))); (try (have i_rt := Imp.go rt (by omega))); (try (have i_ce := Imp.go ce (by omega))); (try (have i_ndq := Imp.go ndq (by omega))); omega)) (show 300 - (V 0 60).toInt ≤ ((d1 : Nat) : Int) from by first | omega | ((try (have i_ndq := Imp.go ndq (by omega))); (try (have i_ce := Imp.go ce (by omega))); (try (have i_rt := Imp.go rt (by omega))); (try (have i_rt := Imp.go rt (by omega))); (try (have i_ce := Imp.go ce (by omega))); (try (have i_ndq := Imp.go ndq (by omega))); omega)) (show 10 - (V 0 93).toInt ≤ ((d2 : Nat) : Int) from by first | omega | ((try (have i_ndq := Imp.go ndq (by omega))); (try (have i_ce := Imp.go ce (by omega))); (try (have i_rt := Imp.go rt (by omega))); (try (have i_rt := Imp.go rt (by omega))); (try (have i_ce := Imp.go ce (by omega))); (try (have i_ndq := Imp.go ndq (by omega))); omega)) (show p1.toInt < (V 0 60).toInt from by first | omega | ((try (have i_ndq := Imp.go ndq (by omega))); (try (have i_ce := Imp.go ce (by omega))); (try (have i_rt := Imp.go rt (by omega))); (try (have i_rt := Imp.go rt (by omega))); (try (have i_ce := Imp.go ce (by omega))); (try (have i_ndq := Imp.go ndq (by omega))); omega)) (show (V 0 98).toInt + 400 * ((d2 : Nat) : Int) + 30 ≤ 19000 from by first | omega | ((try (have i_ndq := Imp.go ndq (by omega))); (try (have i_ce := Imp.go ce (by omega))); (try (have i_rt := Imp.go rt (by omega))); (try (have i_rt := Imp.go rt (by omega))); (try (have i_ce := Imp.go ce (by omega))); (try (have i_ndq := Imp.go ndq (by omega))); omega)) ce (show ((hi) : Int) ≤ 20000 from by first | omega | ((try (have i_ndq := Imp.go ndq (by omega))); (try (have i_ce := Imp.go ce (by omega))); (try (have i_rt := Imp.go rt (by omega))); (try (have i_rt := Imp.go rt (by omega))); (try (have i_ce := Imp.go ce (by omega))); (try (have i_ndq := Imp.go ndq (by omega))); omega)) ndq) w2276 w2278 w137 w172 w2279 rfl rfl hdV_yX12_worksAround ⟨(by show (4 * (d1) + 40 * (d2) + 11) + 1 ≤ (4 * d1 + 40 * d2 + 12); omega), (by show 8 + (13 + 11) + (100 * (d1) + 1000 * (d2) + 410) ≤ (100 * d1 + 1000 * d2 + 460); omega)⟩ rfl hl.1 rfl (Nat.le_of_ble_eq_true rfl) dX12_works_8 ⟨Nat.le_of_ble_eq_true rfl, Nat.le_of_ble_eq_true rfl⟩) hP hD hK hS hA (fun z11 u12 H locs w13 hP hD hK hS => ?_)
  obtain ⟨V27, L28⟩ := u12
  obtain ⟨hMV27, ajV27, axL28, rgz11, t14, t15, t16, t17, t18, t19, t20, t21, t22, t23, t24, t25, t26⟩ := w13
  have axL28 : L = L28 := Eq.symm axL28
  subst axL28
  have hP : va_P D vwCl (mw ad kk ks.1 V27 L) H := hP
  have hD : va_D A (mw ad kk ks.1 V27 L) := hD
  have hMV27 : rgd bM V27 := hMV27
  have ajV27 : agr [(0, 60), (0, 65), (0, 68), (0, 69), (0, 73), (0, 76), (0, 90), (0, 91), (0, 92), (0, 93), (0, 95), (0, 96), (0, 98)] [59, 61, 62, 63, 64, 66, 67, 74, 75, 77, 78, 79, 80, 94, 97] V V27 := ajV27
  have agV27 : agr [(0, 60), (0, 65), (0, 68), (0, 69), (0, 73), (0, 76), (0, 90), (0, 91), (0, 92), (0, 93), (0, 95), (0, 96), (0, 98)] [59, 61, 62, 63, 64, 66, 67, 74, 75, 77, 78, 79, 80, 94, 97] V V27 := agV.tr ajV27 (by decide) (by decide)
  have rgz11 : 0 ≤ z11.toInt ∧ z11.toInt ≤ 2 := rgz11
  have t14 : (V27 0 93).toInt = (V 0 93).toInt := t14
  have t15 : (V27 0 98).toInt = (V 0 98).toInt := t15
  have t16 : (V 0 60).toInt ≤ (V27 0 60).toInt := t16
  have t17 : (V 0 65).toInt ≤ (V27 0 65).toInt := t17
  have t18 : (V27 0 65).toInt - (V 0 65).toInt ≤ (V27 0 60).toInt - (V 0 60).toInt := t18
  have t19 : (V27 0 73).toInt + (V27 0 95).toInt - (V27 0 65).toInt ≤ (V 0 73).toInt + (V 0 95).toInt - (V 0 65).toInt := t19
  have t20 : (V 0 73).toInt ≤ (V27 0 73).toInt := t20
  have t21 : (V 0 69).toInt ≤ (V27 0 69).toInt := t21
  have t22 : (V27 0 95).toInt = (V 0 95).toInt := t22
  have t23 : (V27 0 76).toInt - (V27 0 69).toInt - (V27 0 73).toInt ≤ (V 0 76).toInt - (V 0 69).toInt - (V 0 73).toInt := t23
  have t24 : Imp (z11.toInt ≠ 2) ((V27 0 76).toInt - (V27 0 69).toInt - (V27 0 73).toInt + 1 ≤ (V 0 76).toInt - (V 0 69).toInt - (V 0 73).toInt) := t24
  have t25 : RT V27 := t25
  have t26 : FRM V V27 (-1) := t26
  have r29 : 0 ≤ ((V27 0 93)).toInt ∧ ((V27 0 93)).toInt ≤ 10 := hMV27 0 93
  have r30 : 0 ≤ ((V27 0 98)).toInt ∧ ((V27 0 98)).toInt ≤ 20000 := hMV27 0 98
  have r31 : 0 ≤ ((V27 0 60)).toInt ∧ ((V27 0 60)).toInt ≤ 300 := hMV27 0 60
  have r32 : 0 ≤ ((V27 0 65)).toInt ∧ ((V27 0 65)).toInt ≤ 1000000 := hMV27 0 65
  have r33 : 0 ≤ ((V27 0 73)).toInt ∧ ((V27 0 73)).toInt ≤ 1000000 := hMV27 0 73
  have r34 : 0 ≤ ((V27 0 95)).toInt ∧ ((V27 0 95)).toInt ≤ 300 := hMV27 0 95
  have r35 : 0 ≤ ((V27 0 69)).toInt ∧ ((V27 0 69)).toInt ≤ 3000 := hMV27 0 69
  have r36 : 0 ≤ ((V27 0 76)).toInt ∧ ((V27 0 76)).toInt ≤ 2000000000 := hMV27 0 76
  have fm37 : FRM V V27 (-1) := (t26 : FRM V V27 (-1))
  exact W.iret (v := z11) hx hb hr (fun t ht hW => ⟨⟨z11, (V27, L), rfl, ⟨hMV27, agV27, rfl, (show 0 ≤ z11.toInt ∧ z11.toInt ≤ 2 from by first | omega | ((try (have i_t24 := Imp.go t24 (by omega))); (try (have i_ndq := Imp.go ndq (by omega))); (try (have i_ce := Imp.go ce (by omega))); (try (have i_rt := Imp.go rt (by omega))); (try (have i_rt := Imp.go rt (by omega))); (try (have i_ce := Imp.go ce (by omega))); (try (have i_ndq := Imp.go ndq (by omega))); (try (have i_t24 := Imp.go t24 (by omega))); omega)), (show (V27 0 93).toInt = (V 0 93).toInt from by first | omega | ((try (have i_t24 := Imp.go t24 (by omega))); (try (have i_ndq := Imp.go ndq (by omega))); (try (have i_ce := Imp.go ce (by omega))); (try (have i_rt := Imp.go rt (by omega))); (try (have i_rt := Imp.go rt (by omega))); (try (have i_ce := Imp.go ce (by omega))); (try (have i_ndq := Imp.go ndq (by omega))); (try (have i_t24 := Imp.go t24 (by omega))); omega)), (show (V27 0 98).toInt = (V 0 98).toInt from by first | omega | ((try (have i_t24 := Imp.go t24 (by omega))); (try (have i_ndq := Imp.go ndq (by omega))); (try (have i_ce := Imp.go ce (by omega))); (try (have i_rt := Imp.go rt (by omega))); (try (have i_rt := Imp.go rt (by omega))); (try (have i_ce := Imp.go ce (by omega))); (try (have i_ndq := Imp.go ndq (by omega))); (try (have i_t24 := Imp.go t24 (by omega))); omega)), (show (V 0 60).toInt ≤ (V27 0 60).toInt from by first | omega | ((try (have i_t24 := Imp.go t24 (by omega))); (try (have i_ndq := Imp.go ndq (by omega))); (try (have i_ce := Imp.go ce (by omega))); (try (have i_rt := Imp.go rt (by omega))); (try (have i_rt := Imp.go rt (by omega))); (try (have i_ce := Imp.go ce (by omega))); (try (have i_ndq := Imp.go ndq (by omega))); (try (have i_t24 := Imp.go t24 (by omega))); omega)), (show (V 0 65).toInt ≤ (V27 0 65).toInt from by first | omega | ((try (have i_t24 := Imp.go t24 (by omega))); (try (have i_ndq := Imp.go ndq (by omega))); (try (have i_ce := Imp.go ce (by omega))); (try (have i_rt := Imp.go rt (by omega))); (try (have i_rt := Imp.go rt (by omega))); (try (have i_ce := Imp.go ce (by omega))); (try (have i_ndq := Imp.go ndq (by omega))); (try (have i_t24 := Imp.go t24 (by omega))); omega)), (show (V27 0 65).toInt - (V 0 65).toInt ≤ (V27 0 60).toInt - (V 0 60).toInt from by first | omega | ((try (have i_t24 := Imp.go t24 (by omega))); (try (have i_ndq := Imp.go ndq (by omega))); (try (have i_ce := Imp.go ce (by omega))); (try (have i_rt := Imp.go rt (by omega))); (try (have i_rt := Imp.go rt (by omega))); (try (have i_ce := Imp.go ce (by omega))); (try (have i_ndq := Imp.go ndq (by omega))); (try (have i_t24 := Imp.go t24 (by omega))); omega)), (show (V27 0 73).toInt + (V27 0 95).toInt - (V27 0 65).toInt ≤ (V 0 73).toInt + (V 0 95).toInt - (V 0 65).toInt from by first | omega | ((try (have i_t24 := Imp.go t24 (by omega))); (try (have i_ndq := Imp.go ndq (by omega))); (try (have i_ce := Imp.go ce (by omega))); (try (have i_rt := Imp.go rt (by omega))); (try (have i_rt := Imp.go rt (by omega))); (try (have i_ce := Imp.go ce (by omega))); (try (have i_ndq := Imp.go ndq (by omega))); (try (have i_t24 := Imp.go t24 (by omega))); omega)), (show (V 0 73).toInt ≤ (V27 0 73).toInt from by first | omega | ((try (have i_t24 := Imp.go t24 (by omega))); (try (have i_ndq := Imp.go ndq (by omega))); (try (have i_ce := Imp.go ce (by omega))); (try (have i_rt := Imp.go rt (by omega))); (try (have i_rt := Imp.go rt (by omega))); (try (have i_ce := Imp.go ce (by omega))); (try (have i_ndq := Imp.go ndq (by omega))); (try (have i_t24 := Imp.go t24 (by omega))); omega)), (show (V 0 69).toInt ≤ (V27 0 69).toInt from by first | omega | ((try (have i_t24 := Imp.go t24 (by omega))); (try (have i_ndq := Imp.go ndq (by omega))); (try (have i_ce := Imp.go ce (by omega))); (try (have i_rt := Imp.go rt (by omega))); (try (have i_rt := Imp.go rt (by omega))); (try (have i_ce := Imp.go ce (by omega))); (try (have i_ndq := Imp.go ndq (by omega))); (try (have i_t24 := Imp.go t24 (by omega))); omega)), (show (V27 0 95).toInt = (V 0 95).toInt from by first | omega | ((try (have i_t24 := Imp.go t24 (by omega))); (try (have i_ndq := Imp.go ndq (by omega))); (try (have i_ce := Imp.go ce (by omega))); (try (have i_rt := Imp.go rt (by omega))); (try (have i_rt := Imp.go rt (by omega))); (try (have i_ce := Imp.go ce (by omega))); (try (have i_ndq := Imp.go ndq (by omega))); (try (have i_t24 := Imp.go t24 (by omega))); omega)), (show (V27 0 76).toInt - (V27 0 69).toInt - (V27 0 73).toInt ≤ (V 0 76).toInt - (V 0 69).toInt - (V 0 73).toInt from by first | omega | ((try (have i_t24 := Imp.go t24 (by omega))); (try (have i_ndq := Imp.go ndq (by omega))); (try (have i_ce := Imp.go ce (by omega))); (try (have i_rt := Imp.go rt (by omega))); (try (have i_rt := Imp.go rt (by omega))); (try (have i_ce := Imp.go ce (by omega))); (try (have i_ndq := Imp.go ndq (by omega))); (try (have i_t24 := Imp.go t24 (by omega))); omega)), (Imp.mk (fun hp => have hp : z11.toInt ≠ 2 := hp; (show (V27 0 76).toInt - (V27 0 69).toInt - (V27 0 73).toInt + 1 ≤ (V 0 76).toInt - (V 0 69).toInt - (V 0 73).toInt from by first | omega | ((try (have i_t24 := Imp.go t24 (by omega))); (try (have i_ndq := Imp.go ndq (by omega))); (try (have i_ce := Imp.go ce (by omega))); (try (have i_rt := Imp.go rt (by omega))); (try (have i_rt := Imp.go rt (by omega))); (try (have i_ce := Imp.go ce (by omega))); (try (have i_ndq := Imp.go ndq (by omega))); (try (have i_t24 := Imp.go t24 (by omega))); omega)))), t25, fm37⟩, by rw [ht]; exact hP, va_K.moved hW.alike hK, hD⟩, hS.F ht⟩) hS.2.2 dX12_works_11
abbrev q_s_ofLate (D : va_G) (ks : KS) (ad : Nat → Nat) (kk : Nat → ClassId) (V : Vf) (L : Lf) (p0 : Int32) (p1 : Int32) (p2 : Int32) (p3 : Int32) (p4 : Int32) (p5 : Int32) (A : Nat → Prop) : Array Value → State → Outcome → State → Prop := va_Qi (fun (r : Int32) (u : Vf × Lf) => rgd bM u.1 ∧ agr [(0, 60), (0, 65), (0, 68), (0, 69), (0, 73), (0, 76), (0, 90), (0, 91), (0, 92), (0, 93), (0, 95), (0, 96), (0, 98)] [59, 61, 62, 63, 64, 66, 67, 74, 75, 77, 78, 79, 80, 94, 97] V u.1 ∧ u.2 = L ∧ (0 ≤ r.toInt ∧ r.toInt ≤ 2) ∧ ((u.1 0 93).toInt = (V 0 93).toInt) ∧ ((u.1 0 98).toInt = (V 0 98).toInt) ∧ ((V 0 60).toInt ≤ (u.1 0 60).toInt) ∧ ((V 0 65).toInt ≤ (u.1 0 65).toInt) ∧ ((u.1 0 65).toInt - (V 0 65).toInt ≤ (u.1 0 60).toInt - (V 0 60).toInt) ∧ ((u.1 0 73).toInt + (u.1 0 95).toInt - (u.1 0 65).toInt ≤ (V 0 73).toInt + (V 0 95).toInt - (V 0 65).toInt) ∧ ((V 0 73).toInt ≤ (u.1 0 73).toInt) ∧ ((V 0 69).toInt ≤ (u.1 0 69).toInt) ∧ ((u.1 0 95).toInt = (V 0 95).toInt) ∧ ((u.1 0 76).toInt - (u.1 0 69).toInt - (u.1 0 73).toInt ≤ (V 0 76).toInt - (V 0 69).toInt - (V 0 73).toInt) ∧ (RT u.1) ∧ (FRM V u.1 (-1))) (fun u t => gq D A (mw ad kk ks.1 u.1 u.2) (mty kk) t) A
def K_s_ofLate (l : Launch) (D : va_G) (ks : KS) (d1 d2 : Nat) : Prop := ∀ (sz : Nat) (ad : Nat → Nat) (kk : Nat → ClassId) (V : Vf) (L : Lf) (p0 : Int32) (p1 : Int32) (p2 : Int32) (p3 : Int32) (p4 : Int32) (p5 : Int32) (hMV : rgd bM V) (rg_p0 : 0 ≤ p0.toInt ∧ p0.toInt ≤ 299) (rg_p1 : 0 ≤ p1.toInt ∧ p1.toInt ≤ 7) (rg_p2 : 0 ≤ p2.toInt ∧ p2.toInt ≤ 383) (rg_p3 : 0 ≤ p3.toInt ∧ p3.toInt ≤ 19) (rg_p4 : 0 ≤ p4.toInt ∧ p4.toInt ≤ 39) (rt : RT V) (n1 : (V 0 65).toInt ≤ (V 0 60).toInt) (n2 : (V 0 95).toInt ≤ (V 0 65).toInt) (n3 : (V 0 73).toInt + (V 0 95).toInt - (V 0 65).toInt ≤ 999000) (n4 : (V 0 76).toInt - (V 0 69).toInt - (V 0 73).toInt ≤ 1000000000) (n5 : 300 - (V 0 60).toInt ≤ (d1 : Int)) (n6 : 10 - (V 0 93).toInt ≤ (d2 : Int)) (oq1 : p0.toInt < (V 0 60).toInt) (n7 : (V 0 98).toInt + 400 * (d2 : Int) ≤ 19000) (nq : p1.toInt < (V 27 (24 * nwh V + Int32.toNatClampNeg (V 61 (Int32.toNatClampNeg p0)))).toInt) (lt : (V 29 (Int32.toNatClampNeg p2)).toInt = 1) (nx2 : p2.toInt = 8 * (24 * (V 0 11).toInt + (V 61 (Int32.toNatClampNeg p0)).toInt) + p1.toInt) , Met l yX12_ofLate (Cond.code yX12_ofLate cX12_ofLate 11 (some .int) :: GW) (rK2 (4 * d1 + 40 * d2 + 9) (100 * d1 + 1000 * d2 + 350)) (va_Pc [.ref (ad 0), .int p0, .int p1, .int p2, .int p3, .int p4, .int p5] (gp D ks (mw ad kk ks.1 V L) (mty kk) sz)) (q_s_ofLate D ks ad kk V L p0 p1 p2 p3 p4 p5 (va_A (mw ad kk ks.1 V L) sz)) 0 0 (va_A (mw ad kk ks.1 V L) sz)
set_option maxHeartbeats 4000000 in
set_option maxRecDepth 100000 in
theorem s_ofNeed {l : Launch} {D : va_G} {ks : KS} {d1 d2 : Nat} (hk_s_calls : K_s_calls l D ks d1 d2) (hk_s_ofLate : K_s_ofLate l D ks d1 d2) : K_s_ofNeed l D ks d1 d2 := by
  intro sz ad kk V L p0 p1 p2 p3 p4 hMV rg_p0 rg_p1 rg_p2 rg_p3 rt n1 n2 n3 n4 n5 n6 oq1 n7 nq
  refine g_met (q_s_ofNeed D ks ad kk V L p0 p1 p2 p3 p4) (by decide) (Nat.le_of_ble_eq_true rfl) ?_
  intro p e s m below meth c A ls H locs hx hb hr hml hown hg hlocks hin hnw hgk hP hK hD hS hA hl
  have hown : s.vm.findClass RX12 = some m.cls := hown
  have hl : lv_has ls 10 [(0, .ref (ad 0)), (1, .int p0), (2, .int p1), (3, .int p2), (4, .int p3), (5, .int p4)] := hl
  have hP : va_P D vwCl (mw ad kk ks.1 V L) H := hP
  have hD : va_D A (mw ad kk ks.1 V L) := hD
  have hK : va_K D vwCl (mty kk) s := hK
  have agV : agr [(0, 60), (0, 65), (0, 68), (0, 69), (0, 73), (0, 76), (0, 90), (0, 91), (0, 92), (0, 93), (0, 95), (0, 96), (0, 98)] [59, 61, 62, 63, 64, 66, 67, 74, 75, 77, 78, 79, 80, 94, 97] V V := agr.rf
  have r1 : 0 ≤ ((V 0 65)).toInt ∧ ((V 0 65)).toInt ≤ 1000000 := hMV 0 65
  have r2 : 0 ≤ ((V 0 60)).toInt ∧ ((V 0 60)).toInt ≤ 300 := hMV 0 60
  have r3 : 0 ≤ ((V 0 95)).toInt ∧ ((V 0 95)).toInt ≤ 300 := hMV 0 95
  have r4 : 0 ≤ ((V 0 73)).toInt ∧ ((V 0 73)).toInt ≤ 1000000 := hMV 0 73
  have r5 : 0 ≤ ((V 0 76)).toInt ∧ ((V 0 76)).toInt ≤ 2000000000 := hMV 0 76
  have r6 : 0 ≤ ((V 0 69)).toInt ∧ ((V 0 69)).toInt ≤ 3000 := hMV 0 69
  have r7 : 0 ≤ ((V 0 93)).toInt ∧ ((V 0 93)).toInt ≤ 10 := hMV 0 93
  have r8 : 0 ≤ ((V 0 98)).toInt ∧ ((V 0 98)).toInt ≤ 20000 := hMV 0 98
  refine lv_bipush (v := 8) hx hb dX12_ofNeed_0 (by decide) ?_
  refine lv_bipush (v := 24) hx hb dX12_ofNeed_2 (by decide) ?_
  refine lv_aload_n hx hb dX12_ofNeed_4 rfl (lv_at hl 0 rfl) ?_
  refine va_get (D := D) (ci := 12) (v := .int (V 0 11)) (C := RX12) (T := TX12) (N := 100) hx hb hg inX12 hown hK hP 0 rfl rfl 11 (by decide) (hg _ w1721) (fun _ h9 => h9) rfl dX12_ofNeed_5 ?_
  have r9 : 0 ≤ ((V 0 11)).toInt ∧ ((V 0 11)).toInt ≤ 1 := hMV 0 11
  refine lv_imul hx hb dX12_ofNeed_8 ?_
  refine lv_topi (fun z10 ez10 => ?_)
  have hz10 : z10.toInt = 24 * ((V 0 11)).toInt := i_mul ez10 (by decide) rfl (by omega)
  refine lv_aload_n hx hb dX12_ofNeed_9 rfl (lv_at hl 0 rfl) ?_
  refine va_get (D := D) (ci := 12) (v := .ref (ad 61)) (C := RX12) (T := TX12) (N := 100) hx hb hg inX12 hown hK hP 0 rfl rfl 61 (by decide) (hg _ w1771) (fun _ h9 => h9) rfl dX12_ofNeed_10 ?_
  refine lv_iload_n hx hb dX12_ofNeed_13 rfl (lv_at hl 1 rfl) ?_
  refine va_iald (D := D) (i := p0) hx hb hK hP 46 45 rfl rfl (i_in (a := p0.toInt) rfl (by first | omega | ((try (have i_nq := Imp.go nq (by omega))); (try (have i_rt := Imp.go rt (by omega))); (try (have i_rt := Imp.go rt (by omega))); (try (have i_nq := Imp.go nq (by omega))); omega))) dX12_ofNeed_14 ?_
  have r11 : 0 ≤ ((V 61 (Int32.toNatClampNeg p0))).toInt ∧ ((V 61 (Int32.toNatClampNeg p0))).toInt ≤ 23 := hMV 61 (Int32.toNatClampNeg p0)
  refine lv_iadd hx hb dX12_ofNeed_15 ?_
  refine lv_topi (fun z12 ez12 => ?_)
  have hz12 : z12.toInt = z10.toInt + ((V 61 (Int32.toNatClampNeg p0))).toInt := i_add ez12 rfl rfl (by omega)
  refine lv_imul hx hb dX12_ofNeed_16 ?_
  refine lv_topi (fun z13 ez13 => ?_)
  have hz13 : z13.toInt = 8 * z12.toInt := i_mul ez13 (by decide) rfl (by omega)
  refine lv_iload_n hx hb dX12_ofNeed_17 rfl (lv_at hl 2 rfl) ?_
  refine lv_iadd hx hb dX12_ofNeed_18 ?_
  refine lv_topi (fun z14 ez14 => ?_)
  have hz14 : z14.toInt = z13.toInt + p1.toInt := i_add ez14 rfl rfl (by omega)
  refine lv_istore (lv' := [(6, .int z14), (0, .ref (ad 0)), (1, .int p0), (2, .int p1), (3, .int p2), (4, .int p3), (5, .int p4)]) hx hb dX12_ofNeed_19 hl (by decide) rfl (fun ls hl => ?_)
  refine lv_aload_n hx hb dX12_ofNeed_21 rfl (lv_at hl 1 rfl) ?_
  refine va_get (D := D) (ci := 12) (v := .ref (ad 29)) (C := RX12) (T := TX12) (N := 100) hx hb hg inX12 hown hK hP 0 rfl rfl 29 (by decide) (hg _ w1739) (fun _ h9 => h9) rfl dX12_ofNeed_22 ?_
  refine lv_iload hx hb dX12_ofNeed_25 (lv_at hl 0 rfl) ?_
  refine va_zald (D := D) (i := z14) hx hb hK hP 22 21 rfl rfl (i_in (a := z14.toInt) rfl (by first | omega | ((try (have i_nq := Imp.go nq (by omega))); (try (have i_rt := Imp.go rt (by omega))); (try (have i_rt := Imp.go rt (by omega))); (try (have i_nq := Imp.go nq (by omega))); omega))) dX12_ofNeed_27 ?_
  have r15 : 0 ≤ ((V 29 (Int32.toNatClampNeg z14))).toInt ∧ ((V 29 (Int32.toNatClampNeg z14))).toInt ≤ 1 := hMV 29 (Int32.toNatClampNeg z14)
  refine lv_if_eq (tgt := 45) hx hb dX12_ofNeed_28 (by decide) (fun c16 => ?_) (fun c16 => ?_)
  · skip
    have f17 : ((V 29 (Int32.toNatClampNeg z14))).toInt = 0 := b_eq rfl (by decide) c16
    refine lv_iconst (v := 0) hx hb dX12_ofNeed_45 (by decide) ?_
    refine lv_istore (lv' := [(7, .int 0), (6, .int z14), (0, .ref (ad 0)), (1, .int p0), (2, .int p1), (3, .int p2), (4, .int p3), (5, .int p4)]) hx hb dX12_ofNeed_46 hl (by decide) rfl (fun ls hl => ?_)
    refine lv_iconst (v := 0) hx hb dX12_ofNeed_48 (by decide) ?_
    refine lv_istore (lv' := [(8, .int 0), (7, .int 0), (6, .int z14), (0, .ref (ad 0)), (1, .int p0), (2, .int p1), (3, .int p2), (4, .int p3), (5, .int p4)]) hx hb dX12_ofNeed_49 hl (by decide) rfl (fun ls hl => ?_)
    have lp21 : ∀ (fulp21 : Nat) (y18 : Int32) (y19 : Int32) (V20 : Vf) (H : Heap) (locs : List Loc) (ls : Array Slot), 0 ≤ y18.toInt ∧ y18.toInt ≤ 24 → (V20 0 98).toInt = (V 0 98).toInt → (V20 0 93).toInt = (V 0 93).toInt → (V 0 60).toInt ≤ (V20 0 60).toInt → (V 0 65).toInt ≤ (V20 0 65).toInt → (V20 0 65).toInt - (V 0 65).toInt ≤ (V20 0 60).toInt - (V 0 60).toInt → (V20 0 73).toInt + (V20 0 95).toInt - (V20 0 65).toInt ≤ (V 0 73).toInt + (V 0 95).toInt - (V 0 65).toInt → (V 0 73).toInt ≤ (V20 0 73).toInt → (V 0 69).toInt ≤ (V20 0 69).toInt → (V20 0 95).toInt = (V 0 95).toInt → (V20 0 76).toInt - (V20 0 69).toInt - (V20 0 73).toInt ≤ (V 0 76).toInt - (V 0 69).toInt - (V 0 73).toInt → RT V20 → FRM V V20 (-1) → 24 - y18.toInt < (fulp21 : Int) → agr [(0, 60), (0, 65), (0, 68), (0, 69), (0, 73), (0, 76), (0, 90), (0, 91), (0, 92), (0, 93), (0, 95), (0, 96), (0, 98)] [59, 61, 62, 63, 64, 66, 67, 74, 75, 77, 78, 79, 80, 94, 97] V V20 → rgd bM V20 → va_P D vwCl (mw ad kk ks.1 V20 L) H → va_D A (mw ad kk ks.1 V20 L) → va_S A s.heap H locs → lv_has ls 10 [(8, .int y18), (7, .int y19), (6, .int z14), (0, .ref (ad 0)), (1, .int p0), (2, .int p1), (3, .int p2), (4, .int p3), (5, .int p4)] → W p l e (rK2 (4 * d1 + 40 * d2 + 10) (100 * d1 + 1000 * d2 + 380)) s m ([.ref (ad 0), .int p0, .int p1, .int p2, .int p3, .int p4] : List Value).toArray below meth c H locs 0 0 (MQ below (q_s_ofNeed D ks ad kk V L p0 p1 p2 p3 p4 A) ([.ref (ad 0), .int p0, .int p1, .int p2, .int p3, .int p4] : List Value).toArray s 0 0 A) (F0 m 51 ls []) := by
      intro fulp21
      induction fulp21 with
      | zero =>
        intro y18 y19 V20 H locs ls klp21_0 xlp21_0 xlp21_1 xlp21_2 xlp21_3 xlp21_4 xlp21_5 xlp21_6 xlp21_7 xlp21_8 xlp21_9 xlp21_10 xlp21_11 hn ajV20 hMV20 hP hD hS hl
        exfalso; omega
      | succ fulp21 ihlp21 =>
        intro y18 y19 V20 H locs ls klp21_0 xlp21_0 xlp21_1 xlp21_2 xlp21_3 xlp21_4 xlp21_5 xlp21_6 xlp21_7 xlp21_8 xlp21_9 xlp21_10 xlp21_11 hn ajV20 hMV20 hP hD hS hl
        have agV20 : agr [(0, 60), (0, 65), (0, 68), (0, 69), (0, 73), (0, 76), (0, 90), (0, 91), (0, 92), (0, 93), (0, 95), (0, 96), (0, 98)] [59, 61, 62, 63, 64, 66, 67, 74, 75, 77, 78, 79, 80, 94, 97] V V20 := agV.tr ajV20 (by decide) (by decide)
        have r22 : 0 ≤ ((V20 0 98)).toInt ∧ ((V20 0 98)).toInt ≤ 20000 := hMV20 0 98
        have r23 : 0 ≤ ((V20 0 93)).toInt ∧ ((V20 0 93)).toInt ≤ 10 := hMV20 0 93
        have r24 : 0 ≤ ((V20 0 60)).toInt ∧ ((V20 0 60)).toInt ≤ 300 := hMV20 0 60
        have r25 : 0 ≤ ((V20 0 65)).toInt ∧ ((V20 0 65)).toInt ≤ 1000000 := hMV20 0 65
        have r26 : 0 ≤ ((V20 0 73)).toInt ∧ ((V20 0 73)).toInt ≤ 1000000 := hMV20 0 73
        have r27 : 0 ≤ ((V20 0 95)).toInt ∧ ((V20 0 95)).toInt ≤ 300 := hMV20 0 95
        have r28 : 0 ≤ ((V20 0 69)).toInt ∧ ((V20 0 69)).toInt ≤ 3000 := hMV20 0 69
        have r29 : 0 ≤ ((V20 0 76)).toInt ∧ ((V20 0 76)).toInt ≤ 2000000000 := hMV20 0 76
        refine lv_iload hx hb dX12_ofNeed_51 (lv_at hl 0 rfl) ?_
        refine lv_aload_n hx hb dX12_ofNeed_53 rfl (lv_at hl 3 rfl) ?_
        refine va_get (D := D) (ci := 12) (v := .ref (ad 66)) (C := RX12) (T := TX12) (N := 100) hx hb hg inX12 hown hK hP 0 rfl rfl 66 (by decide) (hg _ w1776) (fun _ h9 => h9) rfl dX12_ofNeed_54 ?_
        refine lv_bipush (v := 8) hx hb dX12_ofNeed_57 (by decide) ?_
        refine lv_iload_n hx hb dX12_ofNeed_59 rfl (lv_at hl 4 rfl) ?_
        refine lv_imul hx hb dX12_ofNeed_60 ?_
        refine lv_topi (fun z30 ez30 => ?_)
        have hz30 : z30.toInt = 8 * p0.toInt := i_mul ez30 (by decide) rfl (by omega)
        refine lv_iload_n hx hb dX12_ofNeed_61 rfl (lv_at hl 5 rfl) ?_
        refine lv_iadd hx hb dX12_ofNeed_62 ?_
        refine lv_topi (fun z31 ez31 => ?_)
        have hz31 : z31.toInt = z30.toInt + p1.toInt := i_add ez31 rfl rfl (by omega)
        refine va_iald (D := D) (i := z31) hx hb hK hP 50 49 rfl rfl (i_in (a := z31.toInt) rfl (by first | omega | ((try (have i_nq := Imp.go nq (by omega))); (try (have i_rt := Imp.go rt (by omega))); (try (have i_rt := Imp.go rt (by omega))); (try (have i_nq := Imp.go nq (by omega))); omega))) dX12_ofNeed_63 ?_
        have r32 : 0 ≤ ((V20 66 (Int32.toNatClampNeg z31))).toInt ∧ ((V20 66 (Int32.toNatClampNeg z31))).toInt ≤ 24 := hMV20 66 (Int32.toNatClampNeg z31)
        refine lv_icmp_ge (tgt := 118) hx hb dX12_ofNeed_64 (by decide) (fun c33 => ?_) (fun c33 => ?_)
        · skip
          have f34 : ((V20 66 (Int32.toNatClampNeg z31))).toInt ≤ y18.toInt := b_le rfl rfl c33
          refine lv_aload_n hx hb dX12_ofNeed_118 rfl (lv_at hl 3 rfl) ?_
          refine lv_iload hx hb dX12_ofNeed_119 (lv_at hl 1 rfl) ?_
          refine va_put (D := D) (ci := 12) (v := .int y19) (ty := tyX12 96) (C := RX12) (T := TX12) (N := 100) hx hb hg inX12 tyX12 tyX12_ok nmX12 hown hK hP hD hS 0 rfl rfl 96 (by decide) (hg _ w1806) (fun _ h9 => h9) rfl (tyX12_ok 96 (by decide)) rfl rfl (Nat.le_of_ble_eq_true rfl) dX12_ofNeed_121 (fun H locs hP hD hS => ?_)
          obtain ⟨V35, hV35⟩ : ∃ z, z = up2 V20 0 96 y19 := ⟨_, rfl⟩
          have hP : va_P D vwCl (mw ad kk ks.1 V35 L) H := by rw [hV35]; exact hP
          have hD : va_D A (mw ad kk ks.1 V35 L) := by rw [hV35]; exact hD
          have hMV35 : rgd bM V35 := hMV20.put hV35 (i_full _)
          have agV35 : agr [(0, 60), (0, 65), (0, 68), (0, 69), (0, 73), (0, 76), (0, 90), (0, 91), (0, 92), (0, 93), (0, 95), (0, 96), (0, 98)] [59, 61, 62, 63, 64, 66, 67, 74, 75, 77, 78, 79, 80, 94, 97] V V35 := agV20.up hV35 rfl
          refine lv_iconst (v := 0) hx hb dX12_ofNeed_124 (by decide) ?_
          have pq36 : (V35 0 93).toInt = ((V20 0 93)).toInt := congrArg Int32.toInt (up2_k hV35 (by decide))
          have pq37 : (V35 0 98).toInt = ((V20 0 98)).toInt := congrArg Int32.toInt (up2_k hV35 (by decide))
          have pq38 : (V35 0 60).toInt = ((V20 0 60)).toInt := congrArg Int32.toInt (up2_k hV35 (by decide))
          have pq39 : (V35 0 65).toInt = ((V20 0 65)).toInt := congrArg Int32.toInt (up2_k hV35 (by decide))
          have pq40 : (V35 0 73).toInt = ((V20 0 73)).toInt := congrArg Int32.toInt (up2_k hV35 (by decide))
          have pq41 : (V35 0 95).toInt = ((V20 0 95)).toInt := congrArg Int32.toInt (up2_k hV35 (by decide))
          have pq42 : (V35 0 69).toInt = ((V20 0 69)).toInt := congrArg Int32.toInt (up2_k hV35 (by decide))
          have pq43 : (V35 0 76).toInt = ((V20 0 76)).toInt := congrArg Int32.toInt (up2_k hV35 (by decide))
          have rt44 : RT V35 := RT.ag xlp21_10 hMV20 (show agr [(0, 96)] [] V20 V35 from (agr.up agr.rf hV35 rfl)) ⟨⟨rfl, fun _ => rfl, fun _ => rfl, fun _ => rfl, fun _ => rfl, fun _ => rfl, fun _ => rfl⟩, by decide, by decide, rfl, rfl, fun _ => rfl, fun _ => rfl, fun _ => rfl, fun _ => rfl, fun _ => rfl, fun _ => rfl⟩ (c0k.ag (show agr [(0, 96)] [] V20 V35 from (agr.up agr.rf hV35 rfl)) rfl)
          have fm45 : FRM V V35 (-1) := (FRM.tr xlp21_11 (FRM.ag (show agr [(0, 96)] [] V20 V35 from (agr.up agr.rf hV35 rfl)) ⟨⟨rfl, fun _ => rfl, fun _ => rfl, fun _ => rfl, fun _ => rfl, fun _ => rfl, fun _ => rfl⟩, by decide, by decide, rfl, rfl, fun _ => rfl, fun _ => rfl, fun _ => rfl, fun _ => rfl, fun _ => rfl, fun _ => rfl⟩) agV20 ⟨rfl, fun _ => rfl, fun _ => rfl, fun _ => rfl, fun _ => rfl, fun _ => rfl, fun _ => rfl⟩ (by omega))
          exact W.iret (v := 0) hx hb hr (fun t ht hW => ⟨⟨0, (V35, L), rfl, ⟨hMV35, agV35, rfl, (by decide), (show (V35 0 93).toInt = (V 0 93).toInt from by first | omega | ((try (have i_nq := Imp.go nq (by omega))); (try (have i_rt := Imp.go rt (by omega))); (try (have i_rt := Imp.go rt (by omega))); (try (have i_nq := Imp.go nq (by omega))); omega)), (show (V35 0 98).toInt = (V 0 98).toInt from by first | omega | ((try (have i_nq := Imp.go nq (by omega))); (try (have i_rt := Imp.go rt (by omega))); (try (have i_rt := Imp.go rt (by omega))); (try (have i_nq := Imp.go nq (by omega))); omega)), (show (V 0 60).toInt ≤ (V35 0 60).toInt from by first | omega | ((try (have i_nq := Imp.go nq (by omega))); (try (have i_rt := Imp.go rt (by omega))); (try (have i_rt := Imp.go rt (by omega))); (try (have i_nq := Imp.go nq (by omega))); omega)), (show (V 0 65).toInt ≤ (V35 0 65).toInt from by first | omega | ((try (have i_nq := Imp.go nq (by omega))); (try (have i_rt := Imp.go rt (by omega))); (try (have i_rt := Imp.go rt (by omega))); (try (have i_nq := Imp.go nq (by omega))); omega)), (show (V35 0 65).toInt - (V 0 65).toInt ≤ (V35 0 60).toInt - (V 0 60).toInt from by first | omega | ((try (have i_nq := Imp.go nq (by omega))); (try (have i_rt := Imp.go rt (by omega))); (try (have i_rt := Imp.go rt (by omega))); (try (have i_nq := Imp.go nq (by omega))); omega)), (show (V35 0 73).toInt + (V35 0 95).toInt - (V35 0 65).toInt ≤ (V 0 73).toInt + (V 0 95).toInt - (V 0 65).toInt from by first | omega | ((try (have i_nq := Imp.go nq (by omega))); (try (have i_rt := Imp.go rt (by omega))); (try (have i_rt := Imp.go rt (by omega))); (try (have i_nq := Imp.go nq (by omega))); omega)), (show (V 0 73).toInt ≤ (V35 0 73).toInt from by first | omega | ((try (have i_nq := Imp.go nq (by omega))); (try (have i_rt := Imp.go rt (by omega))); (try (have i_rt := Imp.go rt (by omega))); (try (have i_nq := Imp.go nq (by omega))); omega)), (show (V 0 69).toInt ≤ (V35 0 69).toInt from by first | omega | ((try (have i_nq := Imp.go nq (by omega))); (try (have i_rt := Imp.go rt (by omega))); (try (have i_rt := Imp.go rt (by omega))); (try (have i_nq := Imp.go nq (by omega))); omega)), (show (V35 0 95).toInt = (V 0 95).toInt from by first | omega | ((try (have i_nq := Imp.go nq (by omega))); (try (have i_rt := Imp.go rt (by omega))); (try (have i_rt := Imp.go rt (by omega))); (try (have i_nq := Imp.go nq (by omega))); omega)), (show (V35 0 76).toInt - (V35 0 69).toInt - (V35 0 73).toInt ≤ (V 0 76).toInt - (V 0 69).toInt - (V 0 73).toInt from by first | omega | ((try (have i_nq := Imp.go nq (by omega))); (try (have i_rt := Imp.go rt (by omega))); (try (have i_rt := Imp.go rt (by omega))); (try (have i_nq := Imp.go nq (by omega))); omega)), rt44, fm45⟩, by rw [ht]; exact hP, va_K.moved hW.alike hK, hD⟩, hS.F ht⟩) hS.2.2 dX12_ofNeed_125
        · skip
          have f46 : y18.toInt < ((V20 66 (Int32.toNatClampNeg z31))).toInt := b_nle rfl rfl c33
          refine lv_aload_n hx hb dX12_ofNeed_67 rfl (lv_at hl 3 rfl) ?_
          refine lv_aload_n hx hb dX12_ofNeed_68 rfl (lv_at hl 3 rfl) ?_
          refine va_get (D := D) (ci := 12) (v := .ref (ad 67)) (C := RX12) (T := TX12) (N := 100) hx hb hg inX12 hown hK hP 0 rfl rfl 67 (by decide) (hg _ w1777) (fun _ h9 => h9) rfl dX12_ofNeed_69 ?_
          refine lv_bipush (v := 24) hx hb dX12_ofNeed_72 (by decide) ?_
          refine lv_bipush (v := 8) hx hb dX12_ofNeed_74 (by decide) ?_
          refine lv_iload_n hx hb dX12_ofNeed_76 rfl (lv_at hl 4 rfl) ?_
          refine lv_imul hx hb dX12_ofNeed_77 ?_
          refine lv_topi (fun z47 ez47 => ?_)
          have hz47 : z47.toInt = 8 * p0.toInt := i_mul ez47 (by decide) rfl (by omega)
          refine lv_iload_n hx hb dX12_ofNeed_78 rfl (lv_at hl 5 rfl) ?_
          refine lv_iadd hx hb dX12_ofNeed_79 ?_
          refine lv_topi (fun z48 ez48 => ?_)
          have hz48 : z48.toInt = z47.toInt + p1.toInt := i_add ez48 rfl rfl (by omega)
          refine lv_imul hx hb dX12_ofNeed_80 ?_
          refine lv_topi (fun z49 ez49 => ?_)
          have hz49 : z49.toInt = 24 * z48.toInt := i_mul ez49 (by decide) rfl (by omega)
          refine lv_iload hx hb dX12_ofNeed_81 (lv_at hl 0 rfl) ?_
          refine lv_iadd hx hb dX12_ofNeed_83 ?_
          refine lv_topi (fun z50 ez50 => ?_)
          have hz50 : z50.toInt = z49.toInt + y18.toInt := i_add ez50 rfl rfl (by omega)
          refine va_iald (D := D) (i := z50) hx hb hK hP 51 50 rfl rfl (i_in (a := z50.toInt) rfl (by first | omega | ((try (have i_nq := Imp.go nq (by omega))); (try (have i_rt := Imp.go rt (by omega))); (try (have i_rt := Imp.go rt (by omega))); (try (have i_nq := Imp.go nq (by omega))); omega))) dX12_ofNeed_84 ?_
          have r51 : 0 ≤ ((V20 67 (Int32.toNatClampNeg z50))).toInt ∧ ((V20 67 (Int32.toNatClampNeg z50))).toInt ≤ 299 := hMV20 67 (Int32.toNatClampNeg z50)
          have ko := i_clamp (x := p0) rfl (by omega)
          have kd := i_clamp (x := p1) rfl (by omega)
          have kl := i_clamp (x := y18) rfl (by omega)
          have ki : Int32.toNatClampNeg z31 = 8 * Int32.toNatClampNeg p0 + Int32.toNatClampNeg p1 := by have h9 := i_clamp (x := z31) rfl (by omega); omega
          have kj : Int32.toNatClampNeg z50 = 24 * (8 * Int32.toNatClampNeg p0 + Int32.toNatClampNeg p1) + Int32.toNatClampNeg y18 := by have h9 := i_clamp (x := z50) rfl (by omega); omega
          have q66 : (V20 66 (8 * Int32.toNatClampNeg p0 + Int32.toNatClampNeg p1)).toInt = (V20 66 (Int32.toNatClampNeg z31)).toInt := by rw [ki]
          have jn : (V20 67 (Int32.toNatClampNeg z50)).toInt < (V20 0 60).toInt := by rw [kj]; exact xlp21_10.2.2.2.1 (Int32.toNatClampNeg p0) (Int32.toNatClampNeg p1) (Int32.toNatClampNeg y18) (by omega) (by omega) (by omega)
          refine lv_iload_n hx hb dX12_ofNeed_85 rfl (lv_at hl 6 rfl) ?_
          refine lv_iload hx hb dX12_ofNeed_86 (lv_at hl 7 rfl) ?_
          refine lv_iload hx hb dX12_ofNeed_88 (lv_at hl 8 rfl) ?_
          refine gA_int (gA_runV (As := [.int (V20 67 (Int32.toNatClampNeg z50)), .int p2, .int p3, .int p4]) (rest := []) (ci := 12) (q0 := 0) hx hb hml hown hg hP hD hK hS hA hnw hgk (hk_s_calls H.size ad kk V20 L (V20 67 (Int32.toNatClampNeg z50)) p2 p3 p4 hMV20 (by first | omega | ((try (have i_nq := Imp.go nq (by omega))); (try (have i_rt := Imp.go rt (by omega))); (try (have i_rt := Imp.go rt (by omega))); (try (have i_nq := Imp.go nq (by omega))); omega)) (by first | omega | ((try (have i_nq := Imp.go nq (by omega))); (try (have i_rt := Imp.go rt (by omega))); (try (have i_rt := Imp.go rt (by omega))); (try (have i_nq := Imp.go nq (by omega))); omega)) (by first | omega | ((try (have i_nq := Imp.go nq (by omega))); (try (have i_rt := Imp.go rt (by omega))); (try (have i_rt := Imp.go rt (by omega))); (try (have i_nq := Imp.go nq (by omega))); omega)) xlp21_10 (show (V20 0 65).toInt ≤ (V20 0 60).toInt from by first | omega | ((try (have i_nq := Imp.go nq (by omega))); (try (have i_rt := Imp.go rt (by omega))); (try (have i_rt := Imp.go rt (by omega))); (try (have i_nq := Imp.go nq (by omega))); omega)) (show (V20 0 95).toInt ≤ (V20 0 65).toInt from by first | omega | ((try (have i_nq := Imp.go nq (by omega))); (try (have i_rt := Imp.go rt (by omega))); (try (have i_rt := Imp.go rt (by omega))); (try (have i_nq := Imp.go nq (by omega))); omega)) (show (V20 0 73).toInt + (V20 0 95).toInt - (V20 0 65).toInt ≤ 999000 from by first | omega | ((try (have i_nq := Imp.go nq (by omega))); (try (have i_rt := Imp.go rt (by omega))); (try (have i_rt := Imp.go rt (by omega))); (try (have i_nq := Imp.go nq (by omega))); omega)) (show (V20 0 76).toInt - (V20 0 69).toInt - (V20 0 73).toInt ≤ 1000000000 from by first | omega | ((try (have i_nq := Imp.go nq (by omega))); (try (have i_rt := Imp.go rt (by omega))); (try (have i_rt := Imp.go rt (by omega))); (try (have i_nq := Imp.go nq (by omega))); omega)) (show 300 - (V20 0 60).toInt ≤ ((d1 : Nat) : Int) from by first | omega | ((try (have i_nq := Imp.go nq (by omega))); (try (have i_rt := Imp.go rt (by omega))); (try (have i_rt := Imp.go rt (by omega))); (try (have i_nq := Imp.go nq (by omega))); omega)) (show 10 - (V20 0 93).toInt ≤ ((d2 : Nat) : Int) from by first | omega | ((try (have i_nq := Imp.go nq (by omega))); (try (have i_rt := Imp.go rt (by omega))); (try (have i_rt := Imp.go rt (by omega))); (try (have i_nq := Imp.go nq (by omega))); omega)) (show ((V20 67 (Int32.toNatClampNeg z50))).toInt < (V20 0 60).toInt from by first | omega | ((try (have i_nq := Imp.go nq (by omega))); (try (have i_rt := Imp.go rt (by omega))); (try (have i_rt := Imp.go rt (by omega))); (try (have i_nq := Imp.go nq (by omega))); omega)) (show (V20 0 98).toInt + 400 * ((d2 : Nat) : Int) ≤ 19000 from by first | omega | ((try (have i_nq := Imp.go nq (by omega))); (try (have i_rt := Imp.go rt (by omega))); (try (have i_rt := Imp.go rt (by omega))); (try (have i_nq := Imp.go nq (by omega))); omega))) w2320 w2322 w148 w172 w2323 rfl rfl hdV_yX12_calls ⟨(by show (4 * (d1) + 40 * (d2) + 8) + 1 ≤ (4 * d1 + 40 * d2 + 10); omega), (by show 8 + (6 + 11) + (100 * (d1) + 1000 * (d2) + 320) ≤ (100 * d1 + 1000 * d2 + 380); omega)⟩ rfl hl.1 rfl (Nat.le_of_ble_eq_true rfl) dX12_ofNeed_90 ⟨Nat.le_of_ble_eq_true rfl, Nat.le_of_ble_eq_true rfl⟩) hP hD hK hS hA (fun z52 u53 H locs w54 hP hD hK hS => ?_)
          obtain ⟨V67, L68⟩ := u53
          obtain ⟨hMV67, ajV67, axL68, rgz52, t55, t56, t57, t58, t59, t60, t61, t62, t63, t64, t65, t66⟩ := w54
          have axL68 : L = L68 := Eq.symm axL68
          subst axL68
          have hP : va_P D vwCl (mw ad kk ks.1 V67 L) H := hP
          have hD : va_D A (mw ad kk ks.1 V67 L) := hD
          have hMV67 : rgd bM V67 := hMV67
          have ajV67 : agr [(0, 60), (0, 65), (0, 68), (0, 69), (0, 73), (0, 76), (0, 90), (0, 91), (0, 92), (0, 93), (0, 95), (0, 96), (0, 98)] [59, 61, 62, 63, 64, 66, 67, 74, 75, 77, 78, 79, 80, 94, 97] V20 V67 := ajV67
          have agV67 : agr [(0, 60), (0, 65), (0, 68), (0, 69), (0, 73), (0, 76), (0, 90), (0, 91), (0, 92), (0, 93), (0, 95), (0, 96), (0, 98)] [59, 61, 62, 63, 64, 66, 67, 74, 75, 77, 78, 79, 80, 94, 97] V V67 := agV20.tr ajV67 (by decide) (by decide)
          have rgz52 : 0 ≤ z52.toInt ∧ z52.toInt ≤ 2 := rgz52
          have t55 : (V67 0 93).toInt = (V20 0 93).toInt := t55
          have t56 : (V67 0 98).toInt = (V20 0 98).toInt := t56
          have t57 : (V20 0 60).toInt ≤ (V67 0 60).toInt := t57
          have t58 : (V20 0 65).toInt ≤ (V67 0 65).toInt := t58
          have t59 : (V67 0 65).toInt - (V20 0 65).toInt ≤ (V67 0 60).toInt - (V20 0 60).toInt := t59
          have t60 : (V67 0 73).toInt + (V67 0 95).toInt - (V67 0 65).toInt ≤ (V20 0 73).toInt + (V20 0 95).toInt - (V20 0 65).toInt := t60
          have t61 : (V20 0 73).toInt ≤ (V67 0 73).toInt := t61
          have t62 : (V20 0 69).toInt ≤ (V67 0 69).toInt := t62
          have t63 : (V67 0 95).toInt = (V20 0 95).toInt := t63
          have t64 : (V67 0 76).toInt - (V67 0 69).toInt - (V67 0 73).toInt ≤ (V20 0 76).toInt - (V20 0 69).toInt - (V20 0 73).toInt := t64
          have t65 : RT V67 := t65
          have t66 : FRM V20 V67 (-1) := t66
          have r69 : 0 ≤ ((V67 0 93)).toInt ∧ ((V67 0 93)).toInt ≤ 10 := hMV67 0 93
          have r70 : 0 ≤ ((V67 0 98)).toInt ∧ ((V67 0 98)).toInt ≤ 20000 := hMV67 0 98
          have r71 : 0 ≤ ((V67 0 60)).toInt ∧ ((V67 0 60)).toInt ≤ 300 := hMV67 0 60
          have r72 : 0 ≤ ((V67 0 65)).toInt ∧ ((V67 0 65)).toInt ≤ 1000000 := hMV67 0 65
          have r73 : 0 ≤ ((V67 0 73)).toInt ∧ ((V67 0 73)).toInt ≤ 1000000 := hMV67 0 73
          have r74 : 0 ≤ ((V67 0 95)).toInt ∧ ((V67 0 95)).toInt ≤ 300 := hMV67 0 95
          have r75 : 0 ≤ ((V67 0 69)).toInt ∧ ((V67 0 69)).toInt ≤ 3000 := hMV67 0 69
          have r76 : 0 ≤ ((V67 0 76)).toInt ∧ ((V67 0 76)).toInt ≤ 2000000000 := hMV67 0 76
          refine lv_istore (lv' := [(9, .int z52), (8, .int y18), (7, .int y19), (6, .int z14), (0, .ref (ad 0)), (1, .int p0), (2, .int p1), (3, .int p2), (4, .int p3), (5, .int p4)]) hx hb dX12_ofNeed_93 hl (by decide) rfl (fun ls hl => ?_)
          refine lv_iload hx hb dX12_ofNeed_95 (lv_at hl 0 rfl) ?_
          refine lv_if_le (tgt := 103) hx hb dX12_ofNeed_97 (by decide) (fun c77 => ?_) (fun c77 => ?_)
          · skip
            have f78 : z52.toInt ≤ 0 := b_le rfl (by decide) c77
            refine lv_iload hx hb dX12_ofNeed_103 (lv_at hl 2 rfl) ?_
            refine lv_aload_n hx hb dX12_ofNeed_105 rfl (lv_at hl 4 rfl) ?_
            refine va_get (D := D) (ci := 12) (v := .int (V67 0 96)) (C := RX12) (T := TX12) (N := 100) hx hb hg inX12 hown hK hP 0 rfl rfl 96 (by decide) (hg _ w1806) (fun _ h9 => h9) rfl dX12_ofNeed_106 ?_
            refine lv_iadd hx hb dX12_ofNeed_109 ?_
            have r79 := i_full y19
            have r80 := i_full (V67 0 96)
            refine lv_topi (fun z81 ez81 => ?_)
            have hz81 : Imp (-2147483648 ≤ y19.toInt + ((V67 0 96)).toInt ∧ y19.toInt + ((V67 0 96)).toInt ≤ 2147483647) (z81.toInt = y19.toInt + ((V67 0 96)).toInt) := Imp.mk (fun hp => i_add ez81 rfl rfl hp)
            refine lv_istore (lv' := [(7, .int z81), (9, .int z52), (8, .int y18), (6, .int z14), (0, .ref (ad 0)), (1, .int p0), (2, .int p1), (3, .int p2), (4, .int p3), (5, .int p4)]) hx hb dX12_ofNeed_110 hl (by decide) rfl (fun ls hl => ?_)
            obtain ⟨z82, ez82⟩ : ∃ y : Int32, y = y18 + 1 := ⟨_, rfl⟩
            have hz82 : z82.toInt = y18.toInt + 1 := i_add ez82 rfl (by decide) (by omega)
            refine lv_iinc (v := z82) (lv' := [(8, .int z82), (7, .int z81), (9, .int z52), (6, .int z14), (0, .ref (ad 0)), (1, .int p0), (2, .int p1), (3, .int p2), (4, .int p3), (5, .int p4)]) hx hb dX12_ofNeed_112 hl (k := 2) rfl (by rw [ez82]; rfl) (by decide) rfl (fun ls hl => ?_)
            refine lv_goto (tgt := 51) hx hb dX12_ofNeed_115 (by decide) ?_
            have fm83 : FRM V V67 (-1) := (FRM.tr xlp21_11 t66 agV20 ⟨rfl, fun _ => rfl, fun _ => rfl, fun _ => rfl, fun _ => rfl, fun _ => rfl, fun _ => rfl⟩ (by omega))
            exact ihlp21 z82 z81 V67 H locs ls (by first | omega | ((try (have i_hz81 := Imp.go hz81 (by omega))); (try (have i_nq := Imp.go nq (by omega))); (try (have i_rt := Imp.go rt (by omega))); (try (have i_rt := Imp.go rt (by omega))); (try (have i_nq := Imp.go nq (by omega))); (try (have i_hz81 := Imp.go hz81 (by omega))); omega)) (show (V67 0 98).toInt = (V 0 98).toInt from by first | omega | ((try (have i_hz81 := Imp.go hz81 (by omega))); (try (have i_nq := Imp.go nq (by omega))); (try (have i_rt := Imp.go rt (by omega))); (try (have i_rt := Imp.go rt (by omega))); (try (have i_nq := Imp.go nq (by omega))); (try (have i_hz81 := Imp.go hz81 (by omega))); omega)) (show (V67 0 93).toInt = (V 0 93).toInt from by first | omega | ((try (have i_hz81 := Imp.go hz81 (by omega))); (try (have i_nq := Imp.go nq (by omega))); (try (have i_rt := Imp.go rt (by omega))); (try (have i_rt := Imp.go rt (by omega))); (try (have i_nq := Imp.go nq (by omega))); (try (have i_hz81 := Imp.go hz81 (by omega))); omega)) (show (V 0 60).toInt ≤ (V67 0 60).toInt from by first | omega | ((try (have i_hz81 := Imp.go hz81 (by omega))); (try (have i_nq := Imp.go nq (by omega))); (try (have i_rt := Imp.go rt (by omega))); (try (have i_rt := Imp.go rt (by omega))); (try (have i_nq := Imp.go nq (by omega))); (try (have i_hz81 := Imp.go hz81 (by omega))); omega)) (show (V 0 65).toInt ≤ (V67 0 65).toInt from by first | omega | ((try (have i_hz81 := Imp.go hz81 (by omega))); (try (have i_nq := Imp.go nq (by omega))); (try (have i_rt := Imp.go rt (by omega))); (try (have i_rt := Imp.go rt (by omega))); (try (have i_nq := Imp.go nq (by omega))); (try (have i_hz81 := Imp.go hz81 (by omega))); omega)) (show (V67 0 65).toInt - (V 0 65).toInt ≤ (V67 0 60).toInt - (V 0 60).toInt from by first | omega | ((try (have i_hz81 := Imp.go hz81 (by omega))); (try (have i_nq := Imp.go nq (by omega))); (try (have i_rt := Imp.go rt (by omega))); (try (have i_rt := Imp.go rt (by omega))); (try (have i_nq := Imp.go nq (by omega))); (try (have i_hz81 := Imp.go hz81 (by omega))); omega)) (show (V67 0 73).toInt + (V67 0 95).toInt - (V67 0 65).toInt ≤ (V 0 73).toInt + (V 0 95).toInt - (V 0 65).toInt from by first | omega | ((try (have i_hz81 := Imp.go hz81 (by omega))); (try (have i_nq := Imp.go nq (by omega))); (try (have i_rt := Imp.go rt (by omega))); (try (have i_rt := Imp.go rt (by omega))); (try (have i_nq := Imp.go nq (by omega))); (try (have i_hz81 := Imp.go hz81 (by omega))); omega)) (show (V 0 73).toInt ≤ (V67 0 73).toInt from by first | omega | ((try (have i_hz81 := Imp.go hz81 (by omega))); (try (have i_nq := Imp.go nq (by omega))); (try (have i_rt := Imp.go rt (by omega))); (try (have i_rt := Imp.go rt (by omega))); (try (have i_nq := Imp.go nq (by omega))); (try (have i_hz81 := Imp.go hz81 (by omega))); omega)) (show (V 0 69).toInt ≤ (V67 0 69).toInt from by first | omega | ((try (have i_hz81 := Imp.go hz81 (by omega))); (try (have i_nq := Imp.go nq (by omega))); (try (have i_rt := Imp.go rt (by omega))); (try (have i_rt := Imp.go rt (by omega))); (try (have i_nq := Imp.go nq (by omega))); (try (have i_hz81 := Imp.go hz81 (by omega))); omega)) (show (V67 0 95).toInt = (V 0 95).toInt from by first | omega | ((try (have i_hz81 := Imp.go hz81 (by omega))); (try (have i_nq := Imp.go nq (by omega))); (try (have i_rt := Imp.go rt (by omega))); (try (have i_rt := Imp.go rt (by omega))); (try (have i_nq := Imp.go nq (by omega))); (try (have i_hz81 := Imp.go hz81 (by omega))); omega)) (show (V67 0 76).toInt - (V67 0 69).toInt - (V67 0 73).toInt ≤ (V 0 76).toInt - (V 0 69).toInt - (V 0 73).toInt from by first | omega | ((try (have i_hz81 := Imp.go hz81 (by omega))); (try (have i_nq := Imp.go nq (by omega))); (try (have i_rt := Imp.go rt (by omega))); (try (have i_rt := Imp.go rt (by omega))); (try (have i_nq := Imp.go nq (by omega))); (try (have i_hz81 := Imp.go hz81 (by omega))); omega)) t65 fm83 (by first | omega | ((try (have i_hz81 := Imp.go hz81 (by omega))); (try (have i_nq := Imp.go nq (by omega))); (try (have i_rt := Imp.go rt (by omega))); (try (have i_rt := Imp.go rt (by omega))); (try (have i_nq := Imp.go nq (by omega))); (try (have i_hz81 := Imp.go hz81 (by omega))); omega)) (agr.tr (agr.tr agr.rf ajV20 (by decide) (by decide)) ajV67 (by decide) (by decide)) hMV67 hP hD hS (lv_sub hl [0, 1, 3, 4, 5, 6, 7, 8, 9] rfl)
          · skip
            have f84 : 0 < z52.toInt := b_nle rfl (by decide) c77
            refine lv_iload hx hb dX12_ofNeed_100 (lv_at hl 0 rfl) ?_
            have fm85 : FRM V V67 (-1) := (FRM.tr xlp21_11 t66 agV20 ⟨rfl, fun _ => rfl, fun _ => rfl, fun _ => rfl, fun _ => rfl, fun _ => rfl, fun _ => rfl⟩ (by omega))
            exact W.iret (v := z52) hx hb hr (fun t ht hW => ⟨⟨z52, (V67, L), rfl, ⟨hMV67, agV67, rfl, (show 0 ≤ z52.toInt ∧ z52.toInt ≤ 2 from by first | omega | ((try (have i_nq := Imp.go nq (by omega))); (try (have i_rt := Imp.go rt (by omega))); (try (have i_rt := Imp.go rt (by omega))); (try (have i_nq := Imp.go nq (by omega))); omega)), (show (V67 0 93).toInt = (V 0 93).toInt from by first | omega | ((try (have i_nq := Imp.go nq (by omega))); (try (have i_rt := Imp.go rt (by omega))); (try (have i_rt := Imp.go rt (by omega))); (try (have i_nq := Imp.go nq (by omega))); omega)), (show (V67 0 98).toInt = (V 0 98).toInt from by first | omega | ((try (have i_nq := Imp.go nq (by omega))); (try (have i_rt := Imp.go rt (by omega))); (try (have i_rt := Imp.go rt (by omega))); (try (have i_nq := Imp.go nq (by omega))); omega)), (show (V 0 60).toInt ≤ (V67 0 60).toInt from by first | omega | ((try (have i_nq := Imp.go nq (by omega))); (try (have i_rt := Imp.go rt (by omega))); (try (have i_rt := Imp.go rt (by omega))); (try (have i_nq := Imp.go nq (by omega))); omega)), (show (V 0 65).toInt ≤ (V67 0 65).toInt from by first | omega | ((try (have i_nq := Imp.go nq (by omega))); (try (have i_rt := Imp.go rt (by omega))); (try (have i_rt := Imp.go rt (by omega))); (try (have i_nq := Imp.go nq (by omega))); omega)), (show (V67 0 65).toInt - (V 0 65).toInt ≤ (V67 0 60).toInt - (V 0 60).toInt from by first | omega | ((try (have i_nq := Imp.go nq (by omega))); (try (have i_rt := Imp.go rt (by omega))); (try (have i_rt := Imp.go rt (by omega))); (try (have i_nq := Imp.go nq (by omega))); omega)), (show (V67 0 73).toInt + (V67 0 95).toInt - (V67 0 65).toInt ≤ (V 0 73).toInt + (V 0 95).toInt - (V 0 65).toInt from by first | omega | ((try (have i_nq := Imp.go nq (by omega))); (try (have i_rt := Imp.go rt (by omega))); (try (have i_rt := Imp.go rt (by omega))); (try (have i_nq := Imp.go nq (by omega))); omega)), (show (V 0 73).toInt ≤ (V67 0 73).toInt from by first | omega | ((try (have i_nq := Imp.go nq (by omega))); (try (have i_rt := Imp.go rt (by omega))); (try (have i_rt := Imp.go rt (by omega))); (try (have i_nq := Imp.go nq (by omega))); omega)), (show (V 0 69).toInt ≤ (V67 0 69).toInt from by first | omega | ((try (have i_nq := Imp.go nq (by omega))); (try (have i_rt := Imp.go rt (by omega))); (try (have i_rt := Imp.go rt (by omega))); (try (have i_nq := Imp.go nq (by omega))); omega)), (show (V67 0 95).toInt = (V 0 95).toInt from by first | omega | ((try (have i_nq := Imp.go nq (by omega))); (try (have i_rt := Imp.go rt (by omega))); (try (have i_rt := Imp.go rt (by omega))); (try (have i_nq := Imp.go nq (by omega))); omega)), (show (V67 0 76).toInt - (V67 0 69).toInt - (V67 0 73).toInt ≤ (V 0 76).toInt - (V 0 69).toInt - (V 0 73).toInt from by first | omega | ((try (have i_nq := Imp.go nq (by omega))); (try (have i_rt := Imp.go rt (by omega))); (try (have i_rt := Imp.go rt (by omega))); (try (have i_nq := Imp.go nq (by omega))); omega)), t65, fm85⟩, by rw [ht]; exact hP, va_K.moved hW.alike hK, hD⟩, hS.F ht⟩) hS.2.2 dX12_ofNeed_102
    have r86 : Int32.toInt 0 = 0 := by decide
    exact lp21 ((24 - (Int32.toInt 0) + 1 : Int).toNat) 0 0 V H locs ls (by decide) (show (V 0 98).toInt = (V 0 98).toInt from by first | omega | ((try (have i_nq := Imp.go nq (by omega))); (try (have i_rt := Imp.go rt (by omega))); (try (have i_rt := Imp.go rt (by omega))); (try (have i_nq := Imp.go nq (by omega))); omega)) (show (V 0 93).toInt = (V 0 93).toInt from by first | omega | ((try (have i_nq := Imp.go nq (by omega))); (try (have i_rt := Imp.go rt (by omega))); (try (have i_rt := Imp.go rt (by omega))); (try (have i_nq := Imp.go nq (by omega))); omega)) (show (V 0 60).toInt ≤ (V 0 60).toInt from by first | omega | ((try (have i_nq := Imp.go nq (by omega))); (try (have i_rt := Imp.go rt (by omega))); (try (have i_rt := Imp.go rt (by omega))); (try (have i_nq := Imp.go nq (by omega))); omega)) (show (V 0 65).toInt ≤ (V 0 65).toInt from by first | omega | ((try (have i_nq := Imp.go nq (by omega))); (try (have i_rt := Imp.go rt (by omega))); (try (have i_rt := Imp.go rt (by omega))); (try (have i_nq := Imp.go nq (by omega))); omega)) (show (V 0 65).toInt - (V 0 65).toInt ≤ (V 0 60).toInt - (V 0 60).toInt from by first | omega | ((try (have i_nq := Imp.go nq (by omega))); (try (have i_rt := Imp.go rt (by omega))); (try (have i_rt := Imp.go rt (by omega))); (try (have i_nq := Imp.go nq (by omega))); omega)) (show (V 0 73).toInt + (V 0 95).toInt - (V 0 65).toInt ≤ (V 0 73).toInt + (V 0 95).toInt - (V 0 65).toInt from by first | omega | ((try (have i_nq := Imp.go nq (by omega))); (try (have i_rt := Imp.go rt (by omega))); (try (have i_rt := Imp.go rt (by omega))); (try (have i_nq := Imp.go nq (by omega))); omega)) (show (V 0 73).toInt ≤ (V 0 73).toInt from by first | omega | ((try (have i_nq := Imp.go nq (by omega))); (try (have i_rt := Imp.go rt (by omega))); (try (have i_rt := Imp.go rt (by omega))); (try (have i_nq := Imp.go nq (by omega))); omega)) (show (V 0 69).toInt ≤ (V 0 69).toInt from by first | omega | ((try (have i_nq := Imp.go nq (by omega))); (try (have i_rt := Imp.go rt (by omega))); (try (have i_rt := Imp.go rt (by omega))); (try (have i_nq := Imp.go nq (by omega))); omega)) (show (V 0 95).toInt = (V 0 95).toInt from by first | omega | ((try (have i_nq := Imp.go nq (by omega))); (try (have i_rt := Imp.go rt (by omega))); (try (have i_rt := Imp.go rt (by omega))); (try (have i_nq := Imp.go nq (by omega))); omega)) (show (V 0 76).toInt - (V 0 69).toInt - (V 0 73).toInt ≤ (V 0 76).toInt - (V 0 69).toInt - (V 0 73).toInt from by first | omega | ((try (have i_nq := Imp.go nq (by omega))); (try (have i_rt := Imp.go rt (by omega))); (try (have i_rt := Imp.go rt (by omega))); (try (have i_nq := Imp.go nq (by omega))); omega)) rt (FRM.rf : FRM V V (-1)) (by first | omega | ((try (have i_nq := Imp.go nq (by omega))); (try (have i_rt := Imp.go rt (by omega))); (try (have i_rt := Imp.go rt (by omega))); (try (have i_nq := Imp.go nq (by omega))); omega)) agr.rf hMV hP hD hS (lv_sub hl [0, 1, 2, 3, 4, 5, 6, 7, 8] rfl)
  · skip
    have f87 : ((V 29 (Int32.toNatClampNeg z14))).toInt ≠ 0 := b_neq rfl (by decide) c16
    refine lv_aload_n hx hb dX12_ofNeed_31 rfl (lv_at hl 1 rfl) ?_
    refine lv_iload_n hx hb dX12_ofNeed_32 rfl (lv_at hl 2 rfl) ?_
    refine lv_iload_n hx hb dX12_ofNeed_33 rfl (lv_at hl 3 rfl) ?_
    refine lv_iload hx hb dX12_ofNeed_34 (lv_at hl 0 rfl) ?_
    refine lv_iload_n hx hb dX12_ofNeed_36 rfl (lv_at hl 4 rfl) ?_
    refine lv_iload hx hb dX12_ofNeed_37 (lv_at hl 5 rfl) ?_
    refine lv_iload hx hb dX12_ofNeed_39 (lv_at hl 6 rfl) ?_
    refine gA_int (gA_runV (As := [.int p0, .int p1, .int z14, .int p2, .int p3, .int p4]) (rest := []) (ci := 12) (q0 := 0) hx hb hml hown hg hP hD hK hS hA hnw hgk (hk_s_ofLate H.size ad kk V L p0 p1 z14 p2 p3 p4 hMV (by first | omega | ((try (have i_nq := Imp.go nq (by omega))); (try (have i_rt := Imp.go rt (by omega))); (try (have i_rt := Imp.go rt (by omega))); (try (have i_nq := Imp.go nq (by omega))); omega)) (by first | omega | ((try (have i_nq := Imp.go nq (by omega))); (try (have i_rt := Imp.go rt (by omega))); (try (have i_rt := Imp.go rt (by omega))); (try (have i_nq := Imp.go nq (by omega))); omega)) (by first | omega | ((try (have i_nq := Imp.go nq (by omega))); (try (have i_rt := Imp.go rt (by omega))); (try (have i_rt := Imp.go rt (by omega))); (try (have i_nq := Imp.go nq (by omega))); omega)) (by first | omega | ((try (have i_nq := Imp.go nq (by omega))); (try (have i_rt := Imp.go rt (by omega))); (try (have i_rt := Imp.go rt (by omega))); (try (have i_nq := Imp.go nq (by omega))); omega)) (by first | omega | ((try (have i_nq := Imp.go nq (by omega))); (try (have i_rt := Imp.go rt (by omega))); (try (have i_rt := Imp.go rt (by omega))); (try (have i_nq := Imp.go nq (by omega))); omega)) rt (show (V 0 65).toInt ≤ (V 0 60).toInt from by first | omega | ((try (have i_nq := Imp.go nq (by omega))); (try (have i_rt := Imp.go rt (by omega))); (try (have i_rt := Imp.go rt (by omega))); (try (have i_nq := Imp.go nq (by omega))); omega)) (show (V 0 95).toInt ≤ (V 0 65).toInt from by first | omega | ((try (have i_nq := Imp.go nq (by omega))); (try (have i_rt := Imp.go rt (by omega))); (try (have i_rt := Imp.go rt (by omega))); (try (have i_nq := Imp.go nq (by omega))); omega)) (show (V 0 73).toInt + (V 0 95).toInt - (V 0 65).toInt ≤ 999000 from by first | omega | ((try (have i_nq := Imp.go nq (by omega))); (try (have i_rt := Imp.go rt (by omega))); (try (have i_rt := Imp.go rt (by omega))); (try (have i_nq := Imp.go nq (by omega))); omega)) (show (V 0 76).toInt - (V 0 69).toInt - (V 0 73).toInt ≤ 1000000000 from by first | omega | ((try (have i_nq := Imp.go nq (by omega))); (try (have i_rt := Imp.go rt (by omega))); (try (have i_rt := Imp.go rt (by omega))); (try (have i_nq := Imp.go nq (by omega))); omega)) (show 300 - (V 0 60).toInt ≤ ((d1 : Nat) : Int) from by first | omega | ((try (have i_nq := Imp.go nq (by omega))); (try (have i_rt := Imp.go rt (by omega))); (try (have i_rt := Imp.go rt (by omega))); (try (have i_nq := Imp.go nq (by omega))); omega)) (show 10 - (V 0 93).toInt ≤ ((d2 : Nat) : Int) from by first | omega | ((try (have i_nq := Imp.go nq (by omega))); (try (have i_rt := Imp.go rt (by omega))); (try (have i_rt := Imp.go rt (by omega))); (try (have i_nq := Imp.go nq (by omega))); omega)) (show p0.toInt < (V 0 60).toInt from by first | omega | ((try (have i_nq := Imp.go nq (by omega))); (try (have i_rt := Imp.go rt (by omega))); (try (have i_rt := Imp.go rt (by omega))); (try (have i_nq := Imp.go nq (by omega))); omega)) (show (V 0 98).toInt + 400 * ((d2 : Nat) : Int) ≤ 19000 from by first | omega | ((try (have i_nq := Imp.go nq (by omega))); (try (have i_rt := Imp.go rt (by omega))); (try (have i_rt := Imp.go rt (by omega))); (try (have i_nq := Imp.go nq (by omega))); omega)) nq (show (V 29 (Int32.toNatClampNeg z14)).toInt = 1 from by first | omega | ((try (have i_nq := Imp.go nq (by omega))); (try (have i_rt := Imp.go rt (by omega))); (try (have i_rt := Imp.go rt (by omega))); (try (have i_nq := Imp.go nq (by omega))); omega)) (show z14.toInt = 8 * (24 * (V 0 11).toInt + (V 61 (Int32.toNatClampNeg p0)).toInt) + p1.toInt from by first | omega | ((try (have i_nq := Imp.go nq (by omega))); (try (have i_rt := Imp.go rt (by omega))); (try (have i_rt := Imp.go rt (by omega))); (try (have i_nq := Imp.go nq (by omega))); omega))) w2316 w2318 w147 w172 w2319 rfl rfl hdV_yX12_ofLate ⟨(by show (4 * (d1) + 40 * (d2) + 9) + 1 ≤ (4 * d1 + 40 * d2 + 10); omega), (by show 8 + (11 + 11) + (100 * (d1) + 1000 * (d2) + 350) ≤ (100 * d1 + 1000 * d2 + 380); omega)⟩ rfl hl.1 rfl (Nat.le_of_ble_eq_true rfl) dX12_ofNeed_41 ⟨Nat.le_of_ble_eq_true rfl, Nat.le_of_ble_eq_true rfl⟩) hP hD hK hS hA (fun z88 u89 H locs w90 hP hD hK hS => ?_)
    obtain ⟨V103, L104⟩ := u89
    obtain ⟨hMV103, ajV103, axL104, rgz88, t91, t92, t93, t94, t95, t96, t97, t98, t99, t100, t101, t102⟩ := w90
    have axL104 : L = L104 := Eq.symm axL104
    subst axL104
    have hP : va_P D vwCl (mw ad kk ks.1 V103 L) H := hP
    have hD : va_D A (mw ad kk ks.1 V103 L) := hD
    have hMV103 : rgd bM V103 := hMV103
    have ajV103 : agr [(0, 60), (0, 65), (0, 68), (0, 69), (0, 73), (0, 76), (0, 90), (0, 91), (0, 92), (0, 93), (0, 95), (0, 96), (0, 98)] [59, 61, 62, 63, 64, 66, 67, 74, 75, 77, 78, 79, 80, 94, 97] V V103 := ajV103
    have agV103 : agr [(0, 60), (0, 65), (0, 68), (0, 69), (0, 73), (0, 76), (0, 90), (0, 91), (0, 92), (0, 93), (0, 95), (0, 96), (0, 98)] [59, 61, 62, 63, 64, 66, 67, 74, 75, 77, 78, 79, 80, 94, 97] V V103 := agV.tr ajV103 (by decide) (by decide)
    have rgz88 : 0 ≤ z88.toInt ∧ z88.toInt ≤ 2 := rgz88
    have t91 : (V103 0 93).toInt = (V 0 93).toInt := t91
    have t92 : (V103 0 98).toInt = (V 0 98).toInt := t92
    have t93 : (V 0 60).toInt ≤ (V103 0 60).toInt := t93
    have t94 : (V 0 65).toInt ≤ (V103 0 65).toInt := t94
    have t95 : (V103 0 65).toInt - (V 0 65).toInt ≤ (V103 0 60).toInt - (V 0 60).toInt := t95
    have t96 : (V103 0 73).toInt + (V103 0 95).toInt - (V103 0 65).toInt ≤ (V 0 73).toInt + (V 0 95).toInt - (V 0 65).toInt := t96
    have t97 : (V 0 73).toInt ≤ (V103 0 73).toInt := t97
    have t98 : (V 0 69).toInt ≤ (V103 0 69).toInt := t98
    have t99 : (V103 0 95).toInt = (V 0 95).toInt := t99
    have t100 : (V103 0 76).toInt - (V103 0 69).toInt - (V103 0 73).toInt ≤ (V 0 76).toInt - (V 0 69).toInt - (V 0 73).toInt := t100
    have t101 : RT V103 := t101
    have t102 : FRM V V103 (-1) := t102
    have r105 : 0 ≤ ((V103 0 93)).toInt ∧ ((V103 0 93)).toInt ≤ 10 := hMV103 0 93
    have r106 : 0 ≤ ((V103 0 98)).toInt ∧ ((V103 0 98)).toInt ≤ 20000 := hMV103 0 98
    have r107 : 0 ≤ ((V103 0 60)).toInt ∧ ((V103 0 60)).toInt ≤ 300 := hMV103 0 60
    have r108 : 0 ≤ ((V103 0 65)).toInt ∧ ((V103 0 65)).toInt ≤ 1000000 := hMV103 0 65
    have r109 : 0 ≤ ((V103 0 73)).toInt ∧ ((V103 0 73)).toInt ≤ 1000000 := hMV103 0 73
    have r110 : 0 ≤ ((V103 0 95)).toInt ∧ ((V103 0 95)).toInt ≤ 300 := hMV103 0 95
    have r111 : 0 ≤ ((V103 0 69)).toInt ∧ ((V103 0 69)).toInt ≤ 3000 := hMV103 0 69
    have r112 : 0 ≤ ((V103 0 76)).toInt ∧ ((V103 0 76)).toInt ≤ 2000000000 := hMV103 0 76
    have fm113 : FRM V V103 (-1) := (t102 : FRM V V103 (-1))
    exact W.iret (v := z88) hx hb hr (fun t ht hW => ⟨⟨z88, (V103, L), rfl, ⟨hMV103, agV103, rfl, (show 0 ≤ z88.toInt ∧ z88.toInt ≤ 2 from by first | omega | ((try (have i_nq := Imp.go nq (by omega))); (try (have i_rt := Imp.go rt (by omega))); (try (have i_rt := Imp.go rt (by omega))); (try (have i_nq := Imp.go nq (by omega))); omega)), (show (V103 0 93).toInt = (V 0 93).toInt from by first | omega | ((try (have i_nq := Imp.go nq (by omega))); (try (have i_rt := Imp.go rt (by omega))); (try (have i_rt := Imp.go rt (by omega))); (try (have i_nq := Imp.go nq (by omega))); omega)), (show (V103 0 98).toInt = (V 0 98).toInt from by first | omega | ((try (have i_nq := Imp.go nq (by omega))); (try (have i_rt := Imp.go rt (by omega))); (try (have i_rt := Imp.go rt (by omega))); (try (have i_nq := Imp.go nq (by omega))); omega)), (show (V 0 60).toInt ≤ (V103 0 60).toInt from by first | omega | ((try (have i_nq := Imp.go nq (by omega))); (try (have i_rt := Imp.go rt (by omega))); (try (have i_rt := Imp.go rt (by omega))); (try (have i_nq := Imp.go nq (by omega))); omega)), (show (V 0 65).toInt ≤ (V103 0 65).toInt from by first | omega | ((try (have i_nq := Imp.go nq (by omega))); (try (have i_rt := Imp.go rt (by omega))); (try (have i_rt := Imp.go rt (by omega))); (try (have i_nq := Imp.go nq (by omega))); omega)), (show (V103 0 65).toInt - (V 0 65).toInt ≤ (V103 0 60).toInt - (V 0 60).toInt from by first | omega | ((try (have i_nq := Imp.go nq (by omega))); (try (have i_rt := Imp.go rt (by omega))); (try (have i_rt := Imp.go rt (by omega))); (try (have i_nq := Imp.go nq (by omega))); omega)), (show (V103 0 73).toInt + (V103 0 95).toInt - (V103 0 65).toInt ≤ (V 0 73).toInt + (V 0 95).toInt - (V 0 65).toInt from by first | omega | ((try (have i_nq := Imp.go nq (by omega))); (try (have i_rt := Imp.go rt (by omega))); (try (have i_rt := Imp.go rt (by omega))); (try (have i_nq := Imp.go nq (by omega))); omega)), (show (V 0 73).toInt ≤ (V103 0 73).toInt from by first | omega | ((try (have i_nq := Imp.go nq (by omega))); (try (have i_rt := Imp.go rt (by omega))); (try (have i_rt := Imp.go rt (by omega))); (try (have i_nq := Imp.go nq (by omega))); omega)), (show (V 0 69).toInt ≤ (V103 0 69).toInt from by first | omega | ((try (have i_nq := Imp.go nq (by omega))); (try (have i_rt := Imp.go rt (by omega))); (try (have i_rt := Imp.go rt (by omega))); (try (have i_nq := Imp.go nq (by omega))); omega)), (show (V103 0 95).toInt = (V 0 95).toInt from by first | omega | ((try (have i_nq := Imp.go nq (by omega))); (try (have i_rt := Imp.go rt (by omega))); (try (have i_rt := Imp.go rt (by omega))); (try (have i_nq := Imp.go nq (by omega))); omega)), (show (V103 0 76).toInt - (V103 0 69).toInt - (V103 0 73).toInt ≤ (V 0 76).toInt - (V 0 69).toInt - (V 0 73).toInt from by first | omega | ((try (have i_nq := Imp.go nq (by omega))); (try (have i_rt := Imp.go rt (by omega))); (try (have i_rt := Imp.go rt (by omega))); (try (have i_nq := Imp.go nq (by omega))); omega)), t101, fm113⟩, by rw [ht]; exact hP, va_K.moved hW.alike hK, hD⟩, hS.F ht⟩) hS.2.2 dX12_ofNeed_44
