theorem w2258 : Cond.code yX12_objectAt cX12_objectAt 5 (some .int) ∈ GW := gw_mem 2258 (by decide +kernel) rfl
theorem w2255 : Cond.methodLink RX12 487 yX12_objectAt ∈ GW := gw_mem 2255 (by decide +kernel) rfl
theorem w2257 : Cond.instanceMethod yX12_objectAt ∈ GW := gw_mem 2257 (by decide +kernel) rfl
theorem w132 : Cond.selects RX12 yX12_objectAt yX12_objectAt ∈ GW := gw_mem 132 (by decide +kernel) rfl
theorem hdV_yX12_objectAt : yX12_objectAt.cls = RX12 ∧ yX12_objectAt.cls ≠ "java/lang/invoke/MethodHandle" ∧ yX12_objectAt.cls ≠ "java/lang/invoke/VarHandle" ∧ (parseMethodDescriptor yX12_objectAt.desc).map (fun d => d.parameters.length) = some 2 := by decide +kernel
theorem w2262 : Cond.code yX12_makes cX12_makes 6 (some .int) ∈ GW := gw_mem 2262 (by decide +kernel) rfl
theorem w2259 : Cond.methodLink RX12 493 yX12_makes ∈ GW := gw_mem 2259 (by decide +kernel) rfl
theorem w2261 : Cond.instanceMethod yX12_makes ∈ GW := gw_mem 2261 (by decide +kernel) rfl
theorem w133 : Cond.selects RX12 yX12_makes yX12_makes ∈ GW := gw_mem 133 (by decide +kernel) rfl
theorem hdV_yX12_makes : yX12_makes.cls = RX12 ∧ yX12_makes.cls ≠ "java/lang/invoke/MethodHandle" ∧ yX12_makes.cls ≠ "java/lang/invoke/VarHandle" ∧ (parseMethodDescriptor yX12_makes.desc).map (fun d => d.parameters.length) = some 3 := by decide +kernel
theorem w1802 : Cond.fieldLink RX12 490 "WiringHouseModel" "got" "I" ∈ GW := gw_mem 1802 (by decide +kernel) rfl
theorem dX12_gets_0 : decode cX12_gets 0 = .ok (.aload_n 0, 1) := by decide +kernel
theorem dX12_gets_1 : decode cX12_gets 1 = .ok (.iload_n 1, 1) := by decide +kernel
theorem dX12_gets_2 : decode cX12_gets 2 = .ok (.iload_n 2, 1) := by decide +kernel
theorem dX12_gets_3 : decode cX12_gets 3 = .ok (.invokevirtual 481, 3) := by decide +kernel
theorem dX12_gets_6 : decode cX12_gets 6 = .ok (.istore_n 3, 1) := by decide +kernel
theorem dX12_gets_7 : decode cX12_gets 7 = .ok (.iload_n 3, 1) := by decide +kernel
theorem dX12_gets_8 : decode cX12_gets 8 = .ok (.ifCond .ge 10, 3) := by decide +kernel
theorem dX12_gets_18 : decode cX12_gets 18 = .ok (.aload_n 0, 1) := by decide +kernel
theorem dX12_gets_19 : decode cX12_gets 19 = .ok (.getfield 71, 3) := by decide +kernel
theorem dX12_gets_22 : decode cX12_gets 22 = .ok (.bipush 24, 2) := by decide +kernel
theorem dX12_gets_24 : decode cX12_gets 24 = .ok (.aload_n 0, 1) := by decide +kernel
theorem dX12_gets_25 : decode cX12_gets 25 = .ok (.getfield 286, 3) := by decide +kernel
theorem dX12_gets_28 : decode cX12_gets 28 = .ok (.imul, 1) := by decide +kernel
theorem dX12_gets_29 : decode cX12_gets 29 = .ok (.iload_n 1, 1) := by decide +kernel
theorem dX12_gets_30 : decode cX12_gets 30 = .ok (.iadd, 1) := by decide +kernel
theorem dX12_gets_31 : decode cX12_gets 31 = .ok (.iaload, 1) := by decide +kernel
theorem dX12_gets_32 : decode cX12_gets 32 = .ok (.iconst 3, 1) := by decide +kernel
theorem dX12_gets_33 : decode cX12_gets 33 = .ok (.if_icmp .ne 7, 3) := by decide +kernel
theorem dX12_gets_40 : decode cX12_gets 40 = .ok (.iconst 0, 1) := by decide +kernel
theorem dX12_gets_41 : decode cX12_gets 41 = .ok (.istore 4, 2) := by decide +kernel
theorem dX12_gets_43 : decode cX12_gets 43 = .ok (.aload_n 0, 1) := by decide +kernel
theorem dX12_gets_44 : decode cX12_gets 44 = .ok (.getfield 161, 3) := by decide +kernel
theorem dX12_gets_47 : decode cX12_gets 47 = .ok (.bipush 24, 2) := by decide +kernel
theorem dX12_gets_49 : decode cX12_gets 49 = .ok (.iload_n 3, 1) := by decide +kernel
theorem dX12_gets_50 : decode cX12_gets 50 = .ok (.imul, 1) := by decide +kernel
theorem dX12_gets_51 : decode cX12_gets 51 = .ok (.iload_n 1, 1) := by decide +kernel
theorem dX12_gets_52 : decode cX12_gets 52 = .ok (.iadd, 1) := by decide +kernel
theorem dX12_gets_53 : decode cX12_gets 53 = .ok (.baload, 1) := by decide +kernel
theorem dX12_gets_54 : decode cX12_gets 54 = .ok (.ifCond .eq 10, 3) := by decide +kernel
theorem dX12_gets_64 : decode cX12_gets 64 = .ok (.iload 4, 2) := by decide +kernel
theorem dX12_gets_66 : decode cX12_gets 66 = .ok (.ifCond .eq 7, 3) := by decide +kernel
theorem dX12_gets_73 : decode cX12_gets 73 = .ok (.aload_n 0, 1) := by decide +kernel
theorem dX12_gets_74 : decode cX12_gets 74 = .ok (.iload_n 1, 1) := by decide +kernel
theorem dX12_gets_75 : decode cX12_gets 75 = .ok (.iload_n 3, 1) := by decide +kernel
theorem dX12_gets_76 : decode cX12_gets 76 = .ok (.invokevirtual 487, 3) := by decide +kernel
theorem dX12_gets_79 : decode cX12_gets 79 = .ok (.istore 5, 2) := by decide +kernel
theorem dX12_gets_81 : decode cX12_gets 81 = .ok (.iload 5, 2) := by decide +kernel
theorem dX12_gets_83 : decode cX12_gets 83 = .ok (.ifCond .lt 20, 3) := by decide +kernel
theorem dX12_gets_103 : decode cX12_gets 103 = .ok (.iload 5, 2) := by decide +kernel
theorem dX12_gets_105 : decode cX12_gets 105 = .ok (.ifCond .lt 11, 3) := by decide +kernel
theorem dX12_gets_116 : decode cX12_gets 116 = .ok (.aload_n 0, 1) := by decide +kernel
theorem dX12_gets_117 : decode cX12_gets 117 = .ok (.iload_n 1, 1) := by decide +kernel
theorem dX12_gets_118 : decode cX12_gets 118 = .ok (.iload_n 3, 1) := by decide +kernel
theorem dX12_gets_119 : decode cX12_gets 119 = .ok (.iload 4, 2) := by decide +kernel
theorem dX12_gets_121 : decode cX12_gets 121 = .ok (.invokevirtual 493, 3) := by decide +kernel
theorem dX12_gets_124 : decode cX12_gets 124 = .ok (.ireturn, 1) := by decide +kernel
theorem dX12_gets_86 : decode cX12_gets 86 = .ok (.aload_n 0, 1) := by decide +kernel
theorem dX12_gets_87 : decode cX12_gets 87 = .ok (.getfield 170, 3) := by decide +kernel
theorem dX12_gets_90 : decode cX12_gets 90 = .ok (.iload 5, 2) := by decide +kernel
theorem dX12_gets_92 : decode cX12_gets 92 = .ok (.iaload, 1) := by decide +kernel
theorem dX12_gets_93 : decode cX12_gets 93 = .ok (.ifCond .ne 10, 3) := by decide +kernel
theorem dX12_gets_108 : decode cX12_gets 108 = .ok (.aload_n 0, 1) := by decide +kernel
theorem dX12_gets_109 : decode cX12_gets 109 = .ok (.iload 5, 2) := by decide +kernel
theorem dX12_gets_111 : decode cX12_gets 111 = .ok (.putfield 490, 3) := by decide +kernel
theorem dX12_gets_114 : decode cX12_gets 114 = .ok (.iconst 0, 1) := by decide +kernel
theorem dX12_gets_115 : decode cX12_gets 115 = .ok (.ireturn, 1) := by decide +kernel
theorem dX12_gets_96 : decode cX12_gets 96 = .ok (.aload_n 0, 1) := by decide +kernel
theorem dX12_gets_97 : decode cX12_gets 97 = .ok (.bipush 12, 2) := by decide +kernel
theorem dX12_gets_99 : decode cX12_gets 99 = .ok (.invokevirtual 484, 3) := by decide +kernel
theorem dX12_gets_102 : decode cX12_gets 102 = .ok (.ireturn, 1) := by decide +kernel
theorem dX12_gets_57 : decode cX12_gets 57 = .ok (.aload_n 0, 1) := by decide +kernel
theorem dX12_gets_58 : decode cX12_gets 58 = .ok (.bipush 15, 2) := by decide +kernel
theorem dX12_gets_60 : decode cX12_gets 60 = .ok (.invokevirtual 484, 3) := by decide +kernel
theorem dX12_gets_63 : decode cX12_gets 63 = .ok (.ireturn, 1) := by decide +kernel
theorem dX12_gets_36 : decode cX12_gets 36 = .ok (.iconst 1, 1) := by decide +kernel
theorem dX12_gets_37 : decode cX12_gets 37 = .ok (.goto 4, 3) := by decide +kernel
theorem dX12_gets_69 : decode cX12_gets 69 = .ok (.iconst (-1), 1) := by decide +kernel
theorem dX12_gets_70 : decode cX12_gets 70 = .ok (.goto 9, 3) := by decide +kernel
theorem dX12_gets_11 : decode cX12_gets 11 = .ok (.aload_n 0, 1) := by decide +kernel
theorem dX12_gets_12 : decode cX12_gets 12 = .ok (.bipush 14, 2) := by decide +kernel
theorem dX12_gets_14 : decode cX12_gets 14 = .ok (.invokevirtual 484, 3) := by decide +kernel
theorem dX12_gets_17 : decode cX12_gets 17 = .ok (.ireturn, 1) := by decide +kernel
abbrev q_s_makes (D : va_G) (ks : KS) (ad : Nat → Nat) (kk : Nat → ClassId) (V : Vf) (L : Lf) (p0 : Int32) (p1 : Int32) (p2 : Int32) (A : Nat → Prop) : Array Value → State → Outcome → State → Prop := va_Qi (fun (r : Int32) (u : Vf × Lf) => rgd bM u.1 ∧ agr [(0, 60), (0, 65), (0, 68), (0, 69), (0, 73), (0, 76), (0, 90), (0, 91), (0, 92), (0, 93), (0, 95), (0, 96), (0, 98)] [59, 61, 62, 63, 64, 66, 67, 74, 75, 77, 78, 79, 80, 94, 97] V u.1 ∧ u.2 = L ∧ (0 ≤ r.toInt ∧ r.toInt ≤ 2) ∧ ((u.1 0 93).toInt = (V 0 93).toInt) ∧ ((u.1 0 98).toInt = (V 0 98).toInt) ∧ ((V 0 60).toInt ≤ (u.1 0 60).toInt) ∧ ((V 0 65).toInt ≤ (u.1 0 65).toInt) ∧ ((u.1 0 65).toInt - (V 0 65).toInt ≤ (u.1 0 60).toInt - (V 0 60).toInt) ∧ ((u.1 0 73).toInt + (u.1 0 95).toInt - (u.1 0 65).toInt ≤ (V 0 73).toInt + (V 0 95).toInt - (V 0 65).toInt) ∧ ((V 0 73).toInt ≤ (u.1 0 73).toInt) ∧ ((V 0 69).toInt ≤ (u.1 0 69).toInt) ∧ ((V 0 95).toInt ≤ (u.1 0 95).toInt) ∧ ((u.1 0 95).toInt - (V 0 95).toInt ≤ (u.1 0 65).toInt - (V 0 65).toInt) ∧ ((u.1 0 76).toInt - (u.1 0 69).toInt - (u.1 0 73).toInt ≤ (V 0 76).toInt - (V 0 69).toInt - (V 0 73).toInt) ∧ (Imp (r.toInt = 0) (0 ≤ (u.1 0 92).toInt ∧ (u.1 0 92).toInt < (u.1 0 60).toInt)) ∧ (RT u.1) ∧ (FRM V u.1 (-1))) (fun u t => gq D A (mw ad kk ks.1 u.1 u.2) (mty kk) t) A
def K_s_makes (l : Launch) (D : va_G) (ks : KS) (d1 d2 : Nat) : Prop := ∀ (sz : Nat) (ad : Nat → Nat) (kk : Nat → ClassId) (V : Vf) (L : Lf) (p0 : Int32) (p1 : Int32) (p2 : Int32) (hMV : rgd bM V) (rg_p0 : 0 ≤ p0.toInt ∧ p0.toInt ≤ 23) (rg_p1 : 0 ≤ p1.toInt ∧ p1.toInt ≤ 39) (rg_p2 : 0 ≤ p2.toInt ∧ p2.toInt ≤ 1) (rt : RT V) (n1 : (V 0 65).toInt ≤ (V 0 60).toInt) (n2 : (V 0 95).toInt ≤ (V 0 65).toInt) (n3 : (V 0 73).toInt + (V 0 95).toInt - (V 0 65).toInt ≤ 999000) (n4 : (V 0 76).toInt - (V 0 69).toInt - (V 0 73).toInt ≤ 1000000000) (n5 : 300 - (V 0 60).toInt ≤ (d1 : Int)) (n6 : 10 - (V 0 93).toInt ≤ (d2 : Int)) (n7 : (V 0 98).toInt + 400 * (d2 : Int) + 30 ≤ 19000) (tq : th V (Int32.toNatClampNeg p0)) , Met l yX12_makes (Cond.code yX12_makes cX12_makes 6 (some .int) :: GW) (rK2 (4 * d1 + 40 * d2 + 14) (100 * d1 + 1000 * d2 + 560)) (va_Pc [.ref (ad 0), .int p0, .int p1, .int p2] (gp D ks (mw ad kk ks.1 V L) (mty kk) sz)) (q_s_makes D ks ad kk V L p0 p1 p2 (va_A (mw ad kk ks.1 V L) sz)) 0 0 (va_A (mw ad kk ks.1 V L) sz)
abbrev q_s_gets (D : va_G) (ks : KS) (ad : Nat → Nat) (kk : Nat → ClassId) (V : Vf) (L : Lf) (p0 : Int32) (p1 : Int32) (A : Nat → Prop) : Array Value → State → Outcome → State → Prop := va_Qi (fun (r : Int32) (u : Vf × Lf) => rgd bM u.1 ∧ agr [(0, 60), (0, 65), (0, 68), (0, 69), (0, 73), (0, 76), (0, 90), (0, 91), (0, 92), (0, 93), (0, 95), (0, 96), (0, 98)] [59, 61, 62, 63, 64, 66, 67, 74, 75, 77, 78, 79, 80, 94, 97] V u.1 ∧ u.2 = L ∧ (0 ≤ r.toInt ∧ r.toInt ≤ 2) ∧ ((u.1 0 93).toInt = (V 0 93).toInt) ∧ ((u.1 0 98).toInt = (V 0 98).toInt) ∧ ((V 0 60).toInt ≤ (u.1 0 60).toInt) ∧ ((V 0 65).toInt ≤ (u.1 0 65).toInt) ∧ ((u.1 0 65).toInt - (V 0 65).toInt ≤ (u.1 0 60).toInt - (V 0 60).toInt) ∧ ((u.1 0 73).toInt + (u.1 0 95).toInt - (u.1 0 65).toInt ≤ (V 0 73).toInt + (V 0 95).toInt - (V 0 65).toInt) ∧ ((V 0 73).toInt ≤ (u.1 0 73).toInt) ∧ ((V 0 69).toInt ≤ (u.1 0 69).toInt) ∧ ((V 0 95).toInt ≤ (u.1 0 95).toInt) ∧ ((u.1 0 95).toInt - (V 0 95).toInt ≤ (u.1 0 65).toInt - (V 0 65).toInt) ∧ ((u.1 0 76).toInt - (u.1 0 69).toInt - (u.1 0 73).toInt ≤ (V 0 76).toInt - (V 0 69).toInt - (V 0 73).toInt) ∧ (Imp (r.toInt = 0) (0 ≤ (u.1 0 92).toInt ∧ (u.1 0 92).toInt < (u.1 0 60).toInt)) ∧ (RT u.1) ∧ (FRM V u.1 (-1))) (fun u t => gq D A (mw ad kk ks.1 u.1 u.2) (mty kk) t) A
def K_s_gets (l : Launch) (D : va_G) (ks : KS) (d1 d2 : Nat) : Prop := ∀ (sz : Nat) (ad : Nat → Nat) (kk : Nat → ClassId) (V : Vf) (L : Lf) (p0 : Int32) (p1 : Int32) (hMV : rgd bM V) (rg_p0 : 0 ≤ p0.toInt ∧ p0.toInt ≤ 23) (rg_p1 : 0 ≤ p1.toInt ∧ p1.toInt ≤ 39) (rt : RT V) (n1 : (V 0 65).toInt ≤ (V 0 60).toInt) (n2 : (V 0 95).toInt ≤ (V 0 65).toInt) (n3 : (V 0 73).toInt + (V 0 95).toInt - (V 0 65).toInt ≤ 999000) (n4 : (V 0 76).toInt - (V 0 69).toInt - (V 0 73).toInt ≤ 1000000000) (n5 : 300 - (V 0 60).toInt ≤ (d1 : Int)) (n6 : 10 - (V 0 93).toInt ≤ (d2 : Int)) (n7 : (V 0 98).toInt + 400 * (d2 : Int) + 30 ≤ 19000) (tq : th V (Int32.toNatClampNeg p0)) , Met l yX12_gets (Cond.code yX12_gets cX12_gets 6 (some .int) :: GW) (rK2 (4 * d1 + 40 * d2 + 15) (100 * d1 + 1000 * d2 + 590)) (va_Pc [.ref (ad 0), .int p0, .int p1] (gp D ks (mw ad kk ks.1 V L) (mty kk) sz)) (q_s_gets D ks ad kk V L p0 p1 (va_A (mw ad kk ks.1 V L) sz)) 0 0 (va_A (mw ad kk ks.1 V L) sz)
set_option maxHeartbeats 4000000 in
set_option maxRecDepth 100000 in
theorem s_gets {l : Launch} {D : va_G} {ks : KS} {d1 d2 : Nat} (hk_s_makes : K_s_makes l D ks d1 d2) : K_s_gets l D ks d1 d2 := by
  intro sz ad kk V L p0 p1 hMV rg_p0 rg_p1 rt n1 n2 n3 n4 n5 n6 n7 tq
  refine g_met (q_s_gets D ks ad kk V L p0 p1) (by decide) (Nat.le_of_ble_eq_true rfl) ?_
  intro p e s m below meth c A ls H locs hx hb hr hml hown hg hlocks hin hnw hgk hP hK hD hS hA hl
  have hown : s.vm.findClass RX12 = some m.cls := hown
  have hl : lv_has ls 6 [(0, .ref (ad 0)), (1, .int p0), (2, .int p1)] := hl
  have hP : va_P D vwCl (mw ad kk ks.1 V L) H := hP
  have hD : va_D A (mw ad kk ks.1 V L) := hD
  have hK : va_K D vwCl (mty kk) s := hK
  have agV : agr [(0, 60), (0, 65), (0, 68), (0, 69), (0, 73), (0, 76), (0, 90), (0, 91), (0, 92), (0, 93), (0, 95), (0, 96), (0, 98)] [59, 61, 62, 63, 64, 66, 67, 74, 75, 77, 78, 79, 80, 94, 97] V V := agr.rf
  have r1 : 0 ≤ ((V 0 65)).toInt ∧ ((V 0 65)).toInt ≤ 1000000 := hMV 0 65
  have r2 : 0 ≤ ((V 0 60)).toInt ∧ ((V 0 60)).toInt ≤ 300 := hMV 0 60
  have r3 : 0 ≤ ((V 0 95)).toInt ∧ ((V 0 95)).toInt ≤ 300 := hMV 0 95
  have r4 : 0 ≤ ((V 0 73)).toInt ∧ ((V 0 73)).toInt ≤ 1000000 := hMV 0 73
  have r5 : 0 ≤ ((V 0 76)).toInt ∧ ((V 0 76)).toInt ≤ 2000000000 := hMV 0 76
  have r6 : 0 ≤ ((V 0 69)).toInt ∧ ((V 0 69)).toInt ≤ 3000 := hMV 0 69
  have r7 : 0 ≤ ((V 0 93)).toInt ∧ ((V 0 93)).toInt ≤ 10 := hMV 0 93
  have r8 : 0 ≤ ((V 0 98)).toInt ∧ ((V 0 98)).toInt ≤ 20000 := hMV 0 98
  refine lv_aload_n hx hb dX12_gets_0 rfl (lv_at hl 0 rfl) ?_
  refine lv_iload_n hx hb dX12_gets_1 rfl (lv_at hl 1 rfl) ?_
  refine lv_iload_n hx hb dX12_gets_2 rfl (lv_at hl 2 rfl) ?_
  refine gA_int (gA_runV (As := [.int p0, .int p1]) (rest := []) (ci := 12) (q0 := 0) hx hb hml hown hg hP hD hK hS hA hnw hgk (s_placeOf l D ks H.size ad kk V L p0 p1 hMV (by first | omega | ((try (have i_tq := Imp.go tq (by omega))); (try (have i_rt := Imp.go rt (by omega))); (try (have i_rt := Imp.go rt (by omega))); (try (have i_tq := Imp.go tq (by omega))); omega)) (by first | omega | ((try (have i_tq := Imp.go tq (by omega))); (try (have i_rt := Imp.go rt (by omega))); (try (have i_rt := Imp.go rt (by omega))); (try (have i_tq := Imp.go tq (by omega))); omega))) w2247 w2249 w130 w172 w2250 rfl rfl hdV_yX12_placeOf ⟨(by show (0) + 1 ≤ (4 * d1 + 40 * d2 + 15); omega), (by show 8 + (4 + 11) + (0) ≤ (100 * d1 + 1000 * d2 + 590); omega)⟩ rfl hl.1 rfl (Nat.le_of_ble_eq_true rfl) dX12_gets_3 ⟨Nat.le_of_ble_eq_true rfl, Nat.le_of_ble_eq_true rfl⟩) hP hD hK hS hA (fun z9 u10 H locs w11 hP hD hK hS => ?_)
  have rgz9 := w11
  have rgz9 : (-1) ≤ z9.toInt ∧ z9.toInt ≤ 39 := rgz9
  refine lv_istore_n (lv' := [(3, .int z9), (0, .ref (ad 0)), (1, .int p0), (2, .int p1)]) hx hb dX12_gets_6 rfl hl (by decide) rfl (fun ls hl => ?_)
  refine lv_iload_n hx hb dX12_gets_7 rfl (lv_at hl 0 rfl) ?_
  refine lv_if_ge (tgt := 18) hx hb dX12_gets_8 (by decide) (fun c12 => ?_) (fun c12 => ?_)
  · skip
    have f13 : 0 ≤ z9.toInt := b_le (by decide) rfl c12
    refine lv_aload_n hx hb dX12_gets_18 rfl (lv_at hl 1 rfl) ?_
    refine va_get (D := D) (ci := 12) (v := .ref (ad 22)) (C := RX12) (T := TX12) (N := 100) hx hb hg inX12 hown hK hP 0 rfl rfl 22 (by decide) (hg _ w1732) (fun _ h9 => h9) rfl dX12_gets_19 ?_
    refine lv_bipush (v := 24) hx hb dX12_gets_22 (by decide) ?_
    refine lv_aload_n hx hb dX12_gets_24 rfl (lv_at hl 1 rfl) ?_
    refine va_get (D := D) (ci := 12) (v := .int (V 0 11)) (C := RX12) (T := TX12) (N := 100) hx hb hg inX12 hown hK hP 0 rfl rfl 11 (by decide) (hg _ w1721) (fun _ h9 => h9) rfl dX12_gets_25 ?_
    have r14 : 0 ≤ ((V 0 11)).toInt ∧ ((V 0 11)).toInt ≤ 1 := hMV 0 11
    refine lv_imul hx hb dX12_gets_28 ?_
    refine lv_topi (fun z15 ez15 => ?_)
    have hz15 : z15.toInt = 24 * ((V 0 11)).toInt := i_mul ez15 (by decide) rfl (by omega)
    refine lv_iload_n hx hb dX12_gets_29 rfl (lv_at hl 2 rfl) ?_
    refine lv_iadd hx hb dX12_gets_30 ?_
    refine lv_topi (fun z16 ez16 => ?_)
    have hz16 : z16.toInt = z15.toInt + p0.toInt := i_add ez16 rfl rfl (by omega)
    refine va_iald (D := D) (i := z16) hx hb hK hP 15 14 rfl rfl (i_in (a := z16.toInt) rfl (by first | omega | ((try (have i_tq := Imp.go tq (by omega))); (try (have i_rt := Imp.go rt (by omega))); (try (have i_rt := Imp.go rt (by omega))); (try (have i_tq := Imp.go tq (by omega))); omega))) dX12_gets_31 ?_
    refine lv_iconst (v := 3) hx hb dX12_gets_32 (by decide) ?_
    refine lv_icmp_ne (tgt := 40) hx hb dX12_gets_33 (by decide) (fun c17 => ?_) (fun c17 => ?_)
    · skip
      have f18 : ((V 22 (Int32.toNatClampNeg z16))).toInt ≠ 3 := b_neq rfl (by decide) c17
      refine lv_iconst (v := 0) hx hb dX12_gets_40 (by decide) ?_
      refine lv_istore (lv' := [(4, .int 0), (3, .int z9), (0, .ref (ad 0)), (1, .int p0), (2, .int p1)]) hx hb dX12_gets_41 hl (by decide) rfl (fun ls hl => ?_)
      refine lv_aload_n hx hb dX12_gets_43 rfl (lv_at hl 2 rfl) ?_
      refine va_get (D := D) (ci := 12) (v := .ref (ad 59)) (C := RX12) (T := TX12) (N := 100) hx hb hg inX12 hown hK hP 0 rfl rfl 59 (by decide) (hg _ w1769) (fun _ h9 => h9) rfl dX12_gets_44 ?_
      refine lv_bipush (v := 24) hx hb dX12_gets_47 (by decide) ?_
      refine lv_iload_n hx hb dX12_gets_49 rfl (lv_at hl 1 rfl) ?_
      refine lv_imul hx hb dX12_gets_50 ?_
      refine lv_topi (fun z19 ez19 => ?_)
      have hz19 : z19.toInt = 24 * z9.toInt := i_mul ez19 (by decide) rfl (by omega)
      refine lv_iload_n hx hb dX12_gets_51 rfl (lv_at hl 3 rfl) ?_
      refine lv_iadd hx hb dX12_gets_52 ?_
      refine lv_topi (fun z20 ez20 => ?_)
      have hz20 : z20.toInt = z19.toInt + p0.toInt := i_add ez20 rfl rfl (by omega)
      refine va_zald (D := D) (i := z20) hx hb hK hP 45 44 rfl rfl (i_in (a := z20.toInt) rfl (by first | omega | ((try (have i_tq := Imp.go tq (by omega))); (try (have i_rt := Imp.go rt (by omega))); (try (have i_rt := Imp.go rt (by omega))); (try (have i_tq := Imp.go tq (by omega))); omega))) dX12_gets_53 ?_
      have r21 : 0 ≤ ((V 59 (Int32.toNatClampNeg z20))).toInt ∧ ((V 59 (Int32.toNatClampNeg z20))).toInt ≤ 1 := hMV 59 (Int32.toNatClampNeg z20)
      refine lv_if_eq (tgt := 64) hx hb dX12_gets_54 (by decide) (fun c22 => ?_) (fun c22 => ?_)
      · skip
        have f23 : ((V 59 (Int32.toNatClampNeg z20))).toInt = 0 := b_eq rfl (by decide) c22
        refine lv_iload hx hb dX12_gets_64 (lv_at hl 0 rfl) ?_
        refine lv_if_eq (tgt := 73) hx hb dX12_gets_66 (by decide) (fun _ => ?_) (fun q => absurd (by decide) q)
        refine lv_aload_n hx hb dX12_gets_73 rfl (lv_at hl 2 rfl) ?_
        refine lv_iload_n hx hb dX12_gets_74 rfl (lv_at hl 3 rfl) ?_
        refine lv_iload_n hx hb dX12_gets_75 rfl (lv_at hl 1 rfl) ?_
        refine gA_int (gA_runV (As := [.int p0, .int z9]) (rest := []) (ci := 12) (q0 := 0) hx hb hml hown hg hP hD hK hS hA hnw hgk (s_objectAt l D ks H.size ad kk V L p0 z9 hMV ) w2255 w2257 w132 w172 w2258 rfl rfl hdV_yX12_objectAt ⟨(by show (0) + 1 ≤ (4 * d1 + 40 * d2 + 15); omega), (by show 8 + (5 + 11) + (0) ≤ (100 * d1 + 1000 * d2 + 590); omega)⟩ rfl hl.1 rfl (Nat.le_of_ble_eq_true rfl) dX12_gets_76 ⟨Nat.le_of_ble_eq_true rfl, Nat.le_of_ble_eq_true rfl⟩) hP hD hK hS hA (fun z24 u25 H locs w26 hP hD hK hS => ?_)
        obtain ⟨rgz24, t27⟩ := w26
        have rgz24 : (-1) ≤ z24.toInt ∧ z24.toInt ≤ 299 := rgz24
        have t27 : z24.toInt < (V 0 60).toInt := t27
        refine lv_istore (lv' := [(5, .int z24), (4, .int 0), (3, .int z9), (0, .ref (ad 0)), (1, .int p0), (2, .int p1)]) hx hb dX12_gets_79 hl (by decide) rfl (fun ls hl => ?_)
        refine lv_iload hx hb dX12_gets_81 (lv_at hl 0 rfl) ?_
        refine lv_if_lt (tgt := 103) hx hb dX12_gets_83 (by decide) (fun c28 => ?_) (fun c28 => ?_)
        · skip
          have f29 : z24.toInt < 0 := b_lt rfl (by decide) c28
          refine lv_iload hx hb dX12_gets_103 (lv_at hl 0 rfl) ?_
          refine lv_if_lt (tgt := 116) hx hb dX12_gets_105 (by decide) (fun c30 => ?_) (fun c30 => ?_)
          · skip
            have f31 : z24.toInt < 0 := b_lt rfl (by decide) c30
            refine lv_aload_n hx hb dX12_gets_116 rfl (lv_at hl 3 rfl) ?_
            refine lv_iload_n hx hb dX12_gets_117 rfl (lv_at hl 4 rfl) ?_
            refine lv_iload_n hx hb dX12_gets_118 rfl (lv_at hl 2 rfl) ?_
            refine lv_iload hx hb dX12_gets_119 (lv_at hl 1 rfl) ?_
            have r32 : Int32.toInt 0 = 0 := by decide
            refine gA_int (gA_runV (As := [.int p0, .int z9, .int 0]) (rest := []) (ci := 12) (q0 := 0) hx hb hml hown hg hP hD hK hS hA hnw hgk (hk_s_makes H.size ad kk V L p0 z9 0 hMV (by first | omega | ((try (have i_tq := Imp.go tq (by omega))); (try (have i_rt := Imp.go rt (by omega))); (try (have i_rt := Imp.go rt (by omega))); (try (have i_tq := Imp.go tq (by omega))); omega)) (by first | omega | ((try (have i_tq := Imp.go tq (by omega))); (try (have i_rt := Imp.go rt (by omega))); (try (have i_rt := Imp.go rt (by omega))); (try (have i_tq := Imp.go tq (by omega))); omega)) (by decide) rt (show (V 0 65).toInt ≤ (V 0 60).toInt from by first | omega | ((try (have i_tq := Imp.go tq (by omega))); (try (have i_rt := Imp.go rt (by omega))); (try (have i_rt := Imp.go rt (by omega))); (try (have i_tq := Imp.go tq (by omega))); omega)) (show (V 0 95).toInt ≤ (V 0 65).toInt from by first | omega | ((try (have i_tq := Imp.go tq (by omega))); (try (have i_rt := Imp.go rt (by omega))); (try (have i_rt := Imp.go rt (by omega))); (try (have i_tq := Imp.go tq (by omega))); omega)) (show (V 0 73).toInt + (V 0 95).toInt - (V 0 65).toInt ≤ 999000 from by first | omega | ((try (have i_tq := Imp.go tq (by omega))); (try (have i_rt := Imp.go rt (by omega))); (try (have i_rt := Imp.go rt (by omega))); (try (have i_tq := Imp.go tq (by omega))); omega)) (show (V 0 76).toInt - (V 0 69).toInt - (V 0 73).toInt ≤ 1000000000 from by first | omega | ((try (have i_tq := Imp.go tq (by omega))); (try (have i_rt := Imp.go rt (by omega))); (try (have i_rt := Imp.go rt (by omega))); (try (have i_tq := Imp.go tq (by omega))); omega)) (show 300 - (V 0 60).toInt ≤ ((d1 : Nat) : Int) from by first | omega | ((try (have i_tq := Imp.go tq (by omega))); (try (have i_rt := Imp.go rt (by omega))); (try (have i_rt := Imp.go rt (by omega))); (try (have i_tq := Imp.go tq (by omega))); omega)) (show 10 - (V 0 93).toInt ≤ ((d2 : Nat) : Int) from by first | omega | ((try (have i_tq := Imp.go tq (by omega))); (try (have i_rt := Imp.go rt (by omega))); (try (have i_rt := Imp.go rt (by omega))); (try (have i_tq := Imp.go tq (by omega))); omega)) (show (V 0 98).toInt + 400 * ((d2 : Nat) : Int) + 30 ≤ 19000 from by first | omega | ((try (have i_tq := Imp.go tq (by omega))); (try (have i_rt := Imp.go rt (by omega))); (try (have i_rt := Imp.go rt (by omega))); (try (have i_tq := Imp.go tq (by omega))); omega)) tq) w2259 w2261 w133 w172 w2262 rfl rfl hdV_yX12_makes ⟨(by show (4 * (d1) + 40 * (d2) + 14) + 1 ≤ (4 * d1 + 40 * d2 + 15); omega), (by show 8 + (6 + 11) + (100 * (d1) + 1000 * (d2) + 560) ≤ (100 * d1 + 1000 * d2 + 590); omega)⟩ rfl hl.1 rfl (Nat.le_of_ble_eq_true rfl) dX12_gets_121 ⟨Nat.le_of_ble_eq_true rfl, Nat.le_of_ble_eq_true rfl⟩) hP hD hK hS hA (fun z33 u34 H locs w35 hP hD hK hS => ?_)
            obtain ⟨V50, L51⟩ := u34
            obtain ⟨hMV50, ajV50, axL51, rgz33, t36, t37, t38, t39, t40, t41, t42, t43, t44, t45, t46, t47, t48, t49⟩ := w35
            have axL51 : L = L51 := Eq.symm axL51
            subst axL51
            have hP : va_P D vwCl (mw ad kk ks.1 V50 L) H := hP
            have hD : va_D A (mw ad kk ks.1 V50 L) := hD
            have hMV50 : rgd bM V50 := hMV50
            have ajV50 : agr [(0, 60), (0, 65), (0, 68), (0, 69), (0, 73), (0, 76), (0, 90), (0, 91), (0, 92), (0, 93), (0, 95), (0, 96), (0, 98)] [59, 61, 62, 63, 64, 66, 67, 74, 75, 77, 78, 79, 80, 94, 97] V V50 := ajV50
            have agV50 : agr [(0, 60), (0, 65), (0, 68), (0, 69), (0, 73), (0, 76), (0, 90), (0, 91), (0, 92), (0, 93), (0, 95), (0, 96), (0, 98)] [59, 61, 62, 63, 64, 66, 67, 74, 75, 77, 78, 79, 80, 94, 97] V V50 := agV.tr ajV50 (by decide) (by decide)
            have rgz33 : 0 ≤ z33.toInt ∧ z33.toInt ≤ 2 := rgz33
            have t36 : (V50 0 93).toInt = (V 0 93).toInt := t36
            have t37 : (V50 0 98).toInt = (V 0 98).toInt := t37
            have t38 : (V 0 60).toInt ≤ (V50 0 60).toInt := t38
            have t39 : (V 0 65).toInt ≤ (V50 0 65).toInt := t39
            have t40 : (V50 0 65).toInt - (V 0 65).toInt ≤ (V50 0 60).toInt - (V 0 60).toInt := t40
            have t41 : (V50 0 73).toInt + (V50 0 95).toInt - (V50 0 65).toInt ≤ (V 0 73).toInt + (V 0 95).toInt - (V 0 65).toInt := t41
            have t42 : (V 0 73).toInt ≤ (V50 0 73).toInt := t42
            have t43 : (V 0 69).toInt ≤ (V50 0 69).toInt := t43
            have t44 : (V 0 95).toInt ≤ (V50 0 95).toInt := t44
            have t45 : (V50 0 95).toInt - (V 0 95).toInt ≤ (V50 0 65).toInt - (V 0 65).toInt := t45
            have t46 : (V50 0 76).toInt - (V50 0 69).toInt - (V50 0 73).toInt ≤ (V 0 76).toInt - (V 0 69).toInt - (V 0 73).toInt := t46
            have t47 : Imp (z33.toInt = 0) (0 ≤ (V50 0 92).toInt ∧ (V50 0 92).toInt < (V50 0 60).toInt) := t47
            have t48 : RT V50 := t48
            have t49 : FRM V V50 (-1) := t49
            have r52 : 0 ≤ ((V50 0 93)).toInt ∧ ((V50 0 93)).toInt ≤ 10 := hMV50 0 93
            have r53 : 0 ≤ ((V50 0 98)).toInt ∧ ((V50 0 98)).toInt ≤ 20000 := hMV50 0 98
            have r54 : 0 ≤ ((V50 0 60)).toInt ∧ ((V50 0 60)).toInt ≤ 300 := hMV50 0 60
            have r55 : 0 ≤ ((V50 0 65)).toInt ∧ ((V50 0 65)).toInt ≤ 1000000 := hMV50 0 65
            have r56 : 0 ≤ ((V50 0 73)).toInt ∧ ((V50 0 73)).toInt ≤ 1000000 := hMV50 0 73
            have r57 : 0 ≤ ((V50 0 95)).toInt ∧ ((V50 0 95)).toInt ≤ 300 := hMV50 0 95
            have r58 : 0 ≤ ((V50 0 69)).toInt ∧ ((V50 0 69)).toInt ≤ 3000 := hMV50 0 69
            have r59 : 0 ≤ ((V50 0 76)).toInt ∧ ((V50 0 76)).toInt ≤ 2000000000 := hMV50 0 76
            have fm60 : FRM V V50 (-1) := (t49 : FRM V V50 (-1))
            exact W.iret (v := z33) hx hb hr (fun t ht hW => ⟨⟨z33, (V50, L), rfl, ⟨hMV50, agV50, rfl, (show 0 ≤ z33.toInt ∧ z33.toInt ≤ 2 from by first | omega | ((try (have i_t47 := Imp.go t47 (by omega))); (try (have i_tq := Imp.go tq (by omega))); (try (have i_rt := Imp.go rt (by omega))); (try (have i_rt := Imp.go rt (by omega))); (try (have i_tq := Imp.go tq (by omega))); (try (have i_t47 := Imp.go t47 (by omega))); omega)), (show (V50 0 93).toInt = (V 0 93).toInt from by first | omega | ((try (have i_t47 := Imp.go t47 (by omega))); (try (have i_tq := Imp.go tq (by omega))); (try (have i_rt := Imp.go rt (by omega))); (try (have i_rt := Imp.go rt (by omega))); (try (have i_tq := Imp.go tq (by omega))); (try (have i_t47 := Imp.go t47 (by omega))); omega)), (show (V50 0 98).toInt = (V 0 98).toInt from by first | omega | ((try (have i_t47 := Imp.go t47 (by omega))); (try (have i_tq := Imp.go tq (by omega))); (try (have i_rt := Imp.go rt (by omega))); (try (have i_rt := Imp.go rt (by omega))); (try (have i_tq := Imp.go tq (by omega))); (try (have i_t47 := Imp.go t47 (by omega))); omega)), (show (V 0 60).toInt ≤ (V50 0 60).toInt from by first | omega | ((try (have i_t47 := Imp.go t47 (by omega))); (try (have i_tq := Imp.go tq (by omega))); (try (have i_rt := Imp.go rt (by omega))); (try (have i_rt := Imp.go rt (by omega))); (try (have i_tq := Imp.go tq (by omega))); (try (have i_t47 := Imp.go t47 (by omega))); omega)), (show (V 0 65).toInt ≤ (V50 0 65).toInt from by first | omega | ((try (have i_t47 := Imp.go t47 (by omega))); (try (have i_tq := Imp.go tq (by omega))); (try (have i_rt := Imp.go rt (by omega))); (try (have i_rt := Imp.go rt (by omega))); (try (have i_tq := Imp.go tq (by omega))); (try (have i_t47 := Imp.go t47 (by omega))); omega)), (show (V50 0 65).toInt - (V 0 65).toInt ≤ (V50 0 60).toInt - (V 0 60).toInt from by first | omega | ((try (have i_t47 := Imp.go t47 (by omega))); (try (have i_tq := Imp.go tq (by omega))); (try (have i_rt := Imp.go rt (by omega))); (try (have i_rt := Imp.go rt (by omega))); (try (have i_tq := Imp.go tq (by omega))); (try (have i_t47 := Imp.go t47 (by omega))); omega)), (show (V50 0 73).toInt + (V50 0 95).toInt - (V50 0 65).toInt ≤ (V 0 73).toInt + (V 0 95).toInt - (V 0 65).toInt from by first | omega | ((try (have i_t47 := Imp.go t47 (by omega))); (try (have i_tq := Imp.go tq (by omega))); (try (have i_rt := Imp.go rt (by omega))); (try (have i_rt := Imp.go rt (by omega))); (try (have i_tq := Imp.go tq (by omega))); (try (have i_t47 := Imp.go t47 (by omega))); omega)), (show (V 0 73).toInt ≤ (V50 0 73).toInt from by first | omega | ((try (have i_t47 := Imp.go t47 (by omega))); (try (have i_tq := Imp.go tq (by omega))); (try (have i_rt := Imp.go rt (by omega))); (try (have i_rt := Imp.go rt (by omega))); (try (have i_tq := Imp.go tq (by omega))); (try (have i_t47 := Imp.go t47 (by omega))); omega)), (show (V 0 69).toInt ≤ (V50 0 69).toInt from by first | omega | ((try (have i_t47 := Imp.go t47 (by omega))); (try (have i_tq := Imp.go tq (by omega))); (try (have i_rt := Imp.go rt (by omega))); (try (have i_rt := Imp.go rt (by omega))); (try (have i_tq := Imp.go tq (by omega))); (try (have i_t47 := Imp.go t47 (by omega))); omega)), (show (V 0 95).toInt ≤ (V50 0 95).toInt from by first | omega | ((try (have i_t47 := Imp.go t47 (by omega))); (try (have i_tq := Imp.go tq (by omega))); (try (have i_rt := Imp.go rt (by omega))); (try (have i_rt := Imp.go rt (by omega))); (try (have i_tq := Imp.go tq (by omega))); (try (have i_t47 := Imp.go t47 (by omega))); omega)), (show (V50 0 95).toInt - (V 0 95).toInt ≤ (V50 0 65).toInt - (V 0 65).toInt from by first | omega | ((try (have i_t47 := Imp.go t47 (by omega))); (try (have i_tq := Imp.go tq (by omega))); (try (have i_rt := Imp.go rt (by omega))); (try (have i_rt := Imp.go rt (by omega))); (try (have i_tq := Imp.go tq (by omega))); (try (have i_t47 := Imp.go t47 (by omega))); omega)), (show (V50 0 76).toInt - (V50 0 69).toInt - (V50 0 73).toInt ≤ (V 0 76).toInt - (V 0 69).toInt - (V 0 73).toInt from by first | omega | ((try (have i_t47 := Imp.go t47 (by omega))); (try (have i_tq := Imp.go tq (by omega))); (try (have i_rt := Imp.go rt (by omega))); (try (have i_rt := Imp.go rt (by omega))); (try (have i_tq := Imp.go tq (by omega))); (try (have i_t47 := Imp.go t47 (by omega))); omega)), (Imp.mk (fun hp => have hp : z33.toInt = 0 := hp; (show 0 ≤ (V50 0 92).toInt ∧ (V50 0 92).toInt < (V50 0 60).toInt from by first | omega | ((try (have i_t47 := Imp.go t47 (by omega))); (try (have i_tq := Imp.go tq (by omega))); (try (have i_rt := Imp.go rt (by omega))); (try (have i_rt := Imp.go rt (by omega))); (try (have i_tq := Imp.go tq (by omega))); (try (have i_t47 := Imp.go t47 (by omega))); omega)))), t48, fm60⟩, by rw [ht]; exact hP, va_K.moved hW.alike hK, hD⟩, hS.F ht⟩) hS.2.2 dX12_gets_124
          · skip
            have f61 : 0 ≤ z24.toInt := b_nlt rfl (by decide) c30
            exfalso; first | omega | ((try (have i_tq := Imp.go tq (by omega))); (try (have i_rt := Imp.go rt (by omega))); (try (have i_rt := Imp.go rt (by omega))); (try (have i_tq := Imp.go tq (by omega))); omega)
        · skip
          have f62 : 0 ≤ z24.toInt := b_nlt rfl (by decide) c28
          refine lv_aload_n hx hb dX12_gets_86 rfl (lv_at hl 3 rfl) ?_
          refine va_get (D := D) (ci := 12) (v := .ref (ad 63)) (C := RX12) (T := TX12) (N := 100) hx hb hg inX12 hown hK hP 0 rfl rfl 63 (by decide) (hg _ w1773) (fun _ h9 => h9) rfl dX12_gets_87 ?_
          refine lv_iload hx hb dX12_gets_90 (lv_at hl 0 rfl) ?_
          refine va_iald (D := D) (i := z24) hx hb hK hP 48 47 rfl rfl (i_in (a := z24.toInt) rfl (by first | omega | ((try (have i_tq := Imp.go tq (by omega))); (try (have i_rt := Imp.go rt (by omega))); (try (have i_rt := Imp.go rt (by omega))); (try (have i_tq := Imp.go tq (by omega))); omega))) dX12_gets_92 ?_
          have r63 : 0 ≤ ((V 63 (Int32.toNatClampNeg z24))).toInt ∧ ((V 63 (Int32.toNatClampNeg z24))).toInt ≤ 2 := hMV 63 (Int32.toNatClampNeg z24)
          refine lv_if_ne (tgt := 103) hx hb dX12_gets_93 (by decide) (fun c64 => ?_) (fun c64 => ?_)
          · skip
            have f65 : ((V 63 (Int32.toNatClampNeg z24))).toInt ≠ 0 := b_neq rfl (by decide) c64
            refine lv_iload hx hb dX12_gets_103 (lv_at hl 0 rfl) ?_
            refine lv_if_lt (tgt := 116) hx hb dX12_gets_105 (by decide) (fun c66 => ?_) (fun c66 => ?_)
            · skip
              have f67 : z24.toInt < 0 := b_lt rfl (by decide) c66
              exfalso; first | omega | ((try (have i_tq := Imp.go tq (by omega))); (try (have i_rt := Imp.go rt (by omega))); (try (have i_rt := Imp.go rt (by omega))); (try (have i_tq := Imp.go tq (by omega))); omega)
            · skip
              have f68 : 0 ≤ z24.toInt := b_nlt rfl (by decide) c66
              refine lv_aload_n hx hb dX12_gets_108 rfl (lv_at hl 3 rfl) ?_
              refine lv_iload hx hb dX12_gets_109 (lv_at hl 0 rfl) ?_
              refine va_put (D := D) (ci := 12) (v := .int z24) (ty := tyX12 92) (C := RX12) (T := TX12) (N := 100) hx hb hg inX12 tyX12 tyX12_ok nmX12 hown hK hP hD hS 0 rfl rfl 92 (by decide) (hg _ w1802) (fun _ h9 => h9) rfl (tyX12_ok 92 (by decide)) rfl rfl (Nat.le_of_ble_eq_true rfl) dX12_gets_111 (fun H locs hP hD hS => ?_)
              obtain ⟨V69, hV69⟩ : ∃ z, z = up2 V 0 92 z24 := ⟨_, rfl⟩
              have hP : va_P D vwCl (mw ad kk ks.1 V69 L) H := by rw [hV69]; exact hP
              have hD : va_D A (mw ad kk ks.1 V69 L) := by rw [hV69]; exact hD
              have hMV69 : rgd bM V69 := hMV.put hV69 (i_full _)
              have agV69 : agr [(0, 60), (0, 65), (0, 68), (0, 69), (0, 73), (0, 76), (0, 90), (0, 91), (0, 92), (0, 93), (0, 95), (0, 96), (0, 98)] [59, 61, 62, 63, 64, 66, 67, 74, 75, 77, 78, 79, 80, 94, 97] V V69 := agV.up hV69 rfl
              refine lv_iconst (v := 0) hx hb dX12_gets_114 (by decide) ?_
              have pq70 : (V69 0 93).toInt = ((V 0 93)).toInt := congrArg Int32.toInt (up2_k hV69 (by decide))
              have pq71 : (V69 0 98).toInt = ((V 0 98)).toInt := congrArg Int32.toInt (up2_k hV69 (by decide))
              have pq72 : (V69 0 60).toInt = ((V 0 60)).toInt := congrArg Int32.toInt (up2_k hV69 (by decide))
              have pq73 : (V69 0 65).toInt = ((V 0 65)).toInt := congrArg Int32.toInt (up2_k hV69 (by decide))
              have pq74 : (V69 0 73).toInt = ((V 0 73)).toInt := congrArg Int32.toInt (up2_k hV69 (by decide))
              have pq75 : (V69 0 95).toInt = ((V 0 95)).toInt := congrArg Int32.toInt (up2_k hV69 (by decide))
              have pq76 : (V69 0 69).toInt = ((V 0 69)).toInt := congrArg Int32.toInt (up2_k hV69 (by decide))
              have pq77 : (V69 0 76).toInt = ((V 0 76)).toInt := congrArg Int32.toInt (up2_k hV69 (by decide))
              have pq78 : (V69 0 92).toInt = z24.toInt := congrArg Int32.toInt (up2_s hV69)
              have rt79 : RT V69 := RT.ag rt hMV (show agr [(0, 92)] [] V V69 from (agr.up agr.rf hV69 rfl)) ⟨⟨rfl, fun _ => rfl, fun _ => rfl, fun _ => rfl, fun _ => rfl, fun _ => rfl, fun _ => rfl⟩, by decide, by decide, rfl, rfl, fun _ => rfl, fun _ => rfl, fun _ => rfl, fun _ => rfl, fun _ => rfl, fun _ => rfl⟩ (c0k.ag (show agr [(0, 92)] [] V V69 from (agr.up agr.rf hV69 rfl)) rfl)
              have fm80 : FRM V V69 (-1) := ((FRM.ag (show agr [(0, 92)] [] V V69 from (agr.up agr.rf hV69 rfl)) ⟨⟨rfl, fun _ => rfl, fun _ => rfl, fun _ => rfl, fun _ => rfl, fun _ => rfl, fun _ => rfl⟩, by decide, by decide, rfl, rfl, fun _ => rfl, fun _ => rfl, fun _ => rfl, fun _ => rfl, fun _ => rfl, fun _ => rfl⟩) : FRM V V69 (-1))
              exact W.iret (v := 0) hx hb hr (fun t ht hW => ⟨⟨0, (V69, L), rfl, ⟨hMV69, agV69, rfl, (by decide), (show (V69 0 93).toInt = (V 0 93).toInt from by first | omega | ((try (have i_tq := Imp.go tq (by omega))); (try (have i_rt := Imp.go rt (by omega))); (try (have i_rt := Imp.go rt (by omega))); (try (have i_tq := Imp.go tq (by omega))); omega)), (show (V69 0 98).toInt = (V 0 98).toInt from by first | omega | ((try (have i_tq := Imp.go tq (by omega))); (try (have i_rt := Imp.go rt (by omega))); (try (have i_rt := Imp.go rt (by omega))); (try (have i_tq := Imp.go tq (by omega))); omega)), (show (V 0 60).toInt ≤ (V69 0 60).toInt from by first | omega | ((try (have i_tq := Imp.go tq (by omega))); (try (have i_rt := Imp.go rt (by omega))); (try (have i_rt := Imp.go rt (by omega))); (try (have i_tq := Imp.go tq (by omega))); omega)), (show (V 0 65).toInt ≤ (V69 0 65).toInt from by first | omega | ((try (have i_tq := Imp.go tq (by omega))); (try (have i_rt := Imp.go rt (by omega))); (try (have i_rt := Imp.go rt (by omega))); (try (have i_tq := Imp.go tq (by omega))); omega)), (show (V69 0 65).toInt - (V 0 65).toInt ≤ (V69 0 60).toInt - (V 0 60).toInt from by first | omega | ((try (have i_tq := Imp.go tq (by omega))); (try (have i_rt := Imp.go rt (by omega))); (try (have i_rt := Imp.go rt (by omega))); (try (have i_tq := Imp.go tq (by omega))); omega)), (show (V69 0 73).toInt + (V69 0 95).toInt - (V69 0 65).toInt ≤ (V 0 73).toInt + (V 0 95).toInt - (V 0 65).toInt from by first | omega | ((try (have i_tq := Imp.go tq (by omega))); (try (have i_rt := Imp.go rt (by omega))); (try (have i_rt := Imp.go rt (by omega))); (try (have i_tq := Imp.go tq (by omega))); omega)), (show (V 0 73).toInt ≤ (V69 0 73).toInt from by first | omega | ((try (have i_tq := Imp.go tq (by omega))); (try (have i_rt := Imp.go rt (by omega))); (try (have i_rt := Imp.go rt (by omega))); (try (have i_tq := Imp.go tq (by omega))); omega)), (show (V 0 69).toInt ≤ (V69 0 69).toInt from by first | omega | ((try (have i_tq := Imp.go tq (by omega))); (try (have i_rt := Imp.go rt (by omega))); (try (have i_rt := Imp.go rt (by omega))); (try (have i_tq := Imp.go tq (by omega))); omega)), (show (V 0 95).toInt ≤ (V69 0 95).toInt from by first | omega | ((try (have i_tq := Imp.go tq (by omega))); (try (have i_rt := Imp.go rt (by omega))); (try (have i_rt := Imp.go rt (by omega))); (try (have i_tq := Imp.go tq (by omega))); omega)), (show (V69 0 95).toInt - (V 0 95).toInt ≤ (V69 0 65).toInt - (V 0 65).toInt from by first | omega | ((try (have i_tq := Imp.go tq (by omega))); (try (have i_rt := Imp.go rt (by omega))); (try (have i_rt := Imp.go rt (by omega))); (try (have i_tq := Imp.go tq (by omega))); omega)), (show (V69 0 76).toInt - (V69 0 69).toInt - (V69 0 73).toInt ≤ (V 0 76).toInt - (V 0 69).toInt - (V 0 73).toInt from by first | omega | ((try (have i_tq := Imp.go tq (by omega))); (try (have i_rt := Imp.go rt (by omega))); (try (have i_rt := Imp.go rt (by omega))); (try (have i_tq := Imp.go tq (by omega))); omega)), (Imp.mk (fun _ => (show 0 ≤ (V69 0 92).toInt ∧ (V69 0 92).toInt < (V69 0 60).toInt from by first | omega | ((try (have i_tq := Imp.go tq (by omega))); (try (have i_rt := Imp.go rt (by omega))); (try (have i_rt := Imp.go rt (by omega))); (try (have i_tq := Imp.go tq (by omega))); omega)))), rt79, fm80⟩, by rw [ht]; exact hP, va_K.moved hW.alike hK, hD⟩, hS.F ht⟩) hS.2.2 dX12_gets_115
          · skip
            have f81 : ((V 63 (Int32.toNatClampNeg z24))).toInt = 0 := b_eq rfl (by decide) c64
            refine lv_aload_n hx hb dX12_gets_96 rfl (lv_at hl 3 rfl) ?_
            refine lv_bipush (v := 12) hx hb dX12_gets_97 (by decide) ?_
            have r82 : Int32.toInt 12 = 12 := by decide
            refine gA_int (gA_runV (As := [.int 12]) (rest := []) (ci := 12) (q0 := 0) hx hb hml hown hg hP hD hK hS hA hnw hgk (s_fails2 l D ks H.size ad kk V L 12 hMV ) w2251 w2253 w131 w172 w2254 rfl rfl hdV_yX12_fails ⟨(by show (0) + 1 ≤ (4 * d1 + 40 * d2 + 15); omega), (by show 8 + (2 + 11) + (0) ≤ (100 * d1 + 1000 * d2 + 590); omega)⟩ rfl hl.1 rfl (Nat.le_of_ble_eq_true rfl) dX12_gets_99 ⟨Nat.le_of_ble_eq_true rfl, Nat.le_of_ble_eq_true rfl⟩) hP hD hK hS hA (fun z83 u84 H locs w85 hP hD hK hS => ?_)
            obtain ⟨V86, L87⟩ := u84
            obtain ⟨hMV86, ajV86, axL87, rgz83⟩ := w85
            have axL87 : L = L87 := Eq.symm axL87
            subst axL87
            have hP : va_P D vwCl (mw ad kk ks.1 V86 L) H := hP
            have hD : va_D A (mw ad kk ks.1 V86 L) := hD
            have hMV86 : rgd bM V86 := hMV86
            have ajV86 : agr [(0, 90), (0, 91)] [] V V86 := ajV86
            have agV86 : agr [(0, 60), (0, 65), (0, 68), (0, 69), (0, 73), (0, 76), (0, 90), (0, 91), (0, 92), (0, 93), (0, 95), (0, 96), (0, 98)] [59, 61, 62, 63, 64, 66, 67, 74, 75, 77, 78, 79, 80, 94, 97] V V86 := agV.tr ajV86 (by decide) (by decide)
            have rgz83 : 1 ≤ z83.toInt ∧ z83.toInt ≤ 1 := rgz83
            have pq88 : (V86 0 93).toInt = ((V 0 93)).toInt := congrArg Int32.toInt (ajV86 0 93 rfl)
            have pq89 : (V86 0 98).toInt = ((V 0 98)).toInt := congrArg Int32.toInt (ajV86 0 98 rfl)
            have pq90 : (V86 0 60).toInt = ((V 0 60)).toInt := congrArg Int32.toInt (ajV86 0 60 rfl)
            have pq91 : (V86 0 65).toInt = ((V 0 65)).toInt := congrArg Int32.toInt (ajV86 0 65 rfl)
            have pq92 : (V86 0 73).toInt = ((V 0 73)).toInt := congrArg Int32.toInt (ajV86 0 73 rfl)
            have pq93 : (V86 0 95).toInt = ((V 0 95)).toInt := congrArg Int32.toInt (ajV86 0 95 rfl)
            have pq94 : (V86 0 69).toInt = ((V 0 69)).toInt := congrArg Int32.toInt (ajV86 0 69 rfl)
            have pq95 : (V86 0 76).toInt = ((V 0 76)).toInt := congrArg Int32.toInt (ajV86 0 76 rfl)
            have pq96 : (V86 0 92).toInt = ((V 0 92)).toInt := congrArg Int32.toInt (ajV86 0 92 rfl)
            have rt97 : RT V86 := RT.ag rt hMV (show agr [(0, 90), (0, 91)] [] V V86 from (agr.tr agr.rf ajV86 (by decide) (by decide))) ⟨⟨rfl, fun _ => rfl, fun _ => rfl, fun _ => rfl, fun _ => rfl, fun _ => rfl, fun _ => rfl⟩, by decide, by decide, rfl, rfl, fun _ => rfl, fun _ => rfl, fun _ => rfl, fun _ => rfl, fun _ => rfl, fun _ => rfl⟩ (c0k.ag (show agr [(0, 90), (0, 91)] [] V V86 from (agr.tr agr.rf ajV86 (by decide) (by decide))) rfl)
            have fm98 : FRM V V86 (-1) := ((FRM.ag (show agr [(0, 90), (0, 91)] [] V V86 from (agr.tr agr.rf ajV86 (by decide) (by decide))) ⟨⟨rfl, fun _ => rfl, fun _ => rfl, fun _ => rfl, fun _ => rfl, fun _ => rfl, fun _ => rfl⟩, by decide, by decide, rfl, rfl, fun _ => rfl, fun _ => rfl, fun _ => rfl, fun _ => rfl, fun _ => rfl, fun _ => rfl⟩) : FRM V V86 (-1))
            exact W.iret (v := z83) hx hb hr (fun t ht hW => ⟨⟨z83, (V86, L), rfl, ⟨hMV86, agV86, rfl, (show 0 ≤ z83.toInt ∧ z83.toInt ≤ 2 from by first | omega | ((try (have i_tq := Imp.go tq (by omega))); (try (have i_rt := Imp.go rt (by omega))); (try (have i_rt := Imp.go rt (by omega))); (try (have i_tq := Imp.go tq (by omega))); omega)), (show (V86 0 93).toInt = (V 0 93).toInt from by first | omega | ((try (have i_tq := Imp.go tq (by omega))); (try (have i_rt := Imp.go rt (by omega))); (try (have i_rt := Imp.go rt (by omega))); (try (have i_tq := Imp.go tq (by omega))); omega)), (show (V86 0 98).toInt = (V 0 98).toInt from by first | omega | ((try (have i_tq := Imp.go tq (by omega))); (try (have i_rt := Imp.go rt (by omega))); (try (have i_rt := Imp.go rt (by omega))); (try (have i_tq := Imp.go tq (by omega))); omega)), (show (V 0 60).toInt ≤ (V86 0 60).toInt from by first | omega | ((try (have i_tq := Imp.go tq (by omega))); (try (have i_rt := Imp.go rt (by omega))); (try (have i_rt := Imp.go rt (by omega))); (try (have i_tq := Imp.go tq (by omega))); omega)), (show (V 0 65).toInt ≤ (V86 0 65).toInt from by first | omega | ((try (have i_tq := Imp.go tq (by omega))); (try (have i_rt := Imp.go rt (by omega))); (try (have i_rt := Imp.go rt (by omega))); (try (have i_tq := Imp.go tq (by omega))); omega)), (show (V86 0 65).toInt - (V 0 65).toInt ≤ (V86 0 60).toInt - (V 0 60).toInt from by first | omega | ((try (have i_tq := Imp.go tq (by omega))); (try (have i_rt := Imp.go rt (by omega))); (try (have i_rt := Imp.go rt (by omega))); (try (have i_tq := Imp.go tq (by omega))); omega)), (show (V86 0 73).toInt + (V86 0 95).toInt - (V86 0 65).toInt ≤ (V 0 73).toInt + (V 0 95).toInt - (V 0 65).toInt from by first | omega | ((try (have i_tq := Imp.go tq (by omega))); (try (have i_rt := Imp.go rt (by omega))); (try (have i_rt := Imp.go rt (by omega))); (try (have i_tq := Imp.go tq (by omega))); omega)), (show (V 0 73).toInt ≤ (V86 0 73).toInt from by first | omega | ((try (have i_tq := Imp.go tq (by omega))); (try (have i_rt := Imp.go rt (by omega))); (try (have i_rt := Imp.go rt (by omega))); (try (have i_tq := Imp.go tq (by omega))); omega)), (show (V 0 69).toInt ≤ (V86 0 69).toInt from by first | omega | ((try (have i_tq := Imp.go tq (by omega))); (try (have i_rt := Imp.go rt (by omega))); (try (have i_rt := Imp.go rt (by omega))); (try (have i_tq := Imp.go tq (by omega))); omega)), (show (V 0 95).toInt ≤ (V86 0 95).toInt from by first | omega | ((try (have i_tq := Imp.go tq (by omega))); (try (have i_rt := Imp.go rt (by omega))); (try (have i_rt := Imp.go rt (by omega))); (try (have i_tq := Imp.go tq (by omega))); omega)), (show (V86 0 95).toInt - (V 0 95).toInt ≤ (V86 0 65).toInt - (V 0 65).toInt from by first | omega | ((try (have i_tq := Imp.go tq (by omega))); (try (have i_rt := Imp.go rt (by omega))); (try (have i_rt := Imp.go rt (by omega))); (try (have i_tq := Imp.go tq (by omega))); omega)), (show (V86 0 76).toInt - (V86 0 69).toInt - (V86 0 73).toInt ≤ (V 0 76).toInt - (V 0 69).toInt - (V 0 73).toInt from by first | omega | ((try (have i_tq := Imp.go tq (by omega))); (try (have i_rt := Imp.go rt (by omega))); (try (have i_rt := Imp.go rt (by omega))); (try (have i_tq := Imp.go tq (by omega))); omega)), (Imp.mk (fun hp => have hp : z83.toInt = 0 := hp; (show 0 ≤ (V86 0 92).toInt ∧ (V86 0 92).toInt < (V86 0 60).toInt from by first | omega | ((try (have i_tq := Imp.go tq (by omega))); (try (have i_rt := Imp.go rt (by omega))); (try (have i_rt := Imp.go rt (by omega))); (try (have i_tq := Imp.go tq (by omega))); omega)))), rt97, fm98⟩, by rw [ht]; exact hP, va_K.moved hW.alike hK, hD⟩, hS.F ht⟩) hS.2.2 dX12_gets_102
      · skip
        have f99 : ((V 59 (Int32.toNatClampNeg z20))).toInt ≠ 0 := b_neq rfl (by decide) c22
        refine lv_aload_n hx hb dX12_gets_57 rfl (lv_at hl 2 rfl) ?_
        refine lv_bipush (v := 15) hx hb dX12_gets_58 (by decide) ?_
        have r100 : Int32.toInt 15 = 15 := by decide
        refine gA_int (gA_runV (As := [.int 15]) (rest := []) (ci := 12) (q0 := 0) hx hb hml hown hg hP hD hK hS hA hnw hgk (s_fails2 l D ks H.size ad kk V L 15 hMV ) w2251 w2253 w131 w172 w2254 rfl rfl hdV_yX12_fails ⟨(by show (0) + 1 ≤ (4 * d1 + 40 * d2 + 15); omega), (by show 8 + (2 + 11) + (0) ≤ (100 * d1 + 1000 * d2 + 590); omega)⟩ rfl hl.1 rfl (Nat.le_of_ble_eq_true rfl) dX12_gets_60 ⟨Nat.le_of_ble_eq_true rfl, Nat.le_of_ble_eq_true rfl⟩) hP hD hK hS hA (fun z101 u102 H locs w103 hP hD hK hS => ?_)
        obtain ⟨V104, L105⟩ := u102
        obtain ⟨hMV104, ajV104, axL105, rgz101⟩ := w103
        have axL105 : L = L105 := Eq.symm axL105
        subst axL105
        have hP : va_P D vwCl (mw ad kk ks.1 V104 L) H := hP
        have hD : va_D A (mw ad kk ks.1 V104 L) := hD
        have hMV104 : rgd bM V104 := hMV104
        have ajV104 : agr [(0, 90), (0, 91)] [] V V104 := ajV104
        have agV104 : agr [(0, 60), (0, 65), (0, 68), (0, 69), (0, 73), (0, 76), (0, 90), (0, 91), (0, 92), (0, 93), (0, 95), (0, 96), (0, 98)] [59, 61, 62, 63, 64, 66, 67, 74, 75, 77, 78, 79, 80, 94, 97] V V104 := agV.tr ajV104 (by decide) (by decide)
        have rgz101 : 1 ≤ z101.toInt ∧ z101.toInt ≤ 1 := rgz101
        have pq106 : (V104 0 93).toInt = ((V 0 93)).toInt := congrArg Int32.toInt (ajV104 0 93 rfl)
        have pq107 : (V104 0 98).toInt = ((V 0 98)).toInt := congrArg Int32.toInt (ajV104 0 98 rfl)
        have pq108 : (V104 0 60).toInt = ((V 0 60)).toInt := congrArg Int32.toInt (ajV104 0 60 rfl)
        have pq109 : (V104 0 65).toInt = ((V 0 65)).toInt := congrArg Int32.toInt (ajV104 0 65 rfl)
        have pq110 : (V104 0 73).toInt = ((V 0 73)).toInt := congrArg Int32.toInt (ajV104 0 73 rfl)
        have pq111 : (V104 0 95).toInt = ((V 0 95)).toInt := congrArg Int32.toInt (ajV104 0 95 rfl)
        have pq112 : (V104 0 69).toInt = ((V 0 69)).toInt := congrArg Int32.toInt (ajV104 0 69 rfl)
        have pq113 : (V104 0 76).toInt = ((V 0 76)).toInt := congrArg Int32.toInt (ajV104 0 76 rfl)
        have pq114 : (V104 0 92).toInt = ((V 0 92)).toInt := congrArg Int32.toInt (ajV104 0 92 rfl)
        have rt115 : RT V104 := RT.ag rt hMV (show agr [(0, 90), (0, 91)] [] V V104 from (agr.tr agr.rf ajV104 (by decide) (by decide))) ⟨⟨rfl, fun _ => rfl, fun _ => rfl, fun _ => rfl, fun _ => rfl, fun _ => rfl, fun _ => rfl⟩, by decide, by decide, rfl, rfl, fun _ => rfl, fun _ => rfl, fun _ => rfl, fun _ => rfl, fun _ => rfl, fun _ => rfl⟩ (c0k.ag (show agr [(0, 90), (0, 91)] [] V V104 from (agr.tr agr.rf ajV104 (by decide) (by decide))) rfl)
        have fm116 : FRM V V104 (-1) := ((FRM.ag (show agr [(0, 90), (0, 91)] [] V V104 from (agr.tr agr.rf ajV104 (by decide) (by decide))) ⟨⟨rfl, fun _ => rfl, fun _ => rfl, fun _ => rfl, fun _ => rfl, fun _ => rfl, fun _ => rfl⟩, by decide, by decide, rfl, rfl, fun _ => rfl, fun _ => rfl, fun _ => rfl, fun _ => rfl, fun _ => rfl, fun _ => rfl⟩) : FRM V V104 (-1))
        exact W.iret (v := z101) hx hb hr (fun t ht hW => ⟨⟨z101, (V104, L), rfl, ⟨hMV104, agV104, rfl, (show 0 ≤ z101.toInt ∧ z101.toInt ≤ 2 from by first | omega | ((try (have i_tq := Imp.go tq (by omega))); (try (have i_rt := Imp.go rt (by omega))); (try (have i_rt := Imp.go rt (by omega))); (try (have i_tq := Imp.go tq (by omega))); omega)), (show (V104 0 93).toInt = (V 0 93).toInt from by first | omega | ((try (have i_tq := Imp.go tq (by omega))); (try (have i_rt := Imp.go rt (by omega))); (try (have i_rt := Imp.go rt (by omega))); (try (have i_tq := Imp.go tq (by omega))); omega)), (show (V104 0 98).toInt = (V 0 98).toInt from by first | omega | ((try (have i_tq := Imp.go tq (by omega))); (try (have i_rt := Imp.go rt (by omega))); (try (have i_rt := Imp.go rt (by omega))); (try (have i_tq := Imp.go tq (by omega))); omega)), (show (V 0 60).toInt ≤ (V104 0 60).toInt from by first | omega | ((try (have i_tq := Imp.go tq (by omega))); (try (have i_rt := Imp.go rt (by omega))); (try (have i_rt := Imp.go rt (by omega))); (try (have i_tq := Imp.go tq (by omega))); omega)), (show (V 0 65).toInt ≤ (V104 0 65).toInt from by first | omega | ((try (have i_tq := Imp.go tq (by omega))); (try (have i_rt := Imp.go rt (by omega))); (try (have i_rt := Imp.go rt (by omega))); (try (have i_tq := Imp.go tq (by omega))); omega)), (show (V104 0 65).toInt - (V 0 65).toInt ≤ (V104 0 60).toInt - (V 0 60).toInt from by first | omega | ((try (have i_tq := Imp.go tq (by omega))); (try (have i_rt := Imp.go rt (by omega))); (try (have i_rt := Imp.go rt (by omega))); (try (have i_tq := Imp.go tq (by omega))); omega)), (show (V104 0 73).toInt + (V104 0 95).toInt - (V104 0 65).toInt ≤ (V 0 73).toInt + (V 0 95).toInt - (V 0 65).toInt from by first | omega | ((try (have i_tq := Imp.go tq (by omega))); (try (have i_rt := Imp.go rt (by omega))); (try (have i_rt := Imp.go rt (by omega))); (try (have i_tq := Imp.go tq (by omega))); omega)), (show (V 0 73).toInt ≤ (V104 0 73).toInt from by first | omega | ((try (have i_tq := Imp.go tq (by omega))); (try (have i_rt := Imp.go rt (by omega))); (try (have i_rt := Imp.go rt (by omega))); (try (have i_tq := Imp.go tq (by omega))); omega)), (show (V 0 69).toInt ≤ (V104 0 69).toInt from by first | omega | ((try (have i_tq := Imp.go tq (by omega))); (try (have i_rt := Imp.go rt (by omega))); (try (have i_rt := Imp.go rt (by omega))); (try (have i_tq := Imp.go tq (by omega))); omega)), (show (V 0 95).toInt ≤ (V104 0 95).toInt from by first | omega | ((try (have i_tq := Imp.go tq (by omega))); (try (have i_rt := Imp.go rt (by omega))); (try (have i_rt := Imp.go rt (by omega))); (try (have i_tq := Imp.go tq (by omega))); omega)), (show (V104 0 95).toInt - (V 0 95).toInt ≤ (V104 0 65).toInt - (V 0 65).toInt from by first | omega | ((try (have i_tq := Imp.go tq (by omega))); (try (have i_rt := Imp.go rt (by omega))); (try (have i_rt := Imp.go rt (by omega))); (try (have i_tq := Imp.go tq (by omega))); omega)), (show (V104 0 76).toInt - (V104 0 69).toInt - (V104 0 73).toInt ≤ (V 0 76).toInt - (V 0 69).toInt - (V 0 73).toInt from by first | omega | ((try (have i_tq := Imp.go tq (by omega))); (try (have i_rt := Imp.go rt (by omega))); (try (have i_rt := Imp.go rt (by omega))); (try (have i_tq := Imp.go tq (by omega))); omega)), (Imp.mk (fun hp => have hp : z101.toInt = 0 := hp; (show 0 ≤ (V104 0 92).toInt ∧ (V104 0 92).toInt < (V104 0 60).toInt from by first | omega | ((try (have i_tq := Imp.go tq (by omega))); (try (have i_rt := Imp.go rt (by omega))); (try (have i_rt := Imp.go rt (by omega))); (try (have i_tq := Imp.go tq (by omega))); omega)))), rt115, fm116⟩, by rw [ht]; exact hP, va_K.moved hW.alike hK, hD⟩, hS.F ht⟩) hS.2.2 dX12_gets_63
    · skip
      have f117 : ((V 22 (Int32.toNatClampNeg z16))).toInt = 3 := b_eq rfl (by decide) c17
      refine lv_iconst (v := 1) hx hb dX12_gets_36 (by decide) ?_
      refine lv_goto (tgt := 41) hx hb dX12_gets_37 (by decide) ?_
      refine lv_istore (lv' := [(4, .int 1), (3, .int z9), (0, .ref (ad 0)), (1, .int p0), (2, .int p1)]) hx hb dX12_gets_41 hl (by decide) rfl (fun ls hl => ?_)
      refine lv_aload_n hx hb dX12_gets_43 rfl (lv_at hl 2 rfl) ?_
      refine va_get (D := D) (ci := 12) (v := .ref (ad 59)) (C := RX12) (T := TX12) (N := 100) hx hb hg inX12 hown hK hP 0 rfl rfl 59 (by decide) (hg _ w1769) (fun _ h9 => h9) rfl dX12_gets_44 ?_
      refine lv_bipush (v := 24) hx hb dX12_gets_47 (by decide) ?_
      refine lv_iload_n hx hb dX12_gets_49 rfl (lv_at hl 1 rfl) ?_
      refine lv_imul hx hb dX12_gets_50 ?_
      refine lv_topi (fun z118 ez118 => ?_)
      have hz118 : z118.toInt = 24 * z9.toInt := i_mul ez118 (by decide) rfl (by omega)
      refine lv_iload_n hx hb dX12_gets_51 rfl (lv_at hl 3 rfl) ?_
      refine lv_iadd hx hb dX12_gets_52 ?_
      refine lv_topi (fun z119 ez119 => ?_)
      have hz119 : z119.toInt = z118.toInt + p0.toInt := i_add ez119 rfl rfl (by omega)
      refine va_zald (D := D) (i := z119) hx hb hK hP 45 44 rfl rfl (i_in (a := z119.toInt) rfl (by first | omega | ((try (have i_tq := Imp.go tq (by omega))); (try (have i_rt := Imp.go rt (by omega))); (try (have i_rt := Imp.go rt (by omega))); (try (have i_tq := Imp.go tq (by omega))); omega))) dX12_gets_53 ?_
      have r120 : 0 ≤ ((V 59 (Int32.toNatClampNeg z119))).toInt ∧ ((V 59 (Int32.toNatClampNeg z119))).toInt ≤ 1 := hMV 59 (Int32.toNatClampNeg z119)
      refine lv_if_eq (tgt := 64) hx hb dX12_gets_54 (by decide) (fun c121 => ?_) (fun c121 => ?_)
      · skip
        have f122 : ((V 59 (Int32.toNatClampNeg z119))).toInt = 0 := b_eq rfl (by decide) c121
        refine lv_iload hx hb dX12_gets_64 (lv_at hl 0 rfl) ?_
        refine lv_if_eq (tgt := 73) hx hb dX12_gets_66 (by decide) (fun q => absurd q (by decide)) (fun _ => ?_)
        refine lv_iconst (v := (-1)) hx hb dX12_gets_69 (by decide) ?_
        refine lv_goto (tgt := 79) hx hb dX12_gets_70 (by decide) ?_
        refine lv_istore (lv' := [(5, .int (-1)), (4, .int 1), (3, .int z9), (0, .ref (ad 0)), (1, .int p0), (2, .int p1)]) hx hb dX12_gets_79 hl (by decide) rfl (fun ls hl => ?_)
        refine lv_iload hx hb dX12_gets_81 (lv_at hl 0 rfl) ?_
        refine lv_if_lt (tgt := 103) hx hb dX12_gets_83 (by decide) (fun _ => ?_) (fun q => absurd (by decide) q)
        refine lv_iload hx hb dX12_gets_103 (lv_at hl 0 rfl) ?_
        refine lv_if_lt (tgt := 116) hx hb dX12_gets_105 (by decide) (fun _ => ?_) (fun q => absurd (by decide) q)
        refine lv_aload_n hx hb dX12_gets_116 rfl (lv_at hl 3 rfl) ?_
        refine lv_iload_n hx hb dX12_gets_117 rfl (lv_at hl 4 rfl) ?_
        refine lv_iload_n hx hb dX12_gets_118 rfl (lv_at hl 2 rfl) ?_
        refine lv_iload hx hb dX12_gets_119 (lv_at hl 1 rfl) ?_
        have r123 : Int32.toInt 1 = 1 := by decide
        refine gA_int (gA_runV (As := [.int p0, .int z9, .int 1]) (rest := []) (ci := 12) (q0 := 0) hx hb hml hown hg hP hD hK hS hA hnw hgk (hk_s_makes H.size ad kk V L p0 z9 1 hMV (by first | omega | ((try (have i_tq := Imp.go tq (by omega))); (try (have i_rt := Imp.go rt (by omega))); (try (have i_rt := Imp.go rt (by omega))); (try (have i_tq := Imp.go tq (by omega))); omega)) (by first | omega | ((try (have i_tq := Imp.go tq (by omega))); (try (have i_rt := Imp.go rt (by omega))); (try (have i_rt := Imp.go rt (by omega))); (try (have i_tq := Imp.go tq (by omega))); omega)) (by decide) rt (show (V 0 65).toInt ≤ (V 0 60).toInt from by first | omega | ((try (have i_tq := Imp.go tq (by omega))); (try (have i_rt := Imp.go rt (by omega))); (try (have i_rt := Imp.go rt (by omega))); (try (have i_tq := Imp.go tq (by omega))); omega)) (show (V 0 95).toInt ≤ (V 0 65).toInt from by first | omega | ((try (have i_tq := Imp.go tq (by omega))); (try (have i_rt := Imp.go rt (by omega))); (try (have i_rt := Imp.go rt (by omega))); (try (have i_tq := Imp.go tq (by omega))); omega)) (show (V 0 73).toInt + (V 0 95).toInt - (V 0 65).toInt ≤ 999000 from by first | omega | ((try (have i_tq := Imp.go tq (by omega))); (try (have i_rt := Imp.go rt (by omega))); (try (have i_rt := Imp.go rt (by omega))); (try (have i_tq := Imp.go tq (by omega))); omega)) (show (V 0 76).toInt - (V 0 69).toInt - (V 0 73).toInt ≤ 1000000000 from by first | omega | ((try (have i_tq := Imp.go tq (by omega))); (try (have i_rt := Imp.go rt (by omega))); (try (have i_rt := Imp.go rt (by omega))); (try (have i_tq := Imp.go tq (by omega))); omega)) (show 300 - (V 0 60).toInt ≤ ((d1 : Nat) : Int) from by first | omega | ((try (have i_tq := Imp.go tq (by omega))); (try (have i_rt := Imp.go rt (by omega))); (try (have i_rt := Imp.go rt (by omega))); (try (have i_tq := Imp.go tq (by omega))); omega)) (show 10 - (V 0 93).toInt ≤ ((d2 : Nat) : Int) from by first | omega | ((try (have i_tq := Imp.go tq (by omega))); (try (have i_rt := Imp.go rt (by omega))); (try (have i_rt := Imp.go rt (by omega))); (try (have i_tq := Imp.go tq (by omega))); omega)) (show (V 0 98).toInt + 400 * ((d2 : Nat) : Int) + 30 ≤ 19000 from by first | omega | ((try (have i_tq := Imp.go tq (by omega))); (try (have i_rt := Imp.go rt (by omega))); (try (have i_rt := Imp.go rt (by omega))); (try (have i_tq := Imp.go tq (by omega))); omega)) tq) w2259 w2261 w133 w172 w2262 rfl rfl hdV_yX12_makes ⟨(by show (4 * (d1) + 40 * (d2) + 14) + 1 ≤ (4 * d1 + 40 * d2 + 15); omega), (by show 8 + (6 + 11) + (100 * (d1) + 1000 * (d2) + 560) ≤ (100 * d1 + 1000 * d2 + 590); omega)⟩ rfl hl.1 rfl (Nat.le_of_ble_eq_true rfl) dX12_gets_121 ⟨Nat.le_of_ble_eq_true rfl, Nat.le_of_ble_eq_true rfl⟩) hP hD hK hS hA (fun z124 u125 H locs w126 hP hD hK hS => ?_)
        obtain ⟨V141, L142⟩ := u125
        obtain ⟨hMV141, ajV141, axL142, rgz124, t127, t128, t129, t130, t131, t132, t133, t134, t135, t136, t137, t138, t139, t140⟩ := w126
        have axL142 : L = L142 := Eq.symm axL142
        subst axL142
        have hP : va_P D vwCl (mw ad kk ks.1 V141 L) H := hP
        have hD : va_D A (mw ad kk ks.1 V141 L) := hD
        have hMV141 : rgd bM V141 := hMV141
        have ajV141 : agr [(0, 60), (0, 65), (0, 68), (0, 69), (0, 73), (0, 76), (0, 90), (0, 91), (0, 92), (0, 93), (0, 95), (0, 96), (0, 98)] [59, 61, 62, 63, 64, 66, 67, 74, 75, 77, 78, 79, 80, 94, 97] V V141 := ajV141
        have agV141 : agr [(0, 60), (0, 65), (0, 68), (0, 69), (0, 73), (0, 76), (0, 90), (0, 91), (0, 92), (0, 93), (0, 95), (0, 96), (0, 98)] [59, 61, 62, 63, 64, 66, 67, 74, 75, 77, 78, 79, 80, 94, 97] V V141 := agV.tr ajV141 (by decide) (by decide)
        have rgz124 : 0 ≤ z124.toInt ∧ z124.toInt ≤ 2 := rgz124
        have t127 : (V141 0 93).toInt = (V 0 93).toInt := t127
        have t128 : (V141 0 98).toInt = (V 0 98).toInt := t128
        have t129 : (V 0 60).toInt ≤ (V141 0 60).toInt := t129
        have t130 : (V 0 65).toInt ≤ (V141 0 65).toInt := t130
        have t131 : (V141 0 65).toInt - (V 0 65).toInt ≤ (V141 0 60).toInt - (V 0 60).toInt := t131
        have t132 : (V141 0 73).toInt + (V141 0 95).toInt - (V141 0 65).toInt ≤ (V 0 73).toInt + (V 0 95).toInt - (V 0 65).toInt := t132
        have t133 : (V 0 73).toInt ≤ (V141 0 73).toInt := t133
        have t134 : (V 0 69).toInt ≤ (V141 0 69).toInt := t134
        have t135 : (V 0 95).toInt ≤ (V141 0 95).toInt := t135
        have t136 : (V141 0 95).toInt - (V 0 95).toInt ≤ (V141 0 65).toInt - (V 0 65).toInt := t136
        have t137 : (V141 0 76).toInt - (V141 0 69).toInt - (V141 0 73).toInt ≤ (V 0 76).toInt - (V 0 69).toInt - (V 0 73).toInt := t137
        have t138 : Imp (z124.toInt = 0) (0 ≤ (V141 0 92).toInt ∧ (V141 0 92).toInt < (V141 0 60).toInt) := t138
        have t139 : RT V141 := t139
        have t140 : FRM V V141 (-1) := t140
        have r143 : 0 ≤ ((V141 0 93)).toInt ∧ ((V141 0 93)).toInt ≤ 10 := hMV141 0 93
        have r144 : 0 ≤ ((V141 0 98)).toInt ∧ ((V141 0 98)).toInt ≤ 20000 := hMV141 0 98
        have r145 : 0 ≤ ((V141 0 60)).toInt ∧ ((V141 0 60)).toInt ≤ 300 := hMV141 0 60
        have r146 : 0 ≤ ((V141 0 65)).toInt ∧ ((V141 0 65)).toInt ≤ 1000000 := hMV141 0 65
        have r147 : 0 ≤ ((V141 0 73)).toInt ∧ ((V141 0 73)).toInt ≤ 1000000 := hMV141 0 73
        have r148 : 0 ≤ ((V141 0 95)).toInt ∧ ((V141 0 95)).toInt ≤ 300 := hMV141 0 95
        have r149 : 0 ≤ ((V141 0 69)).toInt ∧ ((V141 0 69)).toInt ≤ 3000 := hMV141 0 69
        have r150 : 0 ≤ ((V141 0 76)).toInt ∧ ((V141 0 76)).toInt ≤ 2000000000 := hMV141 0 76
        have fm151 : FRM V V141 (-1) := (t140 : FRM V V141 (-1))
        exact W.iret (v := z124) hx hb hr (fun t ht hW => ⟨⟨z124, (V141, L), rfl, ⟨hMV141, agV141, rfl, (show 0 ≤ z124.toInt ∧ z124.toInt ≤ 2 from by first | omega | ((try (have i_t138 := Imp.go t138 (by omega))); (try (have i_tq := Imp.go tq (by omega))); (try (have i_rt := Imp.go rt (by omega))); (try (have i_rt := Imp.go rt (by omega))); (try (have i_tq := Imp.go tq (by omega))); (try (have i_t138 := Imp.go t138 (by omega))); omega)), (show (V141 0 93).toInt = (V 0 93).toInt from by first | omega | ((try (have i_t138 := Imp.go t138 (by omega))); (try (have i_tq := Imp.go tq (by omega))); (try (have i_rt := Imp.go rt (by omega))); (try (have i_rt := Imp.go rt (by omega))); (try (have i_tq := Imp.go tq (by omega))); (try (have i_t138 := Imp.go t138 (by omega))); omega)), (show (V141 0 98).toInt = (V 0 98).toInt from by first | omega | ((try (have i_t138 := Imp.go t138 (by omega))); (try (have i_tq := Imp.go tq (by omega))); (try (have i_rt := Imp.go rt (by omega))); (try (have i_rt := Imp.go rt (by omega))); (try (have i_tq := Imp.go tq (by omega))); (try (have i_t138 := Imp.go t138 (by omega))); omega)), (show (V 0 60).toInt ≤ (V141 0 60).toInt from by first | omega | ((try (have i_t138 := Imp.go t138 (by omega))); (try (have i_tq := Imp.go tq (by omega))); (try (have i_rt := Imp.go rt (by omega))); (try (have i_rt := Imp.go rt (by omega))); (try (have i_tq := Imp.go tq (by omega))); (try (have i_t138 := Imp.go t138 (by omega))); omega)), (show (V 0 65).toInt ≤ (V141 0 65).toInt from by first | omega | ((try (have i_t138 := Imp.go t138 (by omega))); (try (have i_tq := Imp.go tq (by omega))); (try (have i_rt := Imp.go rt (by omega))); (try (have i_rt := Imp.go rt (by omega))); (try (have i_tq := Imp.go tq (by omega))); (try (have i_t138 := Imp.go t138 (by omega))); omega)), (show (V141 0 65).toInt - (V 0 65).toInt ≤ (V141 0 60).toInt - (V 0 60).toInt from by first | omega | ((try (have i_t138 := Imp.go t138 (by omega))); (try (have i_tq := Imp.go tq (by omega))); (try (have i_rt := Imp.go rt (by omega))); (try (have i_rt := Imp.go rt (by omega))); (try (have i_tq := Imp.go tq (by omega))); (try (have i_t138 := Imp.go t138 (by omega))); omega)), (show (V141 0 73).toInt + (V141 0 95).toInt - (V141 0 65).toInt ≤ (V 0 73).toInt + (V 0 95).toInt - (V 0 65).toInt from by first | omega | ((try (have i_t138 := Imp.go t138 (by omega))); (try (have i_tq := Imp.go tq (by omega))); (try (have i_rt := Imp.go rt (by omega))); (try (have i_rt := Imp.go rt (by omega))); (try (have i_tq := Imp.go tq (by omega))); (try (have i_t138 := Imp.go t138 (by omega))); omega)), (show (V 0 73).toInt ≤ (V141 0 73).toInt from by first | omega | ((try (have i_t138 := Imp.go t138 (by omega))); (try (have i_tq := Imp.go tq (by omega))); (try (have i_rt := Imp.go rt (by omega))); (try (have i_rt := Imp.go rt (by omega))); (try (have i_tq := Imp.go tq (by omega))); (try (have i_t138 := Imp.go t138 (by omega))); omega)), (show (V 0 69).toInt ≤ (V141 0 69).toInt from by first | omega | ((try (have i_t138 := Imp.go t138 (by omega))); (try (have i_tq := Imp.go tq (by omega))); (try (have i_rt := Imp.go rt (by omega))); (try (have i_rt := Imp.go rt (by omega))); (try (have i_tq := Imp.go tq (by omega))); (try (have i_t138 := Imp.go t138 (by omega))); omega)), (show (V 0 95).toInt ≤ (V141 0 95).toInt from by first | omega | ((try (have i_t138 := Imp.go t138 (by omega))); (try (have i_tq := Imp.go tq (by omega))); (try (have i_rt := Imp.go rt (by omega))); (try (have i_rt := Imp.go rt (by omega))); (try (have i_tq := Imp.go tq (by omega))); (try (have i_t138 := Imp.go t138 (by omega))); omega)), (show (V141 0 95).toInt - (V 0 95).toInt ≤ (V141 0 65).toInt - (V 0 65).toInt from by first | omega | ((try (have i_t138 := Imp.go t138 (by omega))); (try (have i_tq := Imp.go tq (by omega))); (try (have i_rt := Imp.go rt (by omega))); (try (have i_rt := Imp.go rt (by omega))); (try (have i_tq := Imp.go tq (by omega))); (try (have i_t138 := Imp.go t138 (by omega))); omega)), (show (V141 0 76).toInt - (V141 0 69).toInt - (V141 0 73).toInt ≤ (V 0 76).toInt - (V 0 69).toInt - (V 0 73).toInt from by first | omega | ((try (have i_t138 := Imp.go t138 (by omega))); (try (have i_tq := Imp.go tq (by omega))); (try (have i_rt := Imp.go rt (by omega))); (try (have i_rt := Imp.go rt (by omega))); (try (have i_tq := Imp.go tq (by omega))); (try (have i_t138 := Imp.go t138 (by omega))); omega)), (Imp.mk (fun hp => have hp : z124.toInt = 0 := hp; (show 0 ≤ (V141 0 92).toInt ∧ (V141 0 92).toInt < (V141 0 60).toInt from by first | omega | ((try (have i_t138 := Imp.go t138 (by omega))); (try (have i_tq := Imp.go tq (by omega))); (try (have i_rt := Imp.go rt (by omega))); (try (have i_rt := Imp.go rt (by omega))); (try (have i_tq := Imp.go tq (by omega))); (try (have i_t138 := Imp.go t138 (by omega))); omega)))), t139, fm151⟩, by rw [ht]; exact hP, va_K.moved hW.alike hK, hD⟩, hS.F ht⟩) hS.2.2 dX12_gets_124
      · skip
        have f152 : ((V 59 (Int32.toNatClampNeg z119))).toInt ≠ 0 := b_neq rfl (by decide) c121
        refine lv_aload_n hx hb dX12_gets_57 rfl (lv_at hl 2 rfl) ?_
        refine lv_bipush (v := 15) hx hb dX12_gets_58 (by decide) ?_
        have r153 : Int32.toInt 15 = 15 := by decide
        refine gA_int (gA_runV (As := [.int 15]) (rest := []) (ci := 12) (q0 := 0) hx hb hml hown hg hP hD hK hS hA hnw hgk (s_fails2 l D ks H.size ad kk V L 15 hMV ) w2251 w2253 w131 w172 w2254 rfl rfl hdV_yX12_fails ⟨(by show (0) + 1 ≤ (4 * d1 + 40 * d2 + 15); omega), (by show 8 + (2 + 11) + (0) ≤ (100 * d1 + 1000 * d2 + 590); omega)⟩ rfl hl.1 rfl (Nat.le_of_ble_eq_true rfl) dX12_gets_60 ⟨Nat.le_of_ble_eq_true rfl, Nat.le_of_ble_eq_true rfl⟩) hP hD hK hS hA (fun z154 u155 H locs w156 hP hD hK hS => ?_)
        obtain ⟨V157, L158⟩ := u155
        obtain ⟨hMV157, ajV157, axL158, rgz154⟩ := w156
        have axL158 : L = L158 := Eq.symm axL158
        subst axL158
        have hP : va_P D vwCl (mw ad kk ks.1 V157 L) H := hP
        have hD : va_D A (mw ad kk ks.1 V157 L) := hD
        have hMV157 : rgd bM V157 := hMV157
        have ajV157 : agr [(0, 90), (0, 91)] [] V V157 := ajV157
        have agV157 : agr [(0, 60), (0, 65), (0, 68), (0, 69), (0, 73), (0, 76), (0, 90), (0, 91), (0, 92), (0, 93), (0, 95), (0, 96), (0, 98)] [59, 61, 62, 63, 64, 66, 67, 74, 75, 77, 78, 79, 80, 94, 97] V V157 := agV.tr ajV157 (by decide) (by decide)
        have rgz154 : 1 ≤ z154.toInt ∧ z154.toInt ≤ 1 := rgz154
        have pq159 : (V157 0 93).toInt = ((V 0 93)).toInt := congrArg Int32.toInt (ajV157 0 93 rfl)
        have pq160 : (V157 0 98).toInt = ((V 0 98)).toInt := congrArg Int32.toInt (ajV157 0 98 rfl)
        have pq161 : (V157 0 60).toInt = ((V 0 60)).toInt := congrArg Int32.toInt (ajV157 0 60 rfl)
        have pq162 : (V157 0 65).toInt = ((V 0 65)).toInt := congrArg Int32.toInt (ajV157 0 65 rfl)
        have pq163 : (V157 0 73).toInt = ((V 0 73)).toInt := congrArg Int32.toInt (ajV157 0 73 rfl)
        have pq164 : (V157 0 95).toInt = ((V 0 95)).toInt := congrArg Int32.toInt (ajV157 0 95 rfl)
        have pq165 : (V157 0 69).toInt = ((V 0 69)).toInt := congrArg Int32.toInt (ajV157 0 69 rfl)
        have pq166 : (V157 0 76).toInt = ((V 0 76)).toInt := congrArg Int32.toInt (ajV157 0 76 rfl)
        have pq167 : (V157 0 92).toInt = ((V 0 92)).toInt := congrArg Int32.toInt (ajV157 0 92 rfl)
        have rt168 : RT V157 := RT.ag rt hMV (show agr [(0, 90), (0, 91)] [] V V157 from (agr.tr agr.rf ajV157 (by decide) (by decide))) ⟨⟨rfl, fun _ => rfl, fun _ => rfl, fun _ => rfl, fun _ => rfl, fun _ => rfl, fun _ => rfl⟩, by decide, by decide, rfl, rfl, fun _ => rfl, fun _ => rfl, fun _ => rfl, fun _ => rfl, fun _ => rfl, fun _ => rfl⟩ (c0k.ag (show agr [(0, 90), (0, 91)] [] V V157 from (agr.tr agr.rf ajV157 (by decide) (by decide))) rfl)
        have fm169 : FRM V V157 (-1) := ((FRM.ag (show agr [(0, 90), (0, 91)] [] V V157 from (agr.tr agr.rf ajV157 (by decide) (by decide))) ⟨⟨rfl, fun _ => rfl, fun _ => rfl, fun _ => rfl, fun _ => rfl, fun _ => rfl, fun _ => rfl⟩, by decide, by decide, rfl, rfl, fun _ => rfl, fun _ => rfl, fun _ => rfl, fun _ => rfl, fun _ => rfl, fun _ => rfl⟩) : FRM V V157 (-1))
        exact W.iret (v := z154) hx hb hr (fun t ht hW => ⟨⟨z154, (V157, L), rfl, ⟨hMV157, agV157, rfl, (show 0 ≤ z154.toInt ∧ z154.toInt ≤ 2 from by first | omega | ((try (have i_tq := Imp.go tq (by omega))); (try (have i_rt := Imp.go rt (by omega))); (try (have i_rt := Imp.go rt (by omega))); (try (have i_tq := Imp.go tq (by omega))); omega)), (show (V157 0 93).toInt = (V 0 93).toInt from by first | omega | ((try (have i_tq := Imp.go tq (by omega))); (try (have i_rt := Imp.go rt (by omega))); (try (have i_rt := Imp.go rt (by omega))); (try (have i_tq := Imp.go tq (by omega))); omega)), (show (V157 0 98).toInt = (V 0 98).toInt from by first | omega | ((try (have i_tq := Imp.go tq (by omega))); (try (have i_rt := Imp.go rt (by omega))); (try (have i_rt := Imp.go rt (by omega))); (try (have i_tq := Imp.go tq (by omega))); omega)), (show (V 0 60).toInt ≤ (V157 0 60).toInt from by first | omega | ((try (have i_tq := Imp.go tq (by omega))); (try (have i_rt := Imp.go rt (by omega))); (try (have i_rt := Imp.go rt (by omega))); (try (have i_tq := Imp.go tq (by omega))); omega)), (show (V 0 65).toInt ≤ (V157 0 65).toInt from by first | omega | ((try (have i_tq := Imp.go tq (by omega))); (try (have i_rt := Imp.go rt (by omega))); (try (have i_rt := Imp.go rt (by omega))); (try (have i_tq := Imp.go tq (by omega))); omega)), (show (V157 0 65).toInt - (V 0 65).toInt ≤ (V157 0 60).toInt - (V 0 60).toInt from by first | omega | ((try (have i_tq := Imp.go tq (by omega))); (try (have i_rt := Imp.go rt (by omega))); (try (have i_rt := Imp.go rt (by omega))); (try (have i_tq := Imp.go tq (by omega))); omega)), (show (V157 0 73).toInt + (V157 0 95).toInt - (V157 0 65).toInt ≤ (V 0 73).toInt + (V 0 95).toInt - (V 0 65).toInt from by first | omega | ((try (have i_tq := Imp.go tq (by omega))); (try (have i_rt := Imp.go rt (by omega))); (try (have i_rt := Imp.go rt (by omega))); (try (have i_tq := Imp.go tq (by omega))); omega)), (show (V 0 73).toInt ≤ (V157 0 73).toInt from by first | omega | ((try (have i_tq := Imp.go tq (by omega))); (try (have i_rt := Imp.go rt (by omega))); (try (have i_rt := Imp.go rt (by omega))); (try (have i_tq := Imp.go tq (by omega))); omega)), (show (V 0 69).toInt ≤ (V157 0 69).toInt from by first | omega | ((try (have i_tq := Imp.go tq (by omega))); (try (have i_rt := Imp.go rt (by omega))); (try (have i_rt := Imp.go rt (by omega))); (try (have i_tq := Imp.go tq (by omega))); omega)), (show (V 0 95).toInt ≤ (V157 0 95).toInt from by first | omega | ((try (have i_tq := Imp.go tq (by omega))); (try (have i_rt := Imp.go rt (by omega))); (try (have i_rt := Imp.go rt (by omega))); (try (have i_tq := Imp.go tq (by omega))); omega)), (show (V157 0 95).toInt - (V 0 95).toInt ≤ (V157 0 65).toInt - (V 0 65).toInt from by first | omega | ((try (have i_tq := Imp.go tq (by omega))); (try (have i_rt := Imp.go rt (by omega))); (try (have i_rt := Imp.go rt (by omega))); (try (have i_tq := Imp.go tq (by omega))); omega)), (show (V157 0 76).toInt - (V157 0 69).toInt - (V157 0 73).toInt ≤ (V 0 76).toInt - (V 0 69).toInt - (V 0 73).toInt from by first | omega | ((try (have i_tq := Imp.go tq (by omega))); (try (have i_rt := Imp.go rt (by omega))); (try (have i_rt := Imp.go rt (by omega))); (try (have i_tq := Imp.go tq (by omega))); omega)), (Imp.mk (fun hp => have hp : z154.toInt = 0 := hp; (show 0 ≤ (V157 0 92).toInt ∧ (V157 0 92).toInt < (V157 0 60).toInt from by first | omega | ((try (have i_tq := Imp.go tq (by omega))); (try (have i_rt := Imp.go rt (by omega))); (try (have i_rt := Imp.go rt (by omega))); (try (have i_tq := Imp.go tq (by omega))); omega)))), rt168, fm169⟩, by rw [ht]; exact hP, va_K.moved hW.alike hK, hD⟩, hS.F ht⟩) hS.2.2 dX12_gets_63
  · skip
    have f170 : z9.toInt < 0 := b_nle (by decide) rfl c12
    refine lv_aload_n hx hb dX12_gets_11 rfl (lv_at hl 1 rfl) ?_
    refine lv_bipush (v := 14) hx hb dX12_gets_12 (by decide) ?_
    have r171 : Int32.toInt 14 = 14 := by decide
    refine gA_int (gA_runV (As := [.int 14]) (rest := []) (ci := 12) (q0 := 0) hx hb hml hown hg hP hD hK hS hA hnw hgk (s_fails2 l D ks H.size ad kk V L 14 hMV ) w2251 w2253 w131 w172 w2254 rfl rfl hdV_yX12_fails ⟨(by show (0) + 1 ≤ (4 * d1 + 40 * d2 + 15); omega), (by show 8 + (2 + 11) + (0) ≤ (100 * d1 + 1000 * d2 + 590); omega)⟩ rfl hl.1 rfl (Nat.le_of_ble_eq_true rfl) dX12_gets_14 ⟨Nat.le_of_ble_eq_true rfl, Nat.le_of_ble_eq_true rfl⟩) hP hD hK hS hA (fun z172 u173 H locs w174 hP hD hK hS => ?_)
    obtain ⟨V175, L176⟩ := u173
    obtain ⟨hMV175, ajV175, axL176, rgz172⟩ := w174
    have axL176 : L = L176 := Eq.symm axL176
    subst axL176
    have hP : va_P D vwCl (mw ad kk ks.1 V175 L) H := hP
    have hD : va_D A (mw ad kk ks.1 V175 L) := hD
    have hMV175 : rgd bM V175 := hMV175
    have ajV175 : agr [(0, 90), (0, 91)] [] V V175 := ajV175
    have agV175 : agr [(0, 60), (0, 65), (0, 68), (0, 69), (0, 73), (0, 76), (0, 90), (0, 91), (0, 92), (0, 93), (0, 95), (0, 96), (0, 98)] [59, 61, 62, 63, 64, 66, 67, 74, 75, 77, 78, 79, 80, 94, 97] V V175 := agV.tr ajV175 (by decide) (by decide)
    have rgz172 : 1 ≤ z172.toInt ∧ z172.toInt ≤ 1 := rgz172
    have pq177 : (V175 0 93).toInt = ((V 0 93)).toInt := congrArg Int32.toInt (ajV175 0 93 rfl)
    have pq178 : (V175 0 98).toInt = ((V 0 98)).toInt := congrArg Int32.toInt (ajV175 0 98 rfl)
    have pq179 : (V175 0 60).toInt = ((V 0 60)).toInt := congrArg Int32.toInt (ajV175 0 60 rfl)
    have pq180 : (V175 0 65).toInt = ((V 0 65)).toInt := congrArg Int32.toInt (ajV175 0 65 rfl)
    have pq181 : (V175 0 73).toInt = ((V 0 73)).toInt := congrArg Int32.toInt (ajV175 0 73 rfl)
    have pq182 : (V175 0 95).toInt = ((V 0 95)).toInt := congrArg Int32.toInt (ajV175 0 95 rfl)
    have pq183 : (V175 0 69).toInt = ((V 0 69)).toInt := congrArg Int32.toInt (ajV175 0 69 rfl)
    have pq184 : (V175 0 76).toInt = ((V 0 76)).toInt := congrArg Int32.toInt (ajV175 0 76 rfl)
    have pq185 : (V175 0 92).toInt = ((V 0 92)).toInt := congrArg Int32.toInt (ajV175 0 92 rfl)
    have rt186 : RT V175 := RT.ag rt hMV (show agr [(0, 90), (0, 91)] [] V V175 from (agr.tr agr.rf ajV175 (by decide) (by decide))) ⟨⟨rfl, fun _ => rfl, fun _ => rfl, fun _ => rfl, fun _ => rfl, fun _ => rfl, fun _ => rfl⟩, by decide, by decide, rfl, rfl, fun _ => rfl, fun _ => rfl, fun _ => rfl, fun _ => rfl, fun _ => rfl, fun _ => rfl⟩ (c0k.ag (show agr [(0, 90), (0, 91)] [] V V175 from (agr.tr agr.rf ajV175 (by decide) (by decide))) rfl)
    have fm187 : FRM V V175 (-1) := ((FRM.ag (show agr [(0, 90), (0, 91)] [] V V175 from (agr.tr agr.rf ajV175 (by decide) (by decide))) ⟨⟨rfl, fun _ => rfl, fun _ => rfl, fun _ => rfl, fun _ => rfl, fun _ => rfl, fun _ => rfl⟩, by decide, by decide, rfl, rfl, fun _ => rfl, fun _ => rfl, fun _ => rfl, fun _ => rfl, fun _ => rfl, fun _ => rfl⟩) : FRM V V175 (-1))
    exact W.iret (v := z172) hx hb hr (fun t ht hW => ⟨⟨z172, (V175, L), rfl, ⟨hMV175, agV175, rfl, (show 0 ≤ z172.toInt ∧ z172.toInt ≤ 2 from by first | omega | ((try (have i_tq := Imp.go tq (by omega))); (try (have i_rt := Imp.go rt (by omega))); (try (have i_rt := Imp.go rt (by omega))); (try (have i_tq := Imp.go tq (by omega))); omega)), (show (V175 0 93).toInt = (V 0 93).toInt from by first | omega | ((try (have i_tq := Imp.go tq (by omega))); (try (have i_rt := Imp.go rt (by omega))); (try (have i_rt := Imp.go rt (by omega))); (try (have i_tq := Imp.go tq (by omega))); omega)), (show (V175 0 98).toInt = (V 0 98).toInt from by first | omega | ((try (have i_tq := Imp.go tq (by omega))); (try (have i_rt := Imp.go rt (by omega))); (try (have i_rt := Imp.go rt (by omega))); (try (have i_tq := Imp.go tq (by omega))); omega)), (show (V 0 60).toInt ≤ (V175 0 60).toInt from by first | omega | ((try (have i_tq := Imp.go tq (by omega))); (try (have i_rt := Imp.go rt (by omega))); (try (have i_rt := Imp.go rt (by omega))); (try (have i_tq := Imp.go tq (by omega))); omega)), (show (V 0 65).toInt ≤ (V175 0 65).toInt from by first | omega | ((try (have i_tq := Imp.go tq (by omega))); (try (have i_rt := Imp.go rt (by omega))); (try (have i_rt := Imp.go rt (by omega))); (try (have i_tq := Imp.go tq (by omega))); omega)), (show (V175 0 65).toInt - (V 0 65).toInt ≤ (V175 0 60).toInt - (V 0 60).toInt from by first | omega | ((try (have i_tq := Imp.go tq (by omega))); (try (have i_rt := Imp.go rt (by omega))); (try (have i_rt := Imp.go rt (by omega))); (try (have i_tq := Imp.go tq (by omega))); omega)), (show (V175 0 73).toInt + (V175 0 95).toInt - (V175 0 65).toInt ≤ (V 0 73).toInt + (V 0 95).toInt - (V 0 65).toInt from by first | omega | ((try (have i_tq := Imp.go tq (by omega))); (try (have i_rt := Imp.go rt (by omega))); (try (have i_rt := Imp.go rt (by omega))); (try (have i_tq := Imp.go tq (by omega))); omega)), (show (V 0 73).toInt ≤ (V175 0 73).toInt from by first | omega | ((try (have i_tq := Imp.go tq (by omega))); (try (have i_rt := Imp.go rt (by omega))); (try (have i_rt := Imp.go rt (by omega))); (try (have i_tq := Imp.go tq (by omega))); omega)), (show (V 0 69).toInt ≤ (V175 0 69).toInt from by first | omega | ((try (have i_tq := Imp.go tq (by omega))); (try (have i_rt := Imp.go rt (by omega))); (try (have i_rt := Imp.go rt (by omega))); (try (have i_tq := Imp.go tq (by omega))); omega)), (show (V 0 95).toInt ≤ (V175 0 95).toInt from by first | omega | ((try (have i_tq := Imp.go tq (by omega))); (try (have i_rt := Imp.go rt (by omega))); (try (have i_rt := Imp.go rt (by omega))); (try (have i_tq := Imp.go tq (by omega))); omega)), (show (V175 0 95).toInt - (V 0 95).toInt ≤ (V175 0 65).toInt - (V 0 65).toInt from by first | omega | ((try (have i_tq := Imp.go tq (by omega))); (try (have i_rt := Imp.go rt (by omega))); (try (have i_rt := Imp.go rt (by omega))); (try (have i_tq := Imp.go tq (by omega))); omega)), (show (V175 0 76).toInt - (V175 0 69).toInt - (V175 0 73).toInt ≤ (V 0 76).toInt - (V 0 69).toInt - (V 0 73).toInt from by first | omega | ((try (have i_tq := Imp.go tq (by omega))); (try (have i_rt := Imp.go rt (by omega))); (try (have i_rt := Imp.go rt (by omega))); (try (have i_tq := Imp.go tq (by omega))); omega)), (Imp.mk (fun hp => have hp : z172.toInt = 0 := hp; (show 0 ≤ (V175 0 92).toInt ∧ (V175 0 92).toInt < (V175 0 60).toInt from by first | omega | ((try (have i_tq := Imp.go tq (by omega))); (try (have i_rt := Imp.go rt (by omega))); (try (have i_rt := Imp.go rt (by omega))); (try (have i_tq := Imp.go tq (by omega))); omega)))), rt186, fm187⟩, by rw [ht]; exact hP, va_K.moved hW.alike hK, hD⟩, hS.F ht⟩) hS.2.2 dX12_gets_17
