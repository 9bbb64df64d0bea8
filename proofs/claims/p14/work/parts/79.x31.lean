theorem w1251 : Cond.constant RX5 70 1000000 ∈ GW := gw_k tk9_5 136 (by decide +kernel) rfl
theorem w1255 : Cond.code yX5_goOnGetting cX5_goOnGetting 2 none ∈ GW := gw_k tk9_5 140 (rfl) rfl
theorem w1252 : Cond.methodLink RX5 74 yX5_goOnGetting ∈ GW := gw_k tk9_5 137 (by decide +kernel) rfl
theorem w1254 : Cond.instanceMethod yX5_goOnGetting ∈ GW := gw_k tk9_5 139 (by decide +kernel) rfl
theorem w44 : Cond.selects RX5 yX5_goOnGetting yX5_goOnGetting ∈ GW := gw_mem 44 (by decide +kernel) rfl
theorem hdV_yX5_goOnGetting : yX5_goOnGetting.cls = RX5 ∧ yX5_goOnGetting.cls ≠ "java/lang/invoke/MethodHandle" ∧ yX5_goOnGetting.cls ≠ "java/lang/invoke/VarHandle" ∧ (parseMethodDescriptor yX5_goOnGetting.desc).map (fun d => d.parameters.length) = some 1 := by decide +kernel
theorem w1331 : Cond.code yX5_goOnMaking cX5_goOnMaking 5 none ∈ GW := gw_k tk9_5 216 (rfl) rfl
theorem w1328 : Cond.methodLink RX5 78 yX5_goOnMaking ∈ GW := gw_k tk9_5 213 (by decide +kernel) rfl
theorem w1330 : Cond.instanceMethod yX5_goOnMaking ∈ GW := gw_k tk9_5 215 (by decide +kernel) rfl
theorem w53 : Cond.selects RX5 yX5_goOnMaking yX5_goOnMaking ∈ GW := gw_mem 53 (by decide +kernel) rfl
theorem hdV_yX5_goOnMaking : yX5_goOnMaking.cls = RX5 ∧ yX5_goOnMaking.cls ≠ "java/lang/invoke/MethodHandle" ∧ yX5_goOnMaking.cls ≠ "java/lang/invoke/VarHandle" ∧ (parseMethodDescriptor yX5_goOnMaking.desc).map (fun d => d.parameters.length) = some 1 := by decide +kernel
theorem w1383 : Cond.code yX5_goOnCalling cX5_goOnCalling 3 none ∈ GW := gw_k tk9_6 28 (rfl) rfl
theorem w1380 : Cond.methodLink RX5 81 yX5_goOnCalling ∈ GW := gw_k tk9_6 25 (by decide +kernel) rfl
theorem w1382 : Cond.instanceMethod yX5_goOnCalling ∈ GW := gw_k tk9_6 27 (by decide +kernel) rfl
theorem w58 : Cond.selects RX5 yX5_goOnCalling yX5_goOnCalling ∈ GW := gw_mem 58 (by decide +kernel) rfl
theorem hdV_yX5_goOnCalling : yX5_goOnCalling.cls = RX5 ∧ yX5_goOnCalling.cls ≠ "java/lang/invoke/MethodHandle" ∧ yX5_goOnCalling.cls ≠ "java/lang/invoke/VarHandle" ∧ (parseMethodDescriptor yX5_goOnCalling.desc).map (fun d => d.parameters.length) = some 1 := by decide +kernel
theorem w1414 : Cond.code yX5_goOnInside cX5_goOnInside 2 none ∈ GW := gw_k tk9_6 59 (rfl) rfl
theorem w1411 : Cond.methodLink RX5 84 yX5_goOnInside ∈ GW := gw_k tk9_6 56 (by decide +kernel) rfl
theorem w1413 : Cond.instanceMethod yX5_goOnInside ∈ GW := gw_k tk9_6 58 (by decide +kernel) rfl
theorem w63 : Cond.selects RX5 yX5_goOnInside yX5_goOnInside ∈ GW := gw_mem 63 (by decide +kernel) rfl
theorem hdV_yX5_goOnInside : yX5_goOnInside.cls = RX5 ∧ yX5_goOnInside.cls ≠ "java/lang/invoke/MethodHandle" ∧ yX5_goOnInside.cls ≠ "java/lang/invoke/VarHandle" ∧ (parseMethodDescriptor yX5_goOnInside.desc).map (fun d => d.parameters.length) = some 1 := by decide +kernel
theorem w1434 : Cond.code yX5_goOnWorking cX5_goOnWorking 2 none ∈ GW := gw_k tk9_6 79 (rfl) rfl
theorem w1431 : Cond.methodLink RX5 87 yX5_goOnWorking ∈ GW := gw_k tk9_6 76 (by decide +kernel) rfl
theorem w1433 : Cond.instanceMethod yX5_goOnWorking ∈ GW := gw_k tk9_6 78 (by decide +kernel) rfl
theorem w67 : Cond.selects RX5 yX5_goOnWorking yX5_goOnWorking ∈ GW := gw_mem 67 (by decide +kernel) rfl
theorem hdV_yX5_goOnWorking : yX5_goOnWorking.cls = RX5 ∧ yX5_goOnWorking.cls ≠ "java/lang/invoke/MethodHandle" ∧ yX5_goOnWorking.cls ≠ "java/lang/invoke/VarHandle" ∧ (parseMethodDescriptor yX5_goOnWorking.desc).map (fun d => d.parameters.length) = some 1 := by decide +kernel
theorem w1496 : Cond.code yX5_goOnClosing cX5_goOnClosing 4 none ∈ GW := gw_k tk9_6 141 (rfl) rfl
theorem w1493 : Cond.methodLink RX5 90 yX5_goOnClosing ∈ GW := gw_k tk9_6 138 (by decide +kernel) rfl
theorem w1495 : Cond.instanceMethod yX5_goOnClosing ∈ GW := gw_k tk9_6 140 (by decide +kernel) rfl
theorem w78 : Cond.selects RX5 yX5_goOnClosing yX5_goOnClosing ∈ GW := gw_mem 78 (by decide +kernel) rfl
theorem hdV_yX5_goOnClosing : yX5_goOnClosing.cls = RX5 ∧ yX5_goOnClosing.cls ≠ "java/lang/invoke/MethodHandle" ∧ yX5_goOnClosing.cls ≠ "java/lang/invoke/VarHandle" ∧ (parseMethodDescriptor yX5_goOnClosing.desc).map (fun d => d.parameters.length) = some 1 := by decide +kernel
theorem dk9_dX5_run_0_0 : dOk cX5_run [(0, .iconst 0, 1), (1, .istore_n 1, 1), (2, .iload_n 1, 1), (3, .ldc 70, 2), (5, .if_icmp .ge 110, 3), (115, .return_, 1), (8, .aload_n 0, 1), (9, .getfield 39, 3), (12, .ifCond .le 103, 3), (15, .aload_n 0, 1), (16, .getfield 13, 3), (19, .aload_n 0, 1), (20, .getfield 39, 3), (23, .iconst 1, 1), (24, .isub, 1), (25, .aaload, 1), (26, .astore_n 2, 1), (27, .aload_n 2, 1), (28, .getfield 71, 3), (31, .tableswitch 73 0 4 #[33, 41, 49, 57, 65], 33), (64, .aload_n 0, 1), (65, .aload_n 2, 1), (66, .invokevirtual 74, 3), (69, .goto 40, 3)] = true ∧ dOk cX5_run [(109, .iinc 1 1, 3), (112, .goto (-110), 3), (72, .aload_n 0, 1), (73, .aload_n 2, 1), (74, .invokevirtual 78, 3), (77, .goto 32, 3), (80, .aload_n 0, 1), (81, .aload_n 2, 1), (82, .invokevirtual 81, 3), (85, .goto 24, 3), (88, .aload_n 0, 1), (89, .aload_n 2, 1), (90, .invokevirtual 84, 3), (93, .goto 16, 3), (96, .aload_n 0, 1), (97, .aload_n 2, 1), (98, .invokevirtual 87, 3), (101, .goto 8, 3), (104, .aload_n 0, 1), (105, .aload_n 2, 1), (106, .invokevirtual 90, 3)] = true := by decide +kernel
theorem dX5_run_0 : decode cX5_run 0 = .ok (.iconst 0, 1) := dr9 dk9_dX5_run_0_0.1 0 (0, .iconst 0, 1) rfl
theorem dX5_run_1 : decode cX5_run 1 = .ok (.istore_n 1, 1) := dr9 dk9_dX5_run_0_0.1 1 (1, .istore_n 1, 1) rfl
theorem dX5_run_2 : decode cX5_run 2 = .ok (.iload_n 1, 1) := dr9 dk9_dX5_run_0_0.1 2 (2, .iload_n 1, 1) rfl
theorem dX5_run_3 : decode cX5_run 3 = .ok (.ldc 70, 2) := dr9 dk9_dX5_run_0_0.1 3 (3, .ldc 70, 2) rfl
theorem dX5_run_5 : decode cX5_run 5 = .ok (.if_icmp .ge 110, 3) := dr9 dk9_dX5_run_0_0.1 4 (5, .if_icmp .ge 110, 3) rfl
theorem dX5_run_115 : decode cX5_run 115 = .ok (.return_, 1) := dr9 dk9_dX5_run_0_0.1 5 (115, .return_, 1) rfl
theorem dX5_run_8 : decode cX5_run 8 = .ok (.aload_n 0, 1) := dr9 dk9_dX5_run_0_0.1 6 (8, .aload_n 0, 1) rfl
theorem dX5_run_9 : decode cX5_run 9 = .ok (.getfield 39, 3) := dr9 dk9_dX5_run_0_0.1 7 (9, .getfield 39, 3) rfl
theorem dX5_run_12 : decode cX5_run 12 = .ok (.ifCond .le 103, 3) := dr9 dk9_dX5_run_0_0.1 8 (12, .ifCond .le 103, 3) rfl
theorem dX5_run_15 : decode cX5_run 15 = .ok (.aload_n 0, 1) := dr9 dk9_dX5_run_0_0.1 9 (15, .aload_n 0, 1) rfl
theorem dX5_run_16 : decode cX5_run 16 = .ok (.getfield 13, 3) := dr9 dk9_dX5_run_0_0.1 10 (16, .getfield 13, 3) rfl
theorem dX5_run_19 : decode cX5_run 19 = .ok (.aload_n 0, 1) := dr9 dk9_dX5_run_0_0.1 11 (19, .aload_n 0, 1) rfl
theorem dX5_run_20 : decode cX5_run 20 = .ok (.getfield 39, 3) := dr9 dk9_dX5_run_0_0.1 12 (20, .getfield 39, 3) rfl
theorem dX5_run_23 : decode cX5_run 23 = .ok (.iconst 1, 1) := dr9 dk9_dX5_run_0_0.1 13 (23, .iconst 1, 1) rfl
theorem dX5_run_24 : decode cX5_run 24 = .ok (.isub, 1) := dr9 dk9_dX5_run_0_0.1 14 (24, .isub, 1) rfl
theorem dX5_run_25 : decode cX5_run 25 = .ok (.aaload, 1) := dr9 dk9_dX5_run_0_0.1 15 (25, .aaload, 1) rfl
theorem dX5_run_26 : decode cX5_run 26 = .ok (.astore_n 2, 1) := dr9 dk9_dX5_run_0_0.1 16 (26, .astore_n 2, 1) rfl
theorem dX5_run_27 : decode cX5_run 27 = .ok (.aload_n 2, 1) := dr9 dk9_dX5_run_0_0.1 17 (27, .aload_n 2, 1) rfl
theorem dX5_run_28 : decode cX5_run 28 = .ok (.getfield 71, 3) := dr9 dk9_dX5_run_0_0.1 18 (28, .getfield 71, 3) rfl
theorem dX5_run_31 : decode cX5_run 31 = .ok (.tableswitch 73 0 4 #[33, 41, 49, 57, 65], 33) := dr9 dk9_dX5_run_0_0.1 19 (31, .tableswitch 73 0 4 #[33, 41, 49, 57, 65], 33) rfl
theorem dX5_run_64 : decode cX5_run 64 = .ok (.aload_n 0, 1) := dr9 dk9_dX5_run_0_0.1 20 (64, .aload_n 0, 1) rfl
theorem dX5_run_65 : decode cX5_run 65 = .ok (.aload_n 2, 1) := dr9 dk9_dX5_run_0_0.1 21 (65, .aload_n 2, 1) rfl
theorem dX5_run_66 : decode cX5_run 66 = .ok (.invokevirtual 74, 3) := dr9 dk9_dX5_run_0_0.1 22 (66, .invokevirtual 74, 3) rfl
theorem dX5_run_69 : decode cX5_run 69 = .ok (.goto 40, 3) := dr9 dk9_dX5_run_0_0.1 23 (69, .goto 40, 3) rfl
theorem dX5_run_109 : decode cX5_run 109 = .ok (.iinc 1 1, 3) := dr9 dk9_dX5_run_0_0.2 0 (109, .iinc 1 1, 3) rfl
theorem dX5_run_112 : decode cX5_run 112 = .ok (.goto (-110), 3) := dr9 dk9_dX5_run_0_0.2 1 (112, .goto (-110), 3) rfl
theorem dX5_run_72 : decode cX5_run 72 = .ok (.aload_n 0, 1) := dr9 dk9_dX5_run_0_0.2 2 (72, .aload_n 0, 1) rfl
theorem dX5_run_73 : decode cX5_run 73 = .ok (.aload_n 2, 1) := dr9 dk9_dX5_run_0_0.2 3 (73, .aload_n 2, 1) rfl
theorem dX5_run_74 : decode cX5_run 74 = .ok (.invokevirtual 78, 3) := dr9 dk9_dX5_run_0_0.2 4 (74, .invokevirtual 78, 3) rfl
theorem dX5_run_77 : decode cX5_run 77 = .ok (.goto 32, 3) := dr9 dk9_dX5_run_0_0.2 5 (77, .goto 32, 3) rfl
theorem dX5_run_80 : decode cX5_run 80 = .ok (.aload_n 0, 1) := dr9 dk9_dX5_run_0_0.2 6 (80, .aload_n 0, 1) rfl
theorem dX5_run_81 : decode cX5_run 81 = .ok (.aload_n 2, 1) := dr9 dk9_dX5_run_0_0.2 7 (81, .aload_n 2, 1) rfl
theorem dX5_run_82 : decode cX5_run 82 = .ok (.invokevirtual 81, 3) := dr9 dk9_dX5_run_0_0.2 8 (82, .invokevirtual 81, 3) rfl
theorem dX5_run_85 : decode cX5_run 85 = .ok (.goto 24, 3) := dr9 dk9_dX5_run_0_0.2 9 (85, .goto 24, 3) rfl
theorem dX5_run_88 : decode cX5_run 88 = .ok (.aload_n 0, 1) := dr9 dk9_dX5_run_0_0.2 10 (88, .aload_n 0, 1) rfl
theorem dX5_run_89 : decode cX5_run 89 = .ok (.aload_n 2, 1) := dr9 dk9_dX5_run_0_0.2 11 (89, .aload_n 2, 1) rfl
theorem dX5_run_90 : decode cX5_run 90 = .ok (.invokevirtual 84, 3) := dr9 dk9_dX5_run_0_0.2 12 (90, .invokevirtual 84, 3) rfl
theorem dX5_run_93 : decode cX5_run 93 = .ok (.goto 16, 3) := dr9 dk9_dX5_run_0_0.2 13 (93, .goto 16, 3) rfl
theorem dX5_run_96 : decode cX5_run 96 = .ok (.aload_n 0, 1) := dr9 dk9_dX5_run_0_0.2 14 (96, .aload_n 0, 1) rfl
theorem dX5_run_97 : decode cX5_run 97 = .ok (.aload_n 2, 1) := dr9 dk9_dX5_run_0_0.2 15 (97, .aload_n 2, 1) rfl
theorem dX5_run_98 : decode cX5_run 98 = .ok (.invokevirtual 87, 3) := dr9 dk9_dX5_run_0_0.2 16 (98, .invokevirtual 87, 3) rfl
theorem dX5_run_101 : decode cX5_run 101 = .ok (.goto 8, 3) := dr9 dk9_dX5_run_0_0.2 17 (101, .goto 8, 3) rfl
theorem dX5_run_104 : decode cX5_run 104 = .ok (.aload_n 0, 1) := dr9 dk9_dX5_run_0_0.2 18 (104, .aload_n 0, 1) rfl
theorem dX5_run_105 : decode cX5_run 105 = .ok (.aload_n 2, 1) := dr9 dk9_dX5_run_0_0.2 19 (105, .aload_n 2, 1) rfl
theorem dX5_run_106 : decode cX5_run 106 = .ok (.invokevirtual 90, 3) := dr9 dk9_dX5_run_0_0.2 20 (106, .invokevirtual 90, 3) rfl
abbrev r_x_run (Z : XZ) : Room := { frames := 7, cells := zcc Z, slots := zss Z, locals := 159 }
abbrev q_x_run (D : va_G) (ks : KS) (ad : Nat → Nat) (kk : Nat → ClassId) (V : Vf) (L : Lf) (Z : XZ) (b : Nat) (A : Nat → Prop) : Array Value → State → Outcome → State → Prop := qZv D (fun (u : Vf × Lf × XZ) => rgd bX u.1 ∧ agr [(3, 13), (3, 14), (3, 15), (4, 5), (4, 6), (5, 6), (5, 7), (5, 8), (5, 9), (5, 10), (5, 11), (5, 12), (5, 13), (5, 14)] [24, 25, 26, 27, 28, 29, 30, 31, 32, 33, 34, 35, 36, 37, 39, 40, 67, 68, 69, 70, 71, 72, 73, 74, 75, 76, 77, 78, 79, 80, 81, 82, 83, 84, 85] V u.1 ∧ u.2.1 = L ∧ ZL Z u.2.2 ∧ (MJ u.1 u.2.2 b)) (fun u => xw ad kk u.1 u.2.1 u.2.2) (fun u => xty kk u.2.2) (fun u => zcc Z - zcc u.2.2) (fun u => zss Z - zss u.2.2) A
set_option maxHeartbeats 4000000 in
set_option maxRecDepth 100000 in
theorem x_run (l : Launch) (D : va_G) (ks : KS) (sz : Nat) (ad : Nat → Nat) (kk : Nat → ClassId) (V : Vf) (L : Lf) (Z : XZ) (b : Nat) (hMV : rgd bX V) (hb2 : b < 2) (mj : MJ V Z b)  : Met l yX5_run (Cond.code yX5_run cX5_run 3 none :: GW) (r_x_run Z) (va_Pc [.ref (ad 5)] (gp D ks (xw ad kk V L Z) (xty kk Z) sz)) (q_x_run D ks ad kk V L Z  b (va_A (xw ad kk V L Z) sz)) (zcc Z) (zss Z) (va_A (xw ad kk V L Z) sz) := by
  refine g_met (q_x_run D ks ad kk V L Z  b) (by decide) (Nat.le_of_ble_eq_true rfl) ?_
  intro p e s m below meth c A ls H locs hx hb hr hml hown hg hlocks hin hnw hgk hP hK hD hS hA hl
  have hown : s.vm.findClass RX5 = some m.cls := hown
  have hl : lv_has ls 3 [(0, .ref (ad 5))] := hl
  have hP : va_P D vwCl (xw ad kk V L Z) H := hP
  have hD : va_D A (xw ad kk V L Z) := hD
  have hK : va_K D vwCl (xty kk Z) s := hK
  have agV : agr [(3, 13), (3, 14), (3, 15), (4, 5), (4, 6), (5, 6), (5, 7), (5, 8), (5, 9), (5, 10), (5, 11), (5, 12), (5, 13), (5, 14)] [24, 25, 26, 27, 28, 29, 30, 31, 32, 33, 34, 35, 36, 37, 39, 40, 67, 68, 69, 70, 71, 72, 73, 74, 75, 76, 77, 78, 79, 80, 81, 82, 83, 84, 85] V V := agr.rf
  have zoZ : ZL Z Z := ZL.rf
  refine W.know (fun ka kb => ?_)
  refine W.tight (k := zcc Z - zcc Z) (n := zss Z - zss Z) (by omega) (by omega) ?_
  refine lv_iconst (v := 0) hx hb dX5_run_0 (by decide) ?_
  refine lv_istore_n (lv' := [(1, .int 0), (0, .ref (ad 5))]) hx hb dX5_run_1 rfl hl (by decide) rfl (fun ls hl => ?_)
  have lp4 : ∀ (fulp4 : Nat) (y1 : Int32) (V2 : Vf) (Z3 : XZ) (H : Heap) (locs : List Loc) (ls : Array Slot), 0 ≤ y1.toInt ∧ y1.toInt ≤ 1000000 → MJ V2 Z3 b → 1000000 - y1.toInt < (fulp4 : Int) → agr [(3, 13), (3, 14), (3, 15), (4, 5), (4, 6), (5, 6), (5, 7), (5, 8), (5, 9), (5, 10), (5, 11), (5, 12), (5, 13), (5, 14)] [24, 25, 26, 27, 28, 29, 30, 31, 32, 33, 34, 35, 36, 37, 39, 40, 67, 68, 69, 70, 71, 72, 73, 74, 75, 76, 77, 78, 79, 80, 81, 82, 83, 84, 85] V V2 → rgd bX V2 → ZL Z Z3 → va_K D vwCl (xty kk Z3) s → va_P D vwCl (xw ad kk V2 L Z3) H → va_D A (xw ad kk V2 L Z3) → va_S A s.heap H locs → lv_has ls 3 [(1, .int y1), (0, .ref (ad 5))] → W p l e (r_x_run Z) s m ([.ref (ad 5)] : List Value).toArray below meth c H locs (zcc Z - zcc Z3) (zss Z - zss Z3) (MQ below (q_x_run D ks ad kk V L Z  b A) ([.ref (ad 5)] : List Value).toArray s (zcc Z) (zss Z) A) (F0 m 2 ls []) := by
    intro fulp4
    induction fulp4 with
    | zero =>
      intro y1 V2 Z3 H locs ls klp4_0 xlp4_0 hn ajV2 hMV2 zoZ3 hK hP hD hS hl
      exfalso; omega
    | succ fulp4 ihlp4 =>
      intro y1 V2 Z3 H locs ls klp4_0 xlp4_0 hn ajV2 hMV2 zoZ3 hK hP hD hS hl
      have agV2 : agr [(3, 13), (3, 14), (3, 15), (4, 5), (4, 6), (5, 6), (5, 7), (5, 8), (5, 9), (5, 10), (5, 11), (5, 12), (5, 13), (5, 14)] [24, 25, 26, 27, 28, 29, 30, 31, 32, 33, 34, 35, 36, 37, 39, 40, 67, 68, 69, 70, 71, 72, 73, 74, 75, 76, 77, 78, 79, 80, 81, 82, 83, 84, 85] V V2 := agV.tr ajV2 (by decide) (by decide)
      have zmZ3 := zoZ3.1
      have znZ3 := zoZ3.2.1
      refine lv_iload_n hx hb dX5_run_2 rfl (lv_at hl 0 rfl) ?_
      refine lv_ldc (v := 1000000) hx hb hown (hg _ w1251) dX5_run_3 ?_
      refine lv_icmp_ge (tgt := 115) hx hb dX5_run_5 (by decide) (fun c5 => ?_) (fun c5 => ?_)
      · skip
        have f6 : 1000000 ≤ y1.toInt := b_le (by decide) rfl c5
        refine W.know (fun kr1 kr2 => ?_)
        refine W.widen (k := zcc Z) (n := zss Z) (Nat.sub_le _ _) (Nat.sub_le _ _) ?_
        exact W.vret hx hb hr (fun t ht hW => ⟨⟨(V2, L, Z3), rfl, ⟨hMV2, agV2, rfl, zoZ3, xlp4_0⟩, ⟨by rw [ht]; exact hP, va_K.moved hW.alike hK, hD⟩, by rw [ht]; exact kr1, by rw [ht]; exact kr2⟩, hS.F ht⟩) hS.2.2 dX5_run_115
      · skip
        have f7 : y1.toInt < 1000000 := b_nle (by decide) rfl c5
        refine lv_aload_n hx hb dX5_run_8 rfl (lv_at hl 1 rfl) ?_
        refine va_get (D := D) (ci := 5) (v := .int (V2 5 6)) (fs := (xfMachine ad V2 L Z3)) (C := RX5) (T := TX5) (N := 15) hx hb hg inX5 hown hK hP 5 xgMachine rfl 6 (by decide) (hg _ w673) (fun _ h9 => h9) rfl dX5_run_9 ?_
        have r8 : 0 ≤ ((V2 5 6)).toInt ∧ ((V2 5 6)).toInt ≤ 400 := hMV2 5 6
        refine lv_if_le (tgt := 115) hx hb dX5_run_12 (by decide) (fun c9 => ?_) (fun c9 => ?_)
        · skip
          have f10 : ((V2 5 6)).toInt ≤ 0 := b_le rfl (by decide) c9
          refine W.know (fun kr1 kr2 => ?_)
          refine W.widen (k := zcc Z) (n := zss Z) (Nat.sub_le _ _) (Nat.sub_le _ _) ?_
          exact W.vret hx hb hr (fun t ht hW => ⟨⟨(V2, L, Z3), rfl, ⟨hMV2, agV2, rfl, zoZ3, xlp4_0⟩, ⟨by rw [ht]; exact hP, va_K.moved hW.alike hK, hD⟩, by rw [ht]; exact kr1, by rw [ht]; exact kr2⟩, hS.F ht⟩) hS.2.2 dX5_run_115
        · skip
          have f11 : 0 < ((V2 5 6)).toInt := b_nle rfl (by decide) c9
          have hdn := MJ.dn xlp4_0 (by omega)
          refine lv_aload_n hx hb dX5_run_15 rfl (lv_at hl 1 rfl) ?_
          refine va_get (D := D) (ci := 5) (v := .ref (ad 35)) (fs := (xfMachine ad V2 L Z3)) (C := RX5) (T := TX5) (N := 15) hx hb hg inX5 hown hK hP 5 xgMachine rfl 2 (by decide) (hg _ w669) (fun _ h9 => h9) rfl dX5_run_16 ?_
          refine lv_aload_n hx hb dX5_run_19 rfl (lv_at hl 1 rfl) ?_
          refine va_get (D := D) (ci := 5) (v := .int (V2 5 6)) (fs := (xfMachine ad V2 L Z3)) (C := RX5) (T := TX5) (N := 15) hx hb hg inX5 hown hK hP 5 xgMachine rfl 6 (by decide) (hg _ w673) (fun _ h9 => h9) rfl dX5_run_20 ?_
          refine lv_iconst (v := 1) hx hb dX5_run_23 (by decide) ?_
          refine lv_isub hx hb dX5_run_24 ?_
          refine lv_topi (fun z12 ez12 => ?_)
          have hz12 : z12.toInt = ((V2 5 6)).toInt - 1 := i_sub ez12 rfl (by decide) (by (first | exact om_3d6fa717bec1 r8.2 f11 | omega))
          refine va_aldq (D := D) (i := z12) hx hb hK hP 35 28 rfl rfl (i_in (a := z12.toInt) rfl (by omega)) dX5_run_25 ?_
          have kc13 := i_clamp (x := z12) rfl (by (first | exact om_9271d0948665 f11 hz12 | omega))
          refine g_topv (v := .ref (Z3.fa (Int32.toNatClampNeg z12))) (by exact congrArg va_rf (if_pos (by omega))) ?_
          have il14 : (Int32.toNatClampNeg z12) < Z3.nf := by omega
          refine lv_astore_n (lv' := [(2, .ref (Z3.fa (Int32.toNatClampNeg z12))), (1, .int y1), (0, .ref (ad 5))]) hx hb dX5_run_26 rfl hl (by decide) rfl (fun ls hl => ?_)
          refine lv_aload_n hx hb dX5_run_27 rfl (lv_at hl 0 rfl) ?_
          refine va_getN (D := D) (ci := 4) (v := .int (V2 67 (Int32.toNatClampNeg z12))) (fs := (xfFrame V2 (Int32.toNatClampNeg z12))) (C := RX4) (T := TX4) (N := 19) hx hb hg inX4 hown hK hP (336 + (Int32.toNatClampNeg z12)) (xgFrame il14) rfl 0 (by decide) (hnw.use 1189 n1189 rfl) (fun _ h9 => h9) rfl dX5_run_28 ?_
          by_cases q15 : (V2 67 (Int32.toNatClampNeg z12)) = 0
          · refine g_top (v := 0) q15 ?_
            have fq15 : ((V2 67 (Int32.toNatClampNeg z12))).toInt = 0 := b_eq rfl (by decide) q15
            refine lv_tableIn (x := 0) (off := 33) (tgt := 64) hx hb dX5_run_31 (by decide) (by decide) (by decide) (by decide) ?_
            refine lv_aload_n hx hb dX5_run_64 rfl (lv_at hl 2 rfl) ?_
            refine lv_aload_n hx hb dX5_run_65 rfl (lv_at hl 0 rfl) ?_
            refine W.know (fun k17 k18 => ?_)
            obtain ⟨Hk16, hHk16⟩ : ∃ z, z = H := ⟨_, rfl⟩
            have k17 : Hk16.size ≤ s.heap.size + (zcc Z - zcc Z3) := by rw [hHk16]; exact k17
            have k18 : tot Hk16 ≤ tot s.heap + (zss Z - zss Z3) := by rw [hHk16]; exact k18
            refine gZ_void (gA_runV (As := [.ref (Z3.fa (Int32.toNatClampNeg z12))]) (rest := []) (ci := 5) (q0 := 5) hx hb hml hown hg hP hD hK hS hA hnw hgk (x_goOnGetting l D ks H.size ad kk V2 L Z3 (b) ((Int32.toNatClampNeg z12)) hMV2 (show b < 2 from by (first | exact om_f940a4667dd6 hb2 | omega)) (show (Int32.toNatClampNeg z12) < Z3.nf from by (first | exact om_8c5722e49bb1 il14 | omega)) (MJ.op (d := (Int32.toNatClampNeg z12)) xlp4_0 (by omega)) (show ((Int32.toNatClampNeg z12) : Int) + 1 = (V2 5 6).toInt from by (first | exact om_c968828d0a40 hz12 kc13 | omega)) (show (V2 67 (Int32.toNatClampNeg z12)).toInt = 0 from by (first | exact om_b66ba74381d5 fq15 | omega))) w1252 w1254 w44 w171 w1255 rfl xgMachine hdV_yX5_goOnGetting ⟨Nat.le_of_ble_eq_true rfl, Nat.le_of_ble_eq_true rfl⟩ rfl hl.1 rfl (Nat.le_of_ble_eq_true rfl) dX5_run_66 ⟨z1 zoZ3.1, z1 zoZ3.2.1⟩) hD hS hA (fun u20 H locs w21 hP hD hK hS y22 y23 => ?_)
            obtain ⟨V24, L25, Z26⟩ := u20
            obtain ⟨hMV24, ajV24, axL25, zlZ26, t28⟩ := w21
            have axL25 : L = L25 := Eq.symm axL25
            subst axL25
            have hP : va_P D vwCl (xw ad kk V24 L Z26) H := hP
            have hD : va_D A (xw ad kk V24 L Z26) := hD
            have hK : va_K D vwCl (xty kk Z26) s := hK
            have hMV24 : rgd bX V24 := hMV24
            have ajV24 : agr [(3, 13), (5, 6), (5, 8), (5, 9), (5, 10), (5, 11), (5, 12), (5, 13), (5, 14)] [25, 26, 27, 28, 30, 67, 68, 69, 70, 71, 72, 73, 74, 75, 76, 77, 78, 79, 80, 81, 82, 83, 84, 85] V2 V24 := ajV24
            have agV24 : agr [(3, 13), (3, 14), (3, 15), (4, 5), (4, 6), (5, 6), (5, 7), (5, 8), (5, 9), (5, 10), (5, 11), (5, 12), (5, 13), (5, 14)] [24, 25, 26, 27, 28, 29, 30, 31, 32, 33, 34, 35, 36, 37, 39, 40, 67, 68, 69, 70, 71, 72, 73, 74, 75, 76, 77, 78, 79, 80, 81, 82, 83, 84, 85] V V24 := agV2.tr ajV24 (by decide) (by decide)
            have zlZ26 : ZL Z3 Z26 := zlZ26
            have zoZ26 : ZL Z Z26 := ZL.tr zoZ3 zlZ26
            have ziZ26 := zlZ26.1
            have zjZ26 := zlZ26.2.1
            have zkZ26 := zlZ26.2.2.1
            have zmZ26 := zoZ26.1
            have znZ26 := zoZ26.2.1
            have zpZ3_Z26 := zoZ3.1
            have zqZ3_Z26 := zoZ3.2.1
            have y22 : H.size ≤ Hk16.size + (zcc Z3 - zcc Z26) := by rw [hHk16]; exact y22
            have y23 : tot H ≤ tot Hk16 + (zss Z3 - zss Z26) := by rw [hHk16]; exact y23
            refine W.tight (k := zcc Z - zcc Z26) (n := zss Z - zss Z26) (by first | exact tg9 y22 k17 zlZ26.1 zoZ3.1 | omega) (by first | exact tg9 y23 k18 zlZ26.2.1 zoZ3.2.1 | omega) ?_
            have hl : lv_has ls 3 [(2, .ref (Z26.fa (Int32.toNatClampNeg z12))), (1, .int y1), (0, .ref (ad 5))] := by rw [zlZ26.2.2.2.2 (Int32.toNatClampNeg z12) il14]; exact hl
            have t28 : MJ V24 Z26 b := t28
            refine lv_goto (tgt := 109) hx hb dX5_run_69 (by decide) ?_
            obtain ⟨z29, ez29⟩ : ∃ y : Int32, y = y1 + 1 := ⟨_, rfl⟩
            have hz29 : z29.toInt = y1.toInt + 1 := i_add ez29 rfl (by decide) (by (first | exact om_7cfca28772a4 klp4_0.1 f7 | omega))
            refine lv_iinc (v := z29) (lv' := [(1, .int z29), (2, .ref (Z26.fa (Int32.toNatClampNeg z12))), (0, .ref (ad 5))]) hx hb dX5_run_109 hl (k := 1) rfl (by rw [ez29]; rfl) (by decide) rfl (fun ls hl => ?_)
            refine lv_goto (tgt := 2) hx hb dX5_run_112 (by decide) ?_
            exact ihlp4 z29 V24 Z26 H locs ls (by (first | exact om_6036b630f734 klp4_0.1 f7 hz29 | omega)) t28 (by (first | exact om_4c597ccc4a45 hn hz29 | omega)) (agr.tr (agr.tr agr.rf ajV2 (by decide) (by decide)) ajV24 (by decide) (by decide)) hMV24 zoZ26 hK hP hD hS (lv_sub hl [0, 2] rfl)
          have gq15 : ((V2 67 (Int32.toNatClampNeg z12))).toInt ≠ 0 := b_neq rfl (by decide) q15
          by_cases q30 : (V2 67 (Int32.toNatClampNeg z12)) = 1
          · refine g_top (v := 1) q30 ?_
            have fq30 : ((V2 67 (Int32.toNatClampNeg z12))).toInt = 1 := b_eq rfl (by decide) q30
            refine lv_tableIn (x := 1) (off := 41) (tgt := 72) hx hb dX5_run_31 (by decide) (by decide) (by decide) (by decide) ?_
            refine lv_aload_n hx hb dX5_run_72 rfl (lv_at hl 2 rfl) ?_
            refine lv_aload_n hx hb dX5_run_73 rfl (lv_at hl 0 rfl) ?_
            refine W.know (fun k32 k33 => ?_)
            obtain ⟨Hk31, hHk31⟩ : ∃ z, z = H := ⟨_, rfl⟩
            have k32 : Hk31.size ≤ s.heap.size + (zcc Z - zcc Z3) := by rw [hHk31]; exact k32
            have k33 : tot Hk31 ≤ tot s.heap + (zss Z - zss Z3) := by rw [hHk31]; exact k33
            refine gZ_void (gA_runV (As := [.ref (Z3.fa (Int32.toNatClampNeg z12))]) (rest := []) (ci := 5) (q0 := 5) hx hb hml hown hg hP hD hK hS hA hnw hgk (x_goOnMaking l D ks H.size ad kk V2 L Z3 (b) ((Int32.toNatClampNeg z12)) hMV2 (show b < 2 from by (first | exact om_f940a4667dd6 hb2 | omega)) (show (Int32.toNatClampNeg z12) < Z3.nf from by (first | exact om_8c5722e49bb1 il14 | omega)) (MJ.op (d := (Int32.toNatClampNeg z12)) xlp4_0 (by omega)) (show ((Int32.toNatClampNeg z12) : Int) + 1 = (V2 5 6).toInt from by (first | exact om_c968828d0a40 hz12 kc13 | omega)) (show (V2 67 (Int32.toNatClampNeg z12)).toInt = 1 from by (first | exact om_710535a98d88 fq30 | omega))) w1328 w1330 w53 w171 w1331 rfl xgMachine hdV_yX5_goOnMaking ⟨Nat.le_of_ble_eq_true rfl, Nat.le_of_ble_eq_true rfl⟩ rfl hl.1 rfl (Nat.le_of_ble_eq_true rfl) dX5_run_74 ⟨z1 zoZ3.1, z1 zoZ3.2.1⟩) hD hS hA (fun u35 H locs w36 hP hD hK hS y37 y38 => ?_)
            obtain ⟨V39, L40, Z41⟩ := u35
            obtain ⟨hMV39, ajV39, axL40, zlZ41, t43⟩ := w36
            have axL40 : L = L40 := Eq.symm axL40
            subst axL40
            have hP : va_P D vwCl (xw ad kk V39 L Z41) H := hP
            have hD : va_D A (xw ad kk V39 L Z41) := hD
            have hK : va_K D vwCl (xty kk Z41) s := hK
            have hMV39 : rgd bX V39 := hMV39
            have ajV39 : agr [(3, 13), (3, 14), (3, 15), (5, 6), (5, 8), (5, 9), (5, 10), (5, 11), (5, 12), (5, 13), (5, 14)] [24, 25, 26, 27, 28, 29, 30, 31, 32, 40, 67, 68, 69, 70, 71, 72, 73, 74, 75, 76, 77, 78, 79, 80, 81, 82, 83, 84, 85] V2 V39 := ajV39
            have agV39 : agr [(3, 13), (3, 14), (3, 15), (4, 5), (4, 6), (5, 6), (5, 7), (5, 8), (5, 9), (5, 10), (5, 11), (5, 12), (5, 13), (5, 14)] [24, 25, 26, 27, 28, 29, 30, 31, 32, 33, 34, 35, 36, 37, 39, 40, 67, 68, 69, 70, 71, 72, 73, 74, 75, 76, 77, 78, 79, 80, 81, 82, 83, 84, 85] V V39 := agV2.tr ajV39 (by decide) (by decide)
            have zlZ41 : ZL Z3 Z41 := zlZ41
            have zoZ41 : ZL Z Z41 := ZL.tr zoZ3 zlZ41
            have ziZ41 := zlZ41.1
            have zjZ41 := zlZ41.2.1
            have zkZ41 := zlZ41.2.2.1
            have zmZ41 := zoZ41.1
            have znZ41 := zoZ41.2.1
            have zpZ3_Z41 := zoZ3.1
            have zqZ3_Z41 := zoZ3.2.1
            have y37 : H.size ≤ Hk31.size + (zcc Z3 - zcc Z41) := by rw [hHk31]; exact y37
            have y38 : tot H ≤ tot Hk31 + (zss Z3 - zss Z41) := by rw [hHk31]; exact y38
            refine W.tight (k := zcc Z - zcc Z41) (n := zss Z - zss Z41) (by first | exact tg9 y37 k32 zlZ41.1 zoZ3.1 | omega) (by first | exact tg9 y38 k33 zlZ41.2.1 zoZ3.2.1 | omega) ?_
            have hl : lv_has ls 3 [(2, .ref (Z41.fa (Int32.toNatClampNeg z12))), (1, .int y1), (0, .ref (ad 5))] := by rw [zlZ41.2.2.2.2 (Int32.toNatClampNeg z12) il14]; exact hl
            have t43 : MJ V39 Z41 b := t43
            refine lv_goto (tgt := 109) hx hb dX5_run_77 (by decide) ?_
            obtain ⟨z44, ez44⟩ : ∃ y : Int32, y = y1 + 1 := ⟨_, rfl⟩
            have hz44 : z44.toInt = y1.toInt + 1 := i_add ez44 rfl (by decide) (by (first | exact om_7cfca28772a4 klp4_0.1 f7 | omega))
            refine lv_iinc (v := z44) (lv' := [(1, .int z44), (2, .ref (Z41.fa (Int32.toNatClampNeg z12))), (0, .ref (ad 5))]) hx hb dX5_run_109 hl (k := 1) rfl (by rw [ez44]; rfl) (by decide) rfl (fun ls hl => ?_)
            refine lv_goto (tgt := 2) hx hb dX5_run_112 (by decide) ?_
            exact ihlp4 z44 V39 Z41 H locs ls (by (first | exact om_6036b630f734 klp4_0.1 f7 hz44 | omega)) t43 (by (first | exact om_4c597ccc4a45 hn hz44 | omega)) (agr.tr (agr.tr agr.rf ajV2 (by decide) (by decide)) ajV39 (by decide) (by decide)) hMV39 zoZ41 hK hP hD hS (lv_sub hl [0, 2] rfl)
          have gq30 : ((V2 67 (Int32.toNatClampNeg z12))).toInt ≠ 1 := b_neq rfl (by decide) q30
          by_cases q45 : (V2 67 (Int32.toNatClampNeg z12)) = 2
          · refine g_top (v := 2) q45 ?_
            have fq45 : ((V2 67 (Int32.toNatClampNeg z12))).toInt = 2 := b_eq rfl (by decide) q45
            refine lv_tableIn (x := 2) (off := 49) (tgt := 80) hx hb dX5_run_31 (by decide) (by decide) (by decide) (by decide) ?_
            refine lv_aload_n hx hb dX5_run_80 rfl (lv_at hl 2 rfl) ?_
            refine lv_aload_n hx hb dX5_run_81 rfl (lv_at hl 0 rfl) ?_
            refine W.know (fun k47 k48 => ?_)
            obtain ⟨Hk46, hHk46⟩ : ∃ z, z = H := ⟨_, rfl⟩
            have k47 : Hk46.size ≤ s.heap.size + (zcc Z - zcc Z3) := by rw [hHk46]; exact k47
            have k48 : tot Hk46 ≤ tot s.heap + (zss Z - zss Z3) := by rw [hHk46]; exact k48
            refine gZ_void (gA_runV (As := [.ref (Z3.fa (Int32.toNatClampNeg z12))]) (rest := []) (ci := 5) (q0 := 5) hx hb hml hown hg hP hD hK hS hA hnw hgk (x_goOnCalling l D ks H.size ad kk V2 L Z3 (b) ((Int32.toNatClampNeg z12)) hMV2 (show b < 2 from by (first | exact om_f940a4667dd6 hb2 | omega)) (show (Int32.toNatClampNeg z12) < Z3.nf from by (first | exact om_8c5722e49bb1 il14 | omega)) (MJ.op (d := (Int32.toNatClampNeg z12)) xlp4_0 (by omega)) (show ((Int32.toNatClampNeg z12) : Int) + 1 = (V2 5 6).toInt from by (first | exact om_c968828d0a40 hz12 kc13 | omega)) (show (V2 67 (Int32.toNatClampNeg z12)).toInt = 2 from by (first | exact om_6aa5e6f8c558 fq45 | omega))) w1380 w1382 w58 w171 w1383 rfl xgMachine hdV_yX5_goOnCalling ⟨Nat.le_of_ble_eq_true rfl, Nat.le_of_ble_eq_true rfl⟩ rfl hl.1 rfl (Nat.le_of_ble_eq_true rfl) dX5_run_82 ⟨z1 zoZ3.1, z1 zoZ3.2.1⟩) hD hS hA (fun u50 H locs w51 hP hD hK hS y52 y53 => ?_)
            obtain ⟨V54, L55, Z56⟩ := u50
            obtain ⟨hMV54, ajV54, axL55, zlZ56, t58⟩ := w51
            have axL55 : L = L55 := Eq.symm axL55
            subst axL55
            have hP : va_P D vwCl (xw ad kk V54 L Z56) H := hP
            have hD : va_D A (xw ad kk V54 L Z56) := hD
            have hK : va_K D vwCl (xty kk Z56) s := hK
            have hMV54 : rgd bX V54 := hMV54
            have ajV54 : agr [(4, 5), (5, 6), (5, 9), (5, 11), (5, 12), (5, 13), (5, 14)] [33, 34, 35, 67, 68, 69, 70, 71, 72, 73, 74, 75, 76, 77, 78, 79, 80, 81, 82, 83, 84, 85] V2 V54 := ajV54
            have agV54 : agr [(3, 13), (3, 14), (3, 15), (4, 5), (4, 6), (5, 6), (5, 7), (5, 8), (5, 9), (5, 10), (5, 11), (5, 12), (5, 13), (5, 14)] [24, 25, 26, 27, 28, 29, 30, 31, 32, 33, 34, 35, 36, 37, 39, 40, 67, 68, 69, 70, 71, 72, 73, 74, 75, 76, 77, 78, 79, 80, 81, 82, 83, 84, 85] V V54 := agV2.tr ajV54 (by decide) (by decide)
            have zlZ56 : ZL Z3 Z56 := zlZ56
            have zoZ56 : ZL Z Z56 := ZL.tr zoZ3 zlZ56
            have ziZ56 := zlZ56.1
            have zjZ56 := zlZ56.2.1
            have zkZ56 := zlZ56.2.2.1
            have zmZ56 := zoZ56.1
            have znZ56 := zoZ56.2.1
            have zpZ3_Z56 := zoZ3.1
            have zqZ3_Z56 := zoZ3.2.1
            have y52 : H.size ≤ Hk46.size + (zcc Z3 - zcc Z56) := by rw [hHk46]; exact y52
            have y53 : tot H ≤ tot Hk46 + (zss Z3 - zss Z56) := by rw [hHk46]; exact y53
            refine W.tight (k := zcc Z - zcc Z56) (n := zss Z - zss Z56) (by first | exact tg9 y52 k47 zlZ56.1 zoZ3.1 | omega) (by first | exact tg9 y53 k48 zlZ56.2.1 zoZ3.2.1 | omega) ?_
            have hl : lv_has ls 3 [(2, .ref (Z56.fa (Int32.toNatClampNeg z12))), (1, .int y1), (0, .ref (ad 5))] := by rw [zlZ56.2.2.2.2 (Int32.toNatClampNeg z12) il14]; exact hl
            have t58 : MJ V54 Z56 b := t58
            refine lv_goto (tgt := 109) hx hb dX5_run_85 (by decide) ?_
            obtain ⟨z59, ez59⟩ : ∃ y : Int32, y = y1 + 1 := ⟨_, rfl⟩
            have hz59 : z59.toInt = y1.toInt + 1 := i_add ez59 rfl (by decide) (by (first | exact om_7cfca28772a4 klp4_0.1 f7 | omega))
            refine lv_iinc (v := z59) (lv' := [(1, .int z59), (2, .ref (Z56.fa (Int32.toNatClampNeg z12))), (0, .ref (ad 5))]) hx hb dX5_run_109 hl (k := 1) rfl (by rw [ez59]; rfl) (by decide) rfl (fun ls hl => ?_)
            refine lv_goto (tgt := 2) hx hb dX5_run_112 (by decide) ?_
            exact ihlp4 z59 V54 Z56 H locs ls (by (first | exact om_6036b630f734 klp4_0.1 f7 hz59 | omega)) t58 (by (first | exact om_4c597ccc4a45 hn hz59 | omega)) (agr.tr (agr.tr agr.rf ajV2 (by decide) (by decide)) ajV54 (by decide) (by decide)) hMV54 zoZ56 hK hP hD hS (lv_sub hl [0, 2] rfl)
          have gq45 : ((V2 67 (Int32.toNatClampNeg z12))).toInt ≠ 2 := b_neq rfl (by decide) q45
          by_cases q60 : (V2 67 (Int32.toNatClampNeg z12)) = 3
          · refine g_top (v := 3) q60 ?_
            have fq60 : ((V2 67 (Int32.toNatClampNeg z12))).toInt = 3 := b_eq rfl (by decide) q60
            refine lv_tableIn (x := 3) (off := 57) (tgt := 88) hx hb dX5_run_31 (by decide) (by decide) (by decide) (by decide) ?_
            refine lv_aload_n hx hb dX5_run_88 rfl (lv_at hl 2 rfl) ?_
            refine lv_aload_n hx hb dX5_run_89 rfl (lv_at hl 0 rfl) ?_
            refine W.know (fun k62 k63 => ?_)
            obtain ⟨Hk61, hHk61⟩ : ∃ z, z = H := ⟨_, rfl⟩
            have k62 : Hk61.size ≤ s.heap.size + (zcc Z - zcc Z3) := by rw [hHk61]; exact k62
            have k63 : tot Hk61 ≤ tot s.heap + (zss Z - zss Z3) := by rw [hHk61]; exact k63
            refine gZ_void (gA_runV (As := [.ref (Z3.fa (Int32.toNatClampNeg z12))]) (rest := []) (ci := 5) (q0 := 5) hx hb hml hown hg hP hD hK hS hA hnw hgk (x_goOnInside l D ks H.size ad kk V2 L Z3 (b) ((Int32.toNatClampNeg z12)) hMV2 (show b < 2 from by (first | exact om_f940a4667dd6 hb2 | omega)) (show (Int32.toNatClampNeg z12) < Z3.nf from by (first | exact om_8c5722e49bb1 il14 | omega)) (MJ.op (d := (Int32.toNatClampNeg z12)) xlp4_0 (by omega)) (show ((Int32.toNatClampNeg z12) : Int) + 1 = (V2 5 6).toInt from by (first | exact om_c968828d0a40 hz12 kc13 | omega)) (show (V2 67 (Int32.toNatClampNeg z12)).toInt = 3 from by (first | exact om_395e3da5ee0d fq60 | omega))) w1411 w1413 w63 w171 w1414 rfl xgMachine hdV_yX5_goOnInside ⟨Nat.le_of_ble_eq_true rfl, Nat.le_of_ble_eq_true rfl⟩ rfl hl.1 rfl (Nat.le_of_ble_eq_true rfl) dX5_run_90 ⟨z1 zoZ3.1, z1 zoZ3.2.1⟩) hD hS hA (fun u65 H locs w66 hP hD hK hS y67 y68 => ?_)
            obtain ⟨V69, L70, Z71⟩ := u65
            obtain ⟨hMV69, ajV69, axL70, zlZ71, t73⟩ := w66
            have axL70 : L = L70 := Eq.symm axL70
            subst axL70
            have hP : va_P D vwCl (xw ad kk V69 L Z71) H := hP
            have hD : va_D A (xw ad kk V69 L Z71) := hD
            have hK : va_K D vwCl (xty kk Z71) s := hK
            have hMV69 : rgd bX V69 := hMV69
            have ajV69 : agr [(4, 5), (5, 6), (5, 9), (5, 10), (5, 11), (5, 12)] [33, 34, 35, 67, 68, 69, 70, 71, 72, 73, 74, 75, 76, 77, 78, 79, 80, 81, 82, 83, 84, 85] V2 V69 := ajV69
            have agV69 : agr [(3, 13), (3, 14), (3, 15), (4, 5), (4, 6), (5, 6), (5, 7), (5, 8), (5, 9), (5, 10), (5, 11), (5, 12), (5, 13), (5, 14)] [24, 25, 26, 27, 28, 29, 30, 31, 32, 33, 34, 35, 36, 37, 39, 40, 67, 68, 69, 70, 71, 72, 73, 74, 75, 76, 77, 78, 79, 80, 81, 82, 83, 84, 85] V V69 := agV2.tr ajV69 (by decide) (by decide)
            have zlZ71 : ZL Z3 Z71 := zlZ71
            have zoZ71 : ZL Z Z71 := ZL.tr zoZ3 zlZ71
            have ziZ71 := zlZ71.1
            have zjZ71 := zlZ71.2.1
            have zkZ71 := zlZ71.2.2.1
            have zmZ71 := zoZ71.1
            have znZ71 := zoZ71.2.1
            have zpZ3_Z71 := zoZ3.1
            have zqZ3_Z71 := zoZ3.2.1
            have y67 : H.size ≤ Hk61.size + (zcc Z3 - zcc Z71) := by rw [hHk61]; exact y67
            have y68 : tot H ≤ tot Hk61 + (zss Z3 - zss Z71) := by rw [hHk61]; exact y68
            refine W.tight (k := zcc Z - zcc Z71) (n := zss Z - zss Z71) (by first | exact tg9 y67 k62 zlZ71.1 zoZ3.1 | omega) (by first | exact tg9 y68 k63 zlZ71.2.1 zoZ3.2.1 | omega) ?_
            have hl : lv_has ls 3 [(2, .ref (Z71.fa (Int32.toNatClampNeg z12))), (1, .int y1), (0, .ref (ad 5))] := by rw [zlZ71.2.2.2.2 (Int32.toNatClampNeg z12) il14]; exact hl
            have t73 : MJ V69 Z71 b := t73
            refine lv_goto (tgt := 109) hx hb dX5_run_93 (by decide) ?_
            obtain ⟨z74, ez74⟩ : ∃ y : Int32, y = y1 + 1 := ⟨_, rfl⟩
            have hz74 : z74.toInt = y1.toInt + 1 := i_add ez74 rfl (by decide) (by (first | exact om_7cfca28772a4 klp4_0.1 f7 | omega))
            refine lv_iinc (v := z74) (lv' := [(1, .int z74), (2, .ref (Z71.fa (Int32.toNatClampNeg z12))), (0, .ref (ad 5))]) hx hb dX5_run_109 hl (k := 1) rfl (by rw [ez74]; rfl) (by decide) rfl (fun ls hl => ?_)
            refine lv_goto (tgt := 2) hx hb dX5_run_112 (by decide) ?_
            exact ihlp4 z74 V69 Z71 H locs ls (by (first | exact om_6036b630f734 klp4_0.1 f7 hz74 | omega)) t73 (by (first | exact om_4c597ccc4a45 hn hz74 | omega)) (agr.tr (agr.tr agr.rf ajV2 (by decide) (by decide)) ajV69 (by decide) (by decide)) hMV69 zoZ71 hK hP hD hS (lv_sub hl [0, 2] rfl)
          have gq60 : ((V2 67 (Int32.toNatClampNeg z12))).toInt ≠ 3 := b_neq rfl (by decide) q60
          by_cases q75 : (V2 67 (Int32.toNatClampNeg z12)) = 4
          · refine g_top (v := 4) q75 ?_
            have fq75 : ((V2 67 (Int32.toNatClampNeg z12))).toInt = 4 := b_eq rfl (by decide) q75
            refine lv_tableIn (x := 4) (off := 65) (tgt := 96) hx hb dX5_run_31 (by decide) (by decide) (by decide) (by decide) ?_
            refine lv_aload_n hx hb dX5_run_96 rfl (lv_at hl 2 rfl) ?_
            refine lv_aload_n hx hb dX5_run_97 rfl (lv_at hl 0 rfl) ?_
            refine W.know (fun k77 k78 => ?_)
            obtain ⟨Hk76, hHk76⟩ : ∃ z, z = H := ⟨_, rfl⟩
            have k77 : Hk76.size ≤ s.heap.size + (zcc Z - zcc Z3) := by rw [hHk76]; exact k77
            have k78 : tot Hk76 ≤ tot s.heap + (zss Z - zss Z3) := by rw [hHk76]; exact k78
            refine gZ_void (gA_runV (As := [.ref (Z3.fa (Int32.toNatClampNeg z12))]) (rest := []) (ci := 5) (q0 := 5) hx hb hml hown hg hP hD hK hS hA hnw hgk (x_goOnWorking l D ks H.size ad kk V2 L Z3 (b) ((Int32.toNatClampNeg z12)) hMV2 (show b < 2 from by (first | exact om_f940a4667dd6 hb2 | omega)) (show (Int32.toNatClampNeg z12) < Z3.nf from by (first | exact om_8c5722e49bb1 il14 | omega)) (MJ.op (d := (Int32.toNatClampNeg z12)) xlp4_0 (by omega)) (show ((Int32.toNatClampNeg z12) : Int) + 1 = (V2 5 6).toInt from by (first | exact om_c968828d0a40 hz12 kc13 | omega)) (show (V2 67 (Int32.toNatClampNeg z12)).toInt = 4 from by (first | exact om_c88e7ce0b8a2 fq75 | omega))) w1431 w1433 w67 w171 w1434 rfl xgMachine hdV_yX5_goOnWorking ⟨Nat.le_of_ble_eq_true rfl, Nat.le_of_ble_eq_true rfl⟩ rfl hl.1 rfl (Nat.le_of_ble_eq_true rfl) dX5_run_98 ⟨z1 zoZ3.1, z1 zoZ3.2.1⟩) hD hS hA (fun u80 H locs w81 hP hD hK hS y82 y83 => ?_)
            obtain ⟨V84, L85, Z86⟩ := u80
            obtain ⟨hMV84, ajV84, axL85, zlZ86, t88⟩ := w81
            have axL85 : L = L85 := Eq.symm axL85
            subst axL85
            have hP : va_P D vwCl (xw ad kk V84 L Z86) H := hP
            have hD : va_D A (xw ad kk V84 L Z86) := hD
            have hK : va_K D vwCl (xty kk Z86) s := hK
            have hMV84 : rgd bX V84 := hMV84
            have ajV84 : agr [(3, 15), (5, 6), (5, 7), (5, 9), (5, 10), (5, 11), (5, 12), (5, 13), (5, 14)] [30, 31, 32, 39, 67, 68, 69, 70, 71, 72, 73, 74, 75, 76, 77, 78, 79, 80, 81, 82, 83, 84, 85] V2 V84 := ajV84
            have agV84 : agr [(3, 13), (3, 14), (3, 15), (4, 5), (4, 6), (5, 6), (5, 7), (5, 8), (5, 9), (5, 10), (5, 11), (5, 12), (5, 13), (5, 14)] [24, 25, 26, 27, 28, 29, 30, 31, 32, 33, 34, 35, 36, 37, 39, 40, 67, 68, 69, 70, 71, 72, 73, 74, 75, 76, 77, 78, 79, 80, 81, 82, 83, 84, 85] V V84 := agV2.tr ajV84 (by decide) (by decide)
            have zlZ86 : ZL Z3 Z86 := zlZ86
            have zoZ86 : ZL Z Z86 := ZL.tr zoZ3 zlZ86
            have ziZ86 := zlZ86.1
            have zjZ86 := zlZ86.2.1
            have zkZ86 := zlZ86.2.2.1
            have zmZ86 := zoZ86.1
            have znZ86 := zoZ86.2.1
            have zpZ3_Z86 := zoZ3.1
            have zqZ3_Z86 := zoZ3.2.1
            have y82 : H.size ≤ Hk76.size + (zcc Z3 - zcc Z86) := by rw [hHk76]; exact y82
            have y83 : tot H ≤ tot Hk76 + (zss Z3 - zss Z86) := by rw [hHk76]; exact y83
            refine W.tight (k := zcc Z - zcc Z86) (n := zss Z - zss Z86) (by first | exact tg9 y82 k77 zlZ86.1 zoZ3.1 | omega) (by first | exact tg9 y83 k78 zlZ86.2.1 zoZ3.2.1 | omega) ?_
            have hl : lv_has ls 3 [(2, .ref (Z86.fa (Int32.toNatClampNeg z12))), (1, .int y1), (0, .ref (ad 5))] := by rw [zlZ86.2.2.2.2 (Int32.toNatClampNeg z12) il14]; exact hl
            have t88 : MJ V84 Z86 b := t88
            refine lv_goto (tgt := 109) hx hb dX5_run_101 (by decide) ?_
            obtain ⟨z89, ez89⟩ : ∃ y : Int32, y = y1 + 1 := ⟨_, rfl⟩
            have hz89 : z89.toInt = y1.toInt + 1 := i_add ez89 rfl (by decide) (by (first | exact om_7cfca28772a4 klp4_0.1 f7 | omega))
            refine lv_iinc (v := z89) (lv' := [(1, .int z89), (2, .ref (Z86.fa (Int32.toNatClampNeg z12))), (0, .ref (ad 5))]) hx hb dX5_run_109 hl (k := 1) rfl (by rw [ez89]; rfl) (by decide) rfl (fun ls hl => ?_)
            refine lv_goto (tgt := 2) hx hb dX5_run_112 (by decide) ?_
            exact ihlp4 z89 V84 Z86 H locs ls (by (first | exact om_6036b630f734 klp4_0.1 f7 hz89 | omega)) t88 (by (first | exact om_4c597ccc4a45 hn hz89 | omega)) (agr.tr (agr.tr agr.rf ajV2 (by decide) (by decide)) ajV84 (by decide) (by decide)) hMV84 zoZ86 hK hP hD hS (lv_sub hl [0, 2] rfl)
          have gq75 : ((V2 67 (Int32.toNatClampNeg z12))).toInt ≠ 4 := b_neq rfl (by decide) q75
          refine lv_tableOut (x := (V2 67 (Int32.toNatClampNeg z12))) (tgt := 104) hx hb dX5_run_31 (by omega) (by decide) ?_
          refine lv_aload_n hx hb dX5_run_104 rfl (lv_at hl 2 rfl) ?_
          refine lv_aload_n hx hb dX5_run_105 rfl (lv_at hl 0 rfl) ?_
          refine W.know (fun k91 k92 => ?_)
          obtain ⟨Hk90, hHk90⟩ : ∃ z, z = H := ⟨_, rfl⟩
          have k91 : Hk90.size ≤ s.heap.size + (zcc Z - zcc Z3) := by rw [hHk90]; exact k91
          have k92 : tot Hk90 ≤ tot s.heap + (zss Z - zss Z3) := by rw [hHk90]; exact k92
          refine gZ_void (gA_runV (As := [.ref (Z3.fa (Int32.toNatClampNeg z12))]) (rest := []) (ci := 5) (q0 := 5) hx hb hml hown hg hP hD hK hS hA hnw hgk (x_goOnClosing l D ks H.size ad kk V2 L Z3 (b) ((Int32.toNatClampNeg z12)) hMV2 (show b < 2 from by (first | exact om_f940a4667dd6 hb2 | omega)) (show (Int32.toNatClampNeg z12) < Z3.nf from by (first | exact om_8c5722e49bb1 il14 | omega)) (MJ.op (d := (Int32.toNatClampNeg z12)) xlp4_0 (by omega)) (show ((Int32.toNatClampNeg z12) : Int) + 1 = (V2 5 6).toInt from by (first | exact om_c968828d0a40 hz12 kc13 | omega)) (show (V2 67 (Int32.toNatClampNeg z12)).toInt ≠ 0 ∧ (V2 67 (Int32.toNatClampNeg z12)).toInt ≠ 1 ∧ (V2 67 (Int32.toNatClampNeg z12)).toInt ≠ 2 ∧ (V2 67 (Int32.toNatClampNeg z12)).toInt ≠ 3 ∧ (V2 67 (Int32.toNatClampNeg z12)).toInt ≠ 4 from by omega)) w1493 w1495 w78 w171 w1496 rfl xgMachine hdV_yX5_goOnClosing ⟨Nat.le_of_ble_eq_true rfl, Nat.le_of_ble_eq_true rfl⟩ rfl hl.1 rfl (Nat.le_of_ble_eq_true rfl) dX5_run_106 ⟨z1 zoZ3.1, z1 zoZ3.2.1⟩) hD hS hA (fun u94 H locs w95 hP hD hK hS y96 y97 => ?_)
          obtain ⟨V98, L99, Z100⟩ := u94
          obtain ⟨hMV98, ajV98, axL99, zlZ100, t102⟩ := w95
          have axL99 : L = L99 := Eq.symm axL99
          subst axL99
          have hP : va_P D vwCl (xw ad kk V98 L Z100) H := hP
          have hD : va_D A (xw ad kk V98 L Z100) := hD
          have hK : va_K D vwCl (xty kk Z100) s := hK
          have hMV98 : rgd bX V98 := hMV98
          have ajV98 : agr [(4, 6), (5, 6), (5, 9), (5, 10)] [25, 28, 36, 37, 67, 68, 69, 70, 71, 72, 73, 74, 75, 76, 77, 78, 79, 80, 81, 82, 83, 84, 85] V2 V98 := ajV98
          have agV98 : agr [(3, 13), (3, 14), (3, 15), (4, 5), (4, 6), (5, 6), (5, 7), (5, 8), (5, 9), (5, 10), (5, 11), (5, 12), (5, 13), (5, 14)] [24, 25, 26, 27, 28, 29, 30, 31, 32, 33, 34, 35, 36, 37, 39, 40, 67, 68, 69, 70, 71, 72, 73, 74, 75, 76, 77, 78, 79, 80, 81, 82, 83, 84, 85] V V98 := agV2.tr ajV98 (by decide) (by decide)
          have zlZ100 : ZL Z3 Z100 := zlZ100
          have zoZ100 : ZL Z Z100 := ZL.tr zoZ3 zlZ100
          have ziZ100 := zlZ100.1
          have zjZ100 := zlZ100.2.1
          have zkZ100 := zlZ100.2.2.1
          have zmZ100 := zoZ100.1
          have znZ100 := zoZ100.2.1
          have zpZ3_Z100 := zoZ3.1
          have zqZ3_Z100 := zoZ3.2.1
          have y96 : H.size ≤ Hk90.size + (zcc Z3 - zcc Z100) := by rw [hHk90]; exact y96
          have y97 : tot H ≤ tot Hk90 + (zss Z3 - zss Z100) := by rw [hHk90]; exact y97
          refine W.tight (k := zcc Z - zcc Z100) (n := zss Z - zss Z100) (by first | exact tg9 y96 k91 zlZ100.1 zoZ3.1 | omega) (by first | exact tg9 y97 k92 zlZ100.2.1 zoZ3.2.1 | omega) ?_
          have hl : lv_has ls 3 [(2, .ref (Z100.fa (Int32.toNatClampNeg z12))), (1, .int y1), (0, .ref (ad 5))] := by rw [zlZ100.2.2.2.2 (Int32.toNatClampNeg z12) il14]; exact hl
          have t102 : MJ V98 Z100 b := t102
          obtain ⟨z103, ez103⟩ : ∃ y : Int32, y = y1 + 1 := ⟨_, rfl⟩
          have hz103 : z103.toInt = y1.toInt + 1 := i_add ez103 rfl (by decide) (by (first | exact om_7cfca28772a4 klp4_0.1 f7 | omega))
          refine lv_iinc (v := z103) (lv' := [(1, .int z103), (2, .ref (Z100.fa (Int32.toNatClampNeg z12))), (0, .ref (ad 5))]) hx hb dX5_run_109 hl (k := 1) rfl (by rw [ez103]; rfl) (by decide) rfl (fun ls hl => ?_)
          refine lv_goto (tgt := 2) hx hb dX5_run_112 (by decide) ?_
          exact ihlp4 z103 V98 Z100 H locs ls (by (first | exact om_6036b630f734 klp4_0.1 f7 hz103 | omega)) t102 (by (first | exact om_4c597ccc4a45 hn hz103 | omega)) (agr.tr (agr.tr agr.rf ajV2 (by decide) (by decide)) ajV98 (by decide) (by decide)) hMV98 zoZ100 hK hP hD hS (lv_sub hl [0, 2] rfl)
  have r104 : Int32.toInt 0 = 0 := by decide
  exact lp4 ((1000000 - (Int32.toInt 0) + 1 : Int).toNat) 0 V Z H locs ls (by decide) mj (by omega) agr.rf hMV zoZ hK hP hD hS (lv_sub hl [0, 1] rfl)
