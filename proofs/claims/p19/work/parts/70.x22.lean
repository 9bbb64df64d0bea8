section
/-- the place of a WORKING frame on top is set -/
theorem MJ.pos {V W : Vf} {Z : XZ} {b f : Nat} {y : Int32} (h : MJ V Z b) (hd : (f : Int) + 1 = (V 5 6).toInt) (hn : f + 1 ≤ Z.nf) (k4 : (V 67 f).toInt = 4) (ph : (V 68 f).toInt = 0) (e : W = up2 V 75 f y) : MJ W Z b := by
  have o : ∀ c k, ¬ (c = 75 ∧ k = f) → W c k = V c k := fun c k q => by rw [e]; exact up2_pl q
  have m : ME V W f := ME.up ME.rf e (Or.inl ⟨by decide, by decide, Nat.le_refl _⟩)
  have qq : QN W b → QN V b := QN.eq (o _ _ (by omega)) (o _ _ (by omega)) (o _ _ (by omega)) (fun k => o _ _ (by omega)) m.1
  have c : MO W Z b f True (QN V b) (QN V b) := by
    refine MO.ch (h.op (by omega)) m (o _ _ (by omega)) (o _ _ (by omega)) Or.inr (fun x g => ?_)
    refine FK.k4 (by rw [o 67 f (by omega)]; exact k4) ?_ ?_ ?_ (fun q => ?_) (fun q => ?_)
    · rw [o 71 f (by omega), o 43 _ (by omega)]
      exact g.1 (by omega)
    · rw [o 70 f (by omega), o 3 13 (by omega)]
      exact g.2.1 (by omega) (by omega)
    · rw [o 84 f (by omega), o 42 b (by omega), m.1.bd]
      exact g.2.2.1 k4
    · rw [o 68 f (by omega), ph] at q
      omega
    · rw [o 68 f (by omega), ph] at q
      omega
  exact c.mj hn (by rw [o 5 6 (by omega)]; omega) id qq (fun q => Or.inr (qq q))

theorem n542 : lw_tbl[542]? = some (Cond.fieldLinkNest RX5 376 "WiringHouse$Component" "closedStart" "I" "WiringHouse") := la9 (n := 155) (i := 387) lz9 (la9 (n := 240) (i := 147) ln9_1 (lb9 (i := 147) (by decide +kernel)))
theorem w1500 : Cond.code yX7_noteClosing cX7_noteClosing 3 none ∈ GW := gw_k tk9_6 145 (rfl) rfl
theorem w1497 : Cond.methodLink RX5 379 yX7_noteClosing ∈ GW := gw_k tk9_6 142 (by decide +kernel) rfl
theorem w1498 : Cond.instanceMethod yX7_noteClosing ∈ GW := gw_k tk9_6 143 (by decide +kernel) rfl
theorem w1499 : Cond.selects RX7 yX7_noteClosing yX7_noteClosing ∈ GW := gw_k tk9_6 144 (by decide +kernel) rfl
theorem hdV_yX7_noteClosing : yX7_noteClosing.cls = RX7 ∧ yX7_noteClosing.cls ≠ "java/lang/invoke/MethodHandle" ∧ yX7_noteClosing.cls ≠ "java/lang/invoke/VarHandle" ∧ (parseMethodDescriptor yX7_noteClosing.desc).map (fun d => d.parameters.length) = some 2 := by decide +kernel
theorem w1402 : Cond.code yX5_firstKind cX5_firstKind 2 (some .int) ∈ GW := gw_k tk9_6 47 (rfl) rfl
theorem w1400 : Cond.methodLink RX5 266 yX5_firstKind ∈ GW := gw_k tk9_6 45 (by decide +kernel) rfl
theorem w1401 : Cond.static yX5_firstKind ∈ GW := gw_k tk9_6 46 (by decide +kernel) rfl
theorem hdS_yX5_firstKind : yX5_firstKind.cls ≠ "java/lang/invoke/MethodHandle" ∧ yX5_firstKind.cls ≠ "java/lang/invoke/VarHandle" ∧ (parseMethodDescriptor yX5_firstKind.desc).map (fun d => d.parameters.length) = some 2 := by decide +kernel
theorem w1391 : Cond.code yX5_pushInside cX5_pushInside 5 none ∈ GW := gw_k tk9_6 36 (rfl) rfl
theorem w1388 : Cond.methodLink RX5 272 yX5_pushInside ∈ GW := gw_k tk9_6 33 (by decide +kernel) rfl
theorem w1390 : Cond.instanceMethod yX5_pushInside ∈ GW := gw_k tk9_6 35 (by decide +kernel) rfl
theorem w60 : Cond.selects RX5 yX5_pushInside yX5_pushInside ∈ GW := gw_mem 60 (by decide +kernel) rfl
theorem hdV_yX5_pushInside : yX5_pushInside.cls = RX5 ∧ yX5_pushInside.cls ≠ "java/lang/invoke/MethodHandle" ∧ yX5_pushInside.cls ≠ "java/lang/invoke/VarHandle" ∧ (parseMethodDescriptor yX5_pushInside.desc).map (fun d => d.parameters.length) = some 3 := by decide +kernel
theorem w1395 : Cond.code yX0_wrapBackFrom cX0_wrapBackFrom 6 (some .int) ∈ GW := gw_k tk9_6 40 (rfl) rfl
theorem w1392 : Cond.methodLink RX5 262 yX0_wrapBackFrom ∈ GW := gw_k tk9_6 37 (by decide +kernel) rfl
theorem w1393 : Cond.instanceMethod yX0_wrapBackFrom ∈ GW := gw_k tk9_6 38 (by decide +kernel) rfl
theorem w1394 : Cond.selects RX0 yX0_wrapBackFrom yX0_wrapBackFrom ∈ GW := gw_k tk9_6 39 (by decide +kernel) rfl
theorem hdV_yX0_wrapBackFrom : yX0_wrapBackFrom.cls = RX0 ∧ yX0_wrapBackFrom.cls ≠ "java/lang/invoke/MethodHandle" ∧ yX0_wrapBackFrom.cls ≠ "java/lang/invoke/VarHandle" ∧ (parseMethodDescriptor yX0_wrapBackFrom.desc).map (fun d => d.parameters.length) = some 4 := by decide +kernel
theorem w1406 : Cond.code yX5_workWrap cX5_workWrap 6 (some (.object "WiringHouse$Frame")) ∈ GW := gw_k tk9_6 51 (rfl) rfl
theorem w1403 : Cond.methodLink RX5 269 yX5_workWrap ∈ GW := gw_k tk9_6 48 (by decide +kernel) rfl
theorem w1405 : Cond.instanceMethod yX5_workWrap ∈ GW := gw_k tk9_6 50 (by decide +kernel) rfl
theorem w62 : Cond.selects RX5 yX5_workWrap yX5_workWrap ∈ GW := gw_mem 62 (by decide +kernel) rfl
theorem hdV_yX5_workWrap : yX5_workWrap.cls = RX5 ∧ yX5_workWrap.cls ≠ "java/lang/invoke/MethodHandle" ∧ yX5_workWrap.cls ≠ "java/lang/invoke/VarHandle" ∧ (parseMethodDescriptor yX5_workWrap.desc).map (fun d => d.parameters.length) = some 3 := by decide +kernel
theorem n628 : lw_tbl[628]? = some (Cond.fieldLinkNest RX5 259 "WiringHouse$Book" "wrapCount" "I" "WiringHouse") := la9 (n := 155) (i := 473) lz9 (la9 (n := 240) (i := 233) ln9_1 (lb9 (i := 233) (by decide +kernel)))
theorem w1387 : Cond.code yX5_beginCalling cX5_beginCalling 2 none ∈ GW := gw_k tk9_6 32 (rfl) rfl
theorem w1384 : Cond.methodLink RX5 256 yX5_beginCalling ∈ GW := gw_k tk9_6 29 (by decide +kernel) rfl
theorem w1386 : Cond.instanceMethod yX5_beginCalling ∈ GW := gw_k tk9_6 31 (by decide +kernel) rfl
theorem w59 : Cond.selects RX5 yX5_beginCalling yX5_beginCalling ∈ GW := gw_mem 59 (by decide +kernel) rfl
theorem hdV_yX5_beginCalling : yX5_beginCalling.cls = RX5 ∧ yX5_beginCalling.cls ≠ "java/lang/invoke/MethodHandle" ∧ yX5_beginCalling.cls ≠ "java/lang/invoke/VarHandle" ∧ (parseMethodDescriptor yX5_beginCalling.desc).map (fun d => d.parameters.length) = some 1 := by decide +kernel
theorem w1422 : Cond.code yX0_wrapFrom cX0_wrapFrom 6 (some .int) ∈ GW := gw_k tk9_6 67 (rfl) rfl
theorem w1419 : Cond.methodLink RX5 301 yX0_wrapFrom ∈ GW := gw_k tk9_6 64 (by decide +kernel) rfl
theorem w1420 : Cond.instanceMethod yX0_wrapFrom ∈ GW := gw_k tk9_6 65 (by decide +kernel) rfl
theorem w1421 : Cond.selects RX0 yX0_wrapFrom yX0_wrapFrom ∈ GW := gw_k tk9_6 66 (by decide +kernel) rfl
theorem hdV_yX0_wrapFrom : yX0_wrapFrom.cls = RX0 ∧ yX0_wrapFrom.cls ≠ "java/lang/invoke/MethodHandle" ∧ yX0_wrapFrom.cls ≠ "java/lang/invoke/VarHandle" ∧ (parseMethodDescriptor yX0_wrapFrom.desc).map (fun d => d.parameters.length) = some 4 := by decide +kernel
theorem n509 : lw_tbl[509]? = some (Cond.fieldLinkNest RX5 304 "WiringHouse$Component" "methodStarts" "[I" "WiringHouse") := la9 (n := 155) (i := 354) lz9 (la9 (n := 240) (i := 114) ln9_1 (lb9 (i := 114) (by decide +kernel)))
theorem w1430 : Cond.code yX5_nextAfter cX5_nextAfter 3 none ∈ GW := gw_k tk9_6 75 (rfl) rfl
theorem w1427 : Cond.methodLink RX5 298 yX5_nextAfter ∈ GW := gw_k tk9_6 72 (by decide +kernel) rfl
theorem w1429 : Cond.instanceMethod yX5_nextAfter ∈ GW := gw_k tk9_6 74 (by decide +kernel) rfl
theorem w66 : Cond.selects RX5 yX5_nextAfter yX5_nextAfter ∈ GW := gw_mem 66 (by decide +kernel) rfl
theorem hdV_yX5_nextAfter : yX5_nextAfter.cls = RX5 ∧ yX5_nextAfter.cls ≠ "java/lang/invoke/MethodHandle" ∧ yX5_nextAfter.cls ≠ "java/lang/invoke/VarHandle" ∧ (parseMethodDescriptor yX5_nextAfter.desc).map (fun d => d.parameters.length) = some 1 := by decide +kernel
theorem w1426 : Cond.code yX5_nextBefore cX5_nextBefore 4 none ∈ GW := gw_k tk9_6 71 (rfl) rfl
theorem w1423 : Cond.methodLink RX5 295 yX5_nextBefore ∈ GW := gw_k tk9_6 68 (by decide +kernel) rfl
theorem w1425 : Cond.instanceMethod yX5_nextBefore ∈ GW := gw_k tk9_6 70 (by decide +kernel) rfl
theorem w65 : Cond.selects RX5 yX5_nextBefore yX5_nextBefore ∈ GW := gw_mem 65 (by decide +kernel) rfl
theorem hdV_yX5_nextBefore : yX5_nextBefore.cls = RX5 ∧ yX5_nextBefore.cls ≠ "java/lang/invoke/MethodHandle" ∧ yX5_nextBefore.cls ≠ "java/lang/invoke/VarHandle" ∧ (parseMethodDescriptor yX5_nextBefore.desc).map (fun d => d.parameters.length) = some 1 := by decide +kernel
theorem w1418 : Cond.code yX5_beginInside cX5_beginInside 3 none ∈ GW := gw_k tk9_6 63 (rfl) rfl
theorem w1415 : Cond.methodLink RX5 292 yX5_beginInside ∈ GW := gw_k tk9_6 60 (by decide +kernel) rfl
theorem w1417 : Cond.instanceMethod yX5_beginInside ∈ GW := gw_k tk9_6 62 (by decide +kernel) rfl
theorem w64 : Cond.selects RX5 yX5_beginInside yX5_beginInside ∈ GW := gw_mem 64 (by decide +kernel) rfl
theorem hdV_yX5_beginInside : yX5_beginInside.cls = RX5 ∧ yX5_beginInside.cls ≠ "java/lang/invoke/MethodHandle" ∧ yX5_beginInside.cls ≠ "java/lang/invoke/VarHandle" ∧ (parseMethodDescriptor yX5_beginInside.desc).map (fun d => d.parameters.length) = some 1 := by decide +kernel
theorem dk9_dX5_goOnClosing_0_0 : dOk cX5_goOnClosing [(0, .aload_n 0, 1), (1, .getfield 24, 3), (4, .getfield 178, 3), (7, .aload_n 1, 1), (8, .getfield 103, 3), (11, .aaload, 1), (12, .getfield 376, 3), (15, .istore_n 2, 1), (16, .aload_n 1, 1), (17, .getfield 94, 3), (20, .ifCond .ne 22, 3), (42, .iconst 0, 1), (43, .istore_n 3, 1), (44, .aload_n 0, 1), (45, .getfield 49, 3), (48, .iconst 2, 1), (49, .if_icmp .ne 18, 3), (67, .aload_n 0, 1), (68, .getfield 49, 3), (71, .iconst 3, 1), (72, .if_icmp .ne 9, 3), (81, .aload_n 0, 1), (82, .iconst 0, 1), (83, .invokevirtual 203, 3)] = true ∧ dOk cX5_goOnClosing [(86, .aload_n 0, 1), (87, .getfield 32, 3), (90, .aload_n 1, 1), (91, .getfield 100, 3), (94, .iload_n 3, 1), (95, .invokevirtual 379, 3), (98, .aload_n 0, 1), (99, .getfield 28, 3), (102, .aload_n 1, 1), (103, .getfield 100, 3), (106, .invokevirtual 250, 3), (109, .aload_n 0, 1), (110, .invokevirtual 157, 3), (113, .return_, 1), (75, .bipush 18, 2), (77, .istore_n 3, 1), (78, .goto 8, 3), (52, .aload_n 0, 1), (53, .getfield 55, 3), (56, .aload_n 0, 1), (57, .getfield 58, 3), (60, .invokestatic 266, 3), (63, .istore_n 3, 1), (64, .goto 22, 3)] = true ∧ dOk cX5_goOnClosing [(23, .iload_n 2, 1), (24, .iconst (-1), 1), (25, .if_icmp .eq 17, 3), (28, .aload_n 1, 1), (29, .iconst 1, 1), (30, .putfield 94, 3), (33, .aload_n 0, 1), (34, .aload_n 1, 1), (35, .iload_n 2, 1), (36, .iconst 0, 1), (37, .invokevirtual 231, 3), (40, .pop, 1), (41, .return_, 1)] = true := by decide +kernel
theorem dX5_goOnClosing_0 : decode cX5_goOnClosing 0 = .ok (.aload_n 0, 1) := dr9 dk9_dX5_goOnClosing_0_0.1 0 (0, .aload_n 0, 1) rfl
theorem dX5_goOnClosing_1 : decode cX5_goOnClosing 1 = .ok (.getfield 24, 3) := dr9 dk9_dX5_goOnClosing_0_0.1 1 (1, .getfield 24, 3) rfl
theorem dX5_goOnClosing_4 : decode cX5_goOnClosing 4 = .ok (.getfield 178, 3) := dr9 dk9_dX5_goOnClosing_0_0.1 2 (4, .getfield 178, 3) rfl
theorem dX5_goOnClosing_7 : decode cX5_goOnClosing 7 = .ok (.aload_n 1, 1) := dr9 dk9_dX5_goOnClosing_0_0.1 3 (7, .aload_n 1, 1) rfl
theorem dX5_goOnClosing_8 : decode cX5_goOnClosing 8 = .ok (.getfield 103, 3) := dr9 dk9_dX5_goOnClosing_0_0.1 4 (8, .getfield 103, 3) rfl
theorem dX5_goOnClosing_11 : decode cX5_goOnClosing 11 = .ok (.aaload, 1) := dr9 dk9_dX5_goOnClosing_0_0.1 5 (11, .aaload, 1) rfl
theorem dX5_goOnClosing_12 : decode cX5_goOnClosing 12 = .ok (.getfield 376, 3) := dr9 dk9_dX5_goOnClosing_0_0.1 6 (12, .getfield 376, 3) rfl
theorem dX5_goOnClosing_15 : decode cX5_goOnClosing 15 = .ok (.istore_n 2, 1) := dr9 dk9_dX5_goOnClosing_0_0.1 7 (15, .istore_n 2, 1) rfl
theorem dX5_goOnClosing_16 : decode cX5_goOnClosing 16 = .ok (.aload_n 1, 1) := dr9 dk9_dX5_goOnClosing_0_0.1 8 (16, .aload_n 1, 1) rfl
theorem dX5_goOnClosing_17 : decode cX5_goOnClosing 17 = .ok (.getfield 94, 3) := dr9 dk9_dX5_goOnClosing_0_0.1 9 (17, .getfield 94, 3) rfl
theorem dX5_goOnClosing_20 : decode cX5_goOnClosing 20 = .ok (.ifCond .ne 22, 3) := dr9 dk9_dX5_goOnClosing_0_0.1 10 (20, .ifCond .ne 22, 3) rfl
theorem dX5_goOnClosing_42 : decode cX5_goOnClosing 42 = .ok (.iconst 0, 1) := dr9 dk9_dX5_goOnClosing_0_0.1 11 (42, .iconst 0, 1) rfl
theorem dX5_goOnClosing_43 : decode cX5_goOnClosing 43 = .ok (.istore_n 3, 1) := dr9 dk9_dX5_goOnClosing_0_0.1 12 (43, .istore_n 3, 1) rfl
theorem dX5_goOnClosing_44 : decode cX5_goOnClosing 44 = .ok (.aload_n 0, 1) := dr9 dk9_dX5_goOnClosing_0_0.1 13 (44, .aload_n 0, 1) rfl
theorem dX5_goOnClosing_45 : decode cX5_goOnClosing 45 = .ok (.getfield 49, 3) := dr9 dk9_dX5_goOnClosing_0_0.1 14 (45, .getfield 49, 3) rfl
theorem dX5_goOnClosing_48 : decode cX5_goOnClosing 48 = .ok (.iconst 2, 1) := dr9 dk9_dX5_goOnClosing_0_0.1 15 (48, .iconst 2, 1) rfl
theorem dX5_goOnClosing_49 : decode cX5_goOnClosing 49 = .ok (.if_icmp .ne 18, 3) := dr9 dk9_dX5_goOnClosing_0_0.1 16 (49, .if_icmp .ne 18, 3) rfl
theorem dX5_goOnClosing_67 : decode cX5_goOnClosing 67 = .ok (.aload_n 0, 1) := dr9 dk9_dX5_goOnClosing_0_0.1 17 (67, .aload_n 0, 1) rfl
theorem dX5_goOnClosing_68 : decode cX5_goOnClosing 68 = .ok (.getfield 49, 3) := dr9 dk9_dX5_goOnClosing_0_0.1 18 (68, .getfield 49, 3) rfl
theorem dX5_goOnClosing_71 : decode cX5_goOnClosing 71 = .ok (.iconst 3, 1) := dr9 dk9_dX5_goOnClosing_0_0.1 19 (71, .iconst 3, 1) rfl
theorem dX5_goOnClosing_72 : decode cX5_goOnClosing 72 = .ok (.if_icmp .ne 9, 3) := dr9 dk9_dX5_goOnClosing_0_0.1 20 (72, .if_icmp .ne 9, 3) rfl
theorem dX5_goOnClosing_81 : decode cX5_goOnClosing 81 = .ok (.aload_n 0, 1) := dr9 dk9_dX5_goOnClosing_0_0.1 21 (81, .aload_n 0, 1) rfl
theorem dX5_goOnClosing_82 : decode cX5_goOnClosing 82 = .ok (.iconst 0, 1) := dr9 dk9_dX5_goOnClosing_0_0.1 22 (82, .iconst 0, 1) rfl
theorem dX5_goOnClosing_83 : decode cX5_goOnClosing 83 = .ok (.invokevirtual 203, 3) := dr9 dk9_dX5_goOnClosing_0_0.1 23 (83, .invokevirtual 203, 3) rfl
theorem dX5_goOnClosing_86 : decode cX5_goOnClosing 86 = .ok (.aload_n 0, 1) := dr9 dk9_dX5_goOnClosing_0_0.2.1 0 (86, .aload_n 0, 1) rfl
theorem dX5_goOnClosing_87 : decode cX5_goOnClosing 87 = .ok (.getfield 32, 3) := dr9 dk9_dX5_goOnClosing_0_0.2.1 1 (87, .getfield 32, 3) rfl
theorem dX5_goOnClosing_90 : decode cX5_goOnClosing 90 = .ok (.aload_n 1, 1) := dr9 dk9_dX5_goOnClosing_0_0.2.1 2 (90, .aload_n 1, 1) rfl
theorem dX5_goOnClosing_91 : decode cX5_goOnClosing 91 = .ok (.getfield 100, 3) := dr9 dk9_dX5_goOnClosing_0_0.2.1 3 (91, .getfield 100, 3) rfl
theorem dX5_goOnClosing_94 : decode cX5_goOnClosing 94 = .ok (.iload_n 3, 1) := dr9 dk9_dX5_goOnClosing_0_0.2.1 4 (94, .iload_n 3, 1) rfl
theorem dX5_goOnClosing_95 : decode cX5_goOnClosing 95 = .ok (.invokevirtual 379, 3) := dr9 dk9_dX5_goOnClosing_0_0.2.1 5 (95, .invokevirtual 379, 3) rfl
theorem dX5_goOnClosing_98 : decode cX5_goOnClosing 98 = .ok (.aload_n 0, 1) := dr9 dk9_dX5_goOnClosing_0_0.2.1 6 (98, .aload_n 0, 1) rfl
theorem dX5_goOnClosing_99 : decode cX5_goOnClosing 99 = .ok (.getfield 28, 3) := dr9 dk9_dX5_goOnClosing_0_0.2.1 7 (99, .getfield 28, 3) rfl
theorem dX5_goOnClosing_102 : decode cX5_goOnClosing 102 = .ok (.aload_n 1, 1) := dr9 dk9_dX5_goOnClosing_0_0.2.1 8 (102, .aload_n 1, 1) rfl
theorem dX5_goOnClosing_103 : decode cX5_goOnClosing 103 = .ok (.getfield 100, 3) := dr9 dk9_dX5_goOnClosing_0_0.2.1 9 (103, .getfield 100, 3) rfl
theorem dX5_goOnClosing_106 : decode cX5_goOnClosing 106 = .ok (.invokevirtual 250, 3) := dr9 dk9_dX5_goOnClosing_0_0.2.1 10 (106, .invokevirtual 250, 3) rfl
theorem dX5_goOnClosing_109 : decode cX5_goOnClosing 109 = .ok (.aload_n 0, 1) := dr9 dk9_dX5_goOnClosing_0_0.2.1 11 (109, .aload_n 0, 1) rfl
theorem dX5_goOnClosing_110 : decode cX5_goOnClosing 110 = .ok (.invokevirtual 157, 3) := dr9 dk9_dX5_goOnClosing_0_0.2.1 12 (110, .invokevirtual 157, 3) rfl
theorem dX5_goOnClosing_113 : decode cX5_goOnClosing 113 = .ok (.return_, 1) := dr9 dk9_dX5_goOnClosing_0_0.2.1 13 (113, .return_, 1) rfl
theorem dX5_goOnClosing_75 : decode cX5_goOnClosing 75 = .ok (.bipush 18, 2) := dr9 dk9_dX5_goOnClosing_0_0.2.1 14 (75, .bipush 18, 2) rfl
theorem dX5_goOnClosing_77 : decode cX5_goOnClosing 77 = .ok (.istore_n 3, 1) := dr9 dk9_dX5_goOnClosing_0_0.2.1 15 (77, .istore_n 3, 1) rfl
theorem dX5_goOnClosing_78 : decode cX5_goOnClosing 78 = .ok (.goto 8, 3) := dr9 dk9_dX5_goOnClosing_0_0.2.1 16 (78, .goto 8, 3) rfl
theorem dX5_goOnClosing_52 : decode cX5_goOnClosing 52 = .ok (.aload_n 0, 1) := dr9 dk9_dX5_goOnClosing_0_0.2.1 17 (52, .aload_n 0, 1) rfl
theorem dX5_goOnClosing_53 : decode cX5_goOnClosing 53 = .ok (.getfield 55, 3) := dr9 dk9_dX5_goOnClosing_0_0.2.1 18 (53, .getfield 55, 3) rfl
theorem dX5_goOnClosing_56 : decode cX5_goOnClosing 56 = .ok (.aload_n 0, 1) := dr9 dk9_dX5_goOnClosing_0_0.2.1 19 (56, .aload_n 0, 1) rfl
theorem dX5_goOnClosing_57 : decode cX5_goOnClosing 57 = .ok (.getfield 58, 3) := dr9 dk9_dX5_goOnClosing_0_0.2.1 20 (57, .getfield 58, 3) rfl
theorem dX5_goOnClosing_60 : decode cX5_goOnClosing 60 = .ok (.invokestatic 266, 3) := dr9 dk9_dX5_goOnClosing_0_0.2.1 21 (60, .invokestatic 266, 3) rfl
theorem dX5_goOnClosing_63 : decode cX5_goOnClosing 63 = .ok (.istore_n 3, 1) := dr9 dk9_dX5_goOnClosing_0_0.2.1 22 (63, .istore_n 3, 1) rfl
theorem dX5_goOnClosing_64 : decode cX5_goOnClosing 64 = .ok (.goto 22, 3) := dr9 dk9_dX5_goOnClosing_0_0.2.1 23 (64, .goto 22, 3) rfl
theorem dX5_goOnClosing_23 : decode cX5_goOnClosing 23 = .ok (.iload_n 2, 1) := dr9 dk9_dX5_goOnClosing_0_0.2.2 0 (23, .iload_n 2, 1) rfl
theorem dX5_goOnClosing_24 : decode cX5_goOnClosing 24 = .ok (.iconst (-1), 1) := dr9 dk9_dX5_goOnClosing_0_0.2.2 1 (24, .iconst (-1), 1) rfl
theorem dX5_goOnClosing_25 : decode cX5_goOnClosing 25 = .ok (.if_icmp .eq 17, 3) := dr9 dk9_dX5_goOnClosing_0_0.2.2 2 (25, .if_icmp .eq 17, 3) rfl
theorem dX5_goOnClosing_28 : decode cX5_goOnClosing 28 = .ok (.aload_n 1, 1) := dr9 dk9_dX5_goOnClosing_0_0.2.2 3 (28, .aload_n 1, 1) rfl
theorem dX5_goOnClosing_29 : decode cX5_goOnClosing 29 = .ok (.iconst 1, 1) := dr9 dk9_dX5_goOnClosing_0_0.2.2 4 (29, .iconst 1, 1) rfl
theorem dX5_goOnClosing_30 : decode cX5_goOnClosing 30 = .ok (.putfield 94, 3) := dr9 dk9_dX5_goOnClosing_0_0.2.2 5 (30, .putfield 94, 3) rfl
theorem dX5_goOnClosing_33 : decode cX5_goOnClosing 33 = .ok (.aload_n 0, 1) := dr9 dk9_dX5_goOnClosing_0_0.2.2 6 (33, .aload_n 0, 1) rfl
theorem dX5_goOnClosing_34 : decode cX5_goOnClosing 34 = .ok (.aload_n 1, 1) := dr9 dk9_dX5_goOnClosing_0_0.2.2 7 (34, .aload_n 1, 1) rfl
theorem dX5_goOnClosing_35 : decode cX5_goOnClosing 35 = .ok (.iload_n 2, 1) := dr9 dk9_dX5_goOnClosing_0_0.2.2 8 (35, .iload_n 2, 1) rfl
theorem dX5_goOnClosing_36 : decode cX5_goOnClosing 36 = .ok (.iconst 0, 1) := dr9 dk9_dX5_goOnClosing_0_0.2.2 9 (36, .iconst 0, 1) rfl
theorem dX5_goOnClosing_37 : decode cX5_goOnClosing 37 = .ok (.invokevirtual 231, 3) := dr9 dk9_dX5_goOnClosing_0_0.2.2 10 (37, .invokevirtual 231, 3) rfl
theorem dX5_goOnClosing_40 : decode cX5_goOnClosing 40 = .ok (.pop, 1) := dr9 dk9_dX5_goOnClosing_0_0.2.2 11 (40, .pop, 1) rfl
theorem dX5_goOnClosing_41 : decode cX5_goOnClosing 41 = .ok (.return_, 1) := dr9 dk9_dX5_goOnClosing_0_0.2.2 12 (41, .return_, 1) rfl
theorem dk9_dX5_beginCalling_0_0 : dOk cX5_beginCalling [(0, .aload_n 0, 1), (1, .invokevirtual 207, 3), (4, .ifCond .ne 10, 3), (14, .aload_n 1, 1), (15, .getfield 97, 3), (18, .bipush 10, 2), (20, .if_icmp .le 17, 3), (37, .aload_n 0, 1), (38, .getfield 28, 3), (41, .aload_n 1, 1), (42, .getfield 100, 3), (45, .invokevirtual 200, 3), (48, .ifCond .ne 17, 3), (65, .aload_n 1, 1), (66, .iconst 1, 1), (67, .putfield 94, 3), (70, .aload_n 0, 1), (71, .aload_n 1, 1), (72, .iconst 0, 1), (73, .aload_n 1, 1), (74, .getfield 135, 3), (77, .invokevirtual 272, 3), (80, .return_, 1), (51, .aload_n 0, 1)] = true ∧ dOk cX5_beginCalling [(52, .iconst 0, 1), (53, .bipush 17, 2), (55, .invokevirtual 169, 3), (58, .aload_n 0, 1), (59, .invokevirtual 157, 3), (62, .goto 18, 3), (23, .aload_n 0, 1), (24, .iconst 0, 1), (25, .bipush 13, 2), (27, .invokevirtual 169, 3), (30, .aload_n 0, 1), (31, .invokevirtual 157, 3), (34, .goto 46, 3), (7, .aload_n 0, 1), (8, .invokevirtual 157, 3), (11, .goto 69, 3)] = true := by decide +kernel
theorem dX5_beginCalling_0 : decode cX5_beginCalling 0 = .ok (.aload_n 0, 1) := dr9 dk9_dX5_beginCalling_0_0.1 0 (0, .aload_n 0, 1) rfl
theorem dX5_beginCalling_1 : decode cX5_beginCalling 1 = .ok (.invokevirtual 207, 3) := dr9 dk9_dX5_beginCalling_0_0.1 1 (1, .invokevirtual 207, 3) rfl
theorem dX5_beginCalling_4 : decode cX5_beginCalling 4 = .ok (.ifCond .ne 10, 3) := dr9 dk9_dX5_beginCalling_0_0.1 2 (4, .ifCond .ne 10, 3) rfl
theorem dX5_beginCalling_14 : decode cX5_beginCalling 14 = .ok (.aload_n 1, 1) := dr9 dk9_dX5_beginCalling_0_0.1 3 (14, .aload_n 1, 1) rfl
theorem dX5_beginCalling_15 : decode cX5_beginCalling 15 = .ok (.getfield 97, 3) := dr9 dk9_dX5_beginCalling_0_0.1 4 (15, .getfield 97, 3) rfl
theorem dX5_beginCalling_18 : decode cX5_beginCalling 18 = .ok (.bipush 10, 2) := dr9 dk9_dX5_beginCalling_0_0.1 5 (18, .bipush 10, 2) rfl
theorem dX5_beginCalling_20 : decode cX5_beginCalling 20 = .ok (.if_icmp .le 17, 3) := dr9 dk9_dX5_beginCalling_0_0.1 6 (20, .if_icmp .le 17, 3) rfl
theorem dX5_beginCalling_37 : decode cX5_beginCalling 37 = .ok (.aload_n 0, 1) := dr9 dk9_dX5_beginCalling_0_0.1 7 (37, .aload_n 0, 1) rfl
theorem dX5_beginCalling_38 : decode cX5_beginCalling 38 = .ok (.getfield 28, 3) := dr9 dk9_dX5_beginCalling_0_0.1 8 (38, .getfield 28, 3) rfl
theorem dX5_beginCalling_41 : decode cX5_beginCalling 41 = .ok (.aload_n 1, 1) := dr9 dk9_dX5_beginCalling_0_0.1 9 (41, .aload_n 1, 1) rfl
theorem dX5_beginCalling_42 : decode cX5_beginCalling 42 = .ok (.getfield 100, 3) := dr9 dk9_dX5_beginCalling_0_0.1 10 (42, .getfield 100, 3) rfl
theorem dX5_beginCalling_45 : decode cX5_beginCalling 45 = .ok (.invokevirtual 200, 3) := dr9 dk9_dX5_beginCalling_0_0.1 11 (45, .invokevirtual 200, 3) rfl
theorem dX5_beginCalling_48 : decode cX5_beginCalling 48 = .ok (.ifCond .ne 17, 3) := dr9 dk9_dX5_beginCalling_0_0.1 12 (48, .ifCond .ne 17, 3) rfl
theorem dX5_beginCalling_65 : decode cX5_beginCalling 65 = .ok (.aload_n 1, 1) := dr9 dk9_dX5_beginCalling_0_0.1 13 (65, .aload_n 1, 1) rfl
theorem dX5_beginCalling_66 : decode cX5_beginCalling 66 = .ok (.iconst 1, 1) := dr9 dk9_dX5_beginCalling_0_0.1 14 (66, .iconst 1, 1) rfl
theorem dX5_beginCalling_67 : decode cX5_beginCalling 67 = .ok (.putfield 94, 3) := dr9 dk9_dX5_beginCalling_0_0.1 15 (67, .putfield 94, 3) rfl
theorem dX5_beginCalling_70 : decode cX5_beginCalling 70 = .ok (.aload_n 0, 1) := dr9 dk9_dX5_beginCalling_0_0.1 16 (70, .aload_n 0, 1) rfl
theorem dX5_beginCalling_71 : decode cX5_beginCalling 71 = .ok (.aload_n 1, 1) := dr9 dk9_dX5_beginCalling_0_0.1 17 (71, .aload_n 1, 1) rfl
theorem dX5_beginCalling_72 : decode cX5_beginCalling 72 = .ok (.iconst 0, 1) := dr9 dk9_dX5_beginCalling_0_0.1 18 (72, .iconst 0, 1) rfl
theorem dX5_beginCalling_73 : decode cX5_beginCalling 73 = .ok (.aload_n 1, 1) := dr9 dk9_dX5_beginCalling_0_0.1 19 (73, .aload_n 1, 1) rfl
theorem dX5_beginCalling_74 : decode cX5_beginCalling 74 = .ok (.getfield 135, 3) := dr9 dk9_dX5_beginCalling_0_0.1 20 (74, .getfield 135, 3) rfl
theorem dX5_beginCalling_77 : decode cX5_beginCalling 77 = .ok (.invokevirtual 272, 3) := dr9 dk9_dX5_beginCalling_0_0.1 21 (77, .invokevirtual 272, 3) rfl
theorem dX5_beginCalling_80 : decode cX5_beginCalling 80 = .ok (.return_, 1) := dr9 dk9_dX5_beginCalling_0_0.1 22 (80, .return_, 1) rfl
theorem dX5_beginCalling_51 : decode cX5_beginCalling 51 = .ok (.aload_n 0, 1) := dr9 dk9_dX5_beginCalling_0_0.1 23 (51, .aload_n 0, 1) rfl
theorem dX5_beginCalling_52 : decode cX5_beginCalling 52 = .ok (.iconst 0, 1) := dr9 dk9_dX5_beginCalling_0_0.2 0 (52, .iconst 0, 1) rfl
theorem dX5_beginCalling_53 : decode cX5_beginCalling 53 = .ok (.bipush 17, 2) := dr9 dk9_dX5_beginCalling_0_0.2 1 (53, .bipush 17, 2) rfl
theorem dX5_beginCalling_55 : decode cX5_beginCalling 55 = .ok (.invokevirtual 169, 3) := dr9 dk9_dX5_beginCalling_0_0.2 2 (55, .invokevirtual 169, 3) rfl
theorem dX5_beginCalling_58 : decode cX5_beginCalling 58 = .ok (.aload_n 0, 1) := dr9 dk9_dX5_beginCalling_0_0.2 3 (58, .aload_n 0, 1) rfl
theorem dX5_beginCalling_59 : decode cX5_beginCalling 59 = .ok (.invokevirtual 157, 3) := dr9 dk9_dX5_beginCalling_0_0.2 4 (59, .invokevirtual 157, 3) rfl
theorem dX5_beginCalling_62 : decode cX5_beginCalling 62 = .ok (.goto 18, 3) := dr9 dk9_dX5_beginCalling_0_0.2 5 (62, .goto 18, 3) rfl
theorem dX5_beginCalling_23 : decode cX5_beginCalling 23 = .ok (.aload_n 0, 1) := dr9 dk9_dX5_beginCalling_0_0.2 6 (23, .aload_n 0, 1) rfl
theorem dX5_beginCalling_24 : decode cX5_beginCalling 24 = .ok (.iconst 0, 1) := dr9 dk9_dX5_beginCalling_0_0.2 7 (24, .iconst 0, 1) rfl
theorem dX5_beginCalling_25 : decode cX5_beginCalling 25 = .ok (.bipush 13, 2) := dr9 dk9_dX5_beginCalling_0_0.2 8 (25, .bipush 13, 2) rfl
theorem dX5_beginCalling_27 : decode cX5_beginCalling 27 = .ok (.invokevirtual 169, 3) := dr9 dk9_dX5_beginCalling_0_0.2 9 (27, .invokevirtual 169, 3) rfl
theorem dX5_beginCalling_30 : decode cX5_beginCalling 30 = .ok (.aload_n 0, 1) := dr9 dk9_dX5_beginCalling_0_0.2 10 (30, .aload_n 0, 1) rfl
theorem dX5_beginCalling_31 : decode cX5_beginCalling 31 = .ok (.invokevirtual 157, 3) := dr9 dk9_dX5_beginCalling_0_0.2 11 (31, .invokevirtual 157, 3) rfl
theorem dX5_beginCalling_34 : decode cX5_beginCalling 34 = .ok (.goto 46, 3) := dr9 dk9_dX5_beginCalling_0_0.2 12 (34, .goto 46, 3) rfl
theorem dX5_beginCalling_7 : decode cX5_beginCalling 7 = .ok (.aload_n 0, 1) := dr9 dk9_dX5_beginCalling_0_0.2 13 (7, .aload_n 0, 1) rfl
theorem dX5_beginCalling_8 : decode cX5_beginCalling 8 = .ok (.invokevirtual 157, 3) := dr9 dk9_dX5_beginCalling_0_0.2 14 (8, .invokevirtual 157, 3) rfl
theorem dX5_beginCalling_11 : decode cX5_beginCalling 11 = .ok (.goto 69, 3) := dr9 dk9_dX5_beginCalling_0_0.2 15 (11, .goto 69, 3) rfl
theorem dk9_dX5_goOnCalling_0_0 : dOk cX5_goOnCalling [(0, .aload_n 1, 1), (1, .getfield 94, 3), (4, .ifCond .ne 9, 3), (13, .aload_n 0, 1), (14, .getfield 49, 3), (17, .iconst 2, 1), (18, .if_icmp .eq 8, 3), (26, .aload_n 1, 1), (27, .getfield 94, 3), (30, .iconst 1, 1), (31, .if_icmp .ne 24, 3), (55, .aload_n 0, 1), (56, .getfield 24, 3), (59, .aload_n 1, 1), (60, .getfield 109, 3), (63, .iconst 1, 1), (64, .isub, 1), (65, .iconst 3, 1), (66, .aload_n 1, 1), (67, .getfield 103, 3), (70, .aload_n 1, 1), (71, .getfield 132, 3), (74, .invokevirtual 262, 3), (77, .istore_n 2, 1)] = true ∧ dOk cX5_goOnCalling [(78, .iload_n 2, 1), (79, .iconst (-1), 1), (80, .if_icmp .ne 20, 3), (100, .aload_n 1, 1), (101, .iload_n 2, 1), (102, .putfield 109, 3), (105, .aload_n 0, 1), (106, .aload_n 1, 1), (107, .iload_n 2, 1), (108, .aload_n 1, 1), (109, .getfield 147, 3), (112, .aload_n 1, 1), (113, .getfield 148, 3), (116, .invokestatic 266, 3), (119, .invokevirtual 269, 3), (122, .pop, 1), (123, .return_, 1), (83, .aload_n 0, 1), (84, .aload_n 1, 1), (85, .getfield 147, 3), (88, .aload_n 1, 1), (89, .getfield 148, 3), (92, .invokevirtual 169, 3), (95, .aload_n 0, 1)] = true ∧ dOk cX5_goOnCalling [(96, .invokevirtual 157, 3), (99, .return_, 1), (34, .aload_n 0, 1), (35, .aload_n 1, 1), (36, .invokevirtual 160, 3), (39, .aload_n 1, 1), (40, .iconst 3, 1), (41, .putfield 94, 3), (44, .aload_n 1, 1), (45, .aload_n 0, 1), (46, .getfield 24, 3), (49, .getfield 259, 3), (52, .putfield 109, 3), (21, .aload_n 0, 1), (22, .invokevirtual 157, 3), (25, .return_, 1), (7, .aload_n 0, 1), (8, .aload_n 1, 1), (9, .invokevirtual 256, 3), (12, .return_, 1)] = true := by decide +kernel
theorem dX5_goOnCalling_0 : decode cX5_goOnCalling 0 = .ok (.aload_n 1, 1) := dr9 dk9_dX5_goOnCalling_0_0.1 0 (0, .aload_n 1, 1) rfl
theorem dX5_goOnCalling_1 : decode cX5_goOnCalling 1 = .ok (.getfield 94, 3) := dr9 dk9_dX5_goOnCalling_0_0.1 1 (1, .getfield 94, 3) rfl
theorem dX5_goOnCalling_4 : decode cX5_goOnCalling 4 = .ok (.ifCond .ne 9, 3) := dr9 dk9_dX5_goOnCalling_0_0.1 2 (4, .ifCond .ne 9, 3) rfl
theorem dX5_goOnCalling_13 : decode cX5_goOnCalling 13 = .ok (.aload_n 0, 1) := dr9 dk9_dX5_goOnCalling_0_0.1 3 (13, .aload_n 0, 1) rfl
theorem dX5_goOnCalling_14 : decode cX5_goOnCalling 14 = .ok (.getfield 49, 3) := dr9 dk9_dX5_goOnCalling_0_0.1 4 (14, .getfield 49, 3) rfl
theorem dX5_goOnCalling_17 : decode cX5_goOnCalling 17 = .ok (.iconst 2, 1) := dr9 dk9_dX5_goOnCalling_0_0.1 5 (17, .iconst 2, 1) rfl
theorem dX5_goOnCalling_18 : decode cX5_goOnCalling 18 = .ok (.if_icmp .eq 8, 3) := dr9 dk9_dX5_goOnCalling_0_0.1 6 (18, .if_icmp .eq 8, 3) rfl
theorem dX5_goOnCalling_26 : decode cX5_goOnCalling 26 = .ok (.aload_n 1, 1) := dr9 dk9_dX5_goOnCalling_0_0.1 7 (26, .aload_n 1, 1) rfl
theorem dX5_goOnCalling_27 : decode cX5_goOnCalling 27 = .ok (.getfield 94, 3) := dr9 dk9_dX5_goOnCalling_0_0.1 8 (27, .getfield 94, 3) rfl
theorem dX5_goOnCalling_30 : decode cX5_goOnCalling 30 = .ok (.iconst 1, 1) := dr9 dk9_dX5_goOnCalling_0_0.1 9 (30, .iconst 1, 1) rfl
theorem dX5_goOnCalling_31 : decode cX5_goOnCalling 31 = .ok (.if_icmp .ne 24, 3) := dr9 dk9_dX5_goOnCalling_0_0.1 10 (31, .if_icmp .ne 24, 3) rfl
theorem dX5_goOnCalling_55 : decode cX5_goOnCalling 55 = .ok (.aload_n 0, 1) := dr9 dk9_dX5_goOnCalling_0_0.1 11 (55, .aload_n 0, 1) rfl
theorem dX5_goOnCalling_56 : decode cX5_goOnCalling 56 = .ok (.getfield 24, 3) := dr9 dk9_dX5_goOnCalling_0_0.1 12 (56, .getfield 24, 3) rfl
theorem dX5_goOnCalling_59 : decode cX5_goOnCalling 59 = .ok (.aload_n 1, 1) := dr9 dk9_dX5_goOnCalling_0_0.1 13 (59, .aload_n 1, 1) rfl
theorem dX5_goOnCalling_60 : decode cX5_goOnCalling 60 = .ok (.getfield 109, 3) := dr9 dk9_dX5_goOnCalling_0_0.1 14 (60, .getfield 109, 3) rfl
theorem dX5_goOnCalling_63 : decode cX5_goOnCalling 63 = .ok (.iconst 1, 1) := dr9 dk9_dX5_goOnCalling_0_0.1 15 (63, .iconst 1, 1) rfl
theorem dX5_goOnCalling_64 : decode cX5_goOnCalling 64 = .ok (.isub, 1) := dr9 dk9_dX5_goOnCalling_0_0.1 16 (64, .isub, 1) rfl
theorem dX5_goOnCalling_65 : decode cX5_goOnCalling 65 = .ok (.iconst 3, 1) := dr9 dk9_dX5_goOnCalling_0_0.1 17 (65, .iconst 3, 1) rfl
theorem dX5_goOnCalling_66 : decode cX5_goOnCalling 66 = .ok (.aload_n 1, 1) := dr9 dk9_dX5_goOnCalling_0_0.1 18 (66, .aload_n 1, 1) rfl
theorem dX5_goOnCalling_67 : decode cX5_goOnCalling 67 = .ok (.getfield 103, 3) := dr9 dk9_dX5_goOnCalling_0_0.1 19 (67, .getfield 103, 3) rfl
theorem dX5_goOnCalling_70 : decode cX5_goOnCalling 70 = .ok (.aload_n 1, 1) := dr9 dk9_dX5_goOnCalling_0_0.1 20 (70, .aload_n 1, 1) rfl
theorem dX5_goOnCalling_71 : decode cX5_goOnCalling 71 = .ok (.getfield 132, 3) := dr9 dk9_dX5_goOnCalling_0_0.1 21 (71, .getfield 132, 3) rfl
theorem dX5_goOnCalling_74 : decode cX5_goOnCalling 74 = .ok (.invokevirtual 262, 3) := dr9 dk9_dX5_goOnCalling_0_0.1 22 (74, .invokevirtual 262, 3) rfl
theorem dX5_goOnCalling_77 : decode cX5_goOnCalling 77 = .ok (.istore_n 2, 1) := dr9 dk9_dX5_goOnCalling_0_0.1 23 (77, .istore_n 2, 1) rfl
theorem dX5_goOnCalling_78 : decode cX5_goOnCalling 78 = .ok (.iload_n 2, 1) := dr9 dk9_dX5_goOnCalling_0_0.2.1 0 (78, .iload_n 2, 1) rfl
theorem dX5_goOnCalling_79 : decode cX5_goOnCalling 79 = .ok (.iconst (-1), 1) := dr9 dk9_dX5_goOnCalling_0_0.2.1 1 (79, .iconst (-1), 1) rfl
theorem dX5_goOnCalling_80 : decode cX5_goOnCalling 80 = .ok (.if_icmp .ne 20, 3) := dr9 dk9_dX5_goOnCalling_0_0.2.1 2 (80, .if_icmp .ne 20, 3) rfl
theorem dX5_goOnCalling_100 : decode cX5_goOnCalling 100 = .ok (.aload_n 1, 1) := dr9 dk9_dX5_goOnCalling_0_0.2.1 3 (100, .aload_n 1, 1) rfl
theorem dX5_goOnCalling_101 : decode cX5_goOnCalling 101 = .ok (.iload_n 2, 1) := dr9 dk9_dX5_goOnCalling_0_0.2.1 4 (101, .iload_n 2, 1) rfl
theorem dX5_goOnCalling_102 : decode cX5_goOnCalling 102 = .ok (.putfield 109, 3) := dr9 dk9_dX5_goOnCalling_0_0.2.1 5 (102, .putfield 109, 3) rfl
theorem dX5_goOnCalling_105 : decode cX5_goOnCalling 105 = .ok (.aload_n 0, 1) := dr9 dk9_dX5_goOnCalling_0_0.2.1 6 (105, .aload_n 0, 1) rfl
theorem dX5_goOnCalling_106 : decode cX5_goOnCalling 106 = .ok (.aload_n 1, 1) := dr9 dk9_dX5_goOnCalling_0_0.2.1 7 (106, .aload_n 1, 1) rfl
theorem dX5_goOnCalling_107 : decode cX5_goOnCalling 107 = .ok (.iload_n 2, 1) := dr9 dk9_dX5_goOnCalling_0_0.2.1 8 (107, .iload_n 2, 1) rfl
theorem dX5_goOnCalling_108 : decode cX5_goOnCalling 108 = .ok (.aload_n 1, 1) := dr9 dk9_dX5_goOnCalling_0_0.2.1 9 (108, .aload_n 1, 1) rfl
theorem dX5_goOnCalling_109 : decode cX5_goOnCalling 109 = .ok (.getfield 147, 3) := dr9 dk9_dX5_goOnCalling_0_0.2.1 10 (109, .getfield 147, 3) rfl
theorem dX5_goOnCalling_112 : decode cX5_goOnCalling 112 = .ok (.aload_n 1, 1) := dr9 dk9_dX5_goOnCalling_0_0.2.1 11 (112, .aload_n 1, 1) rfl
theorem dX5_goOnCalling_113 : decode cX5_goOnCalling 113 = .ok (.getfield 148, 3) := dr9 dk9_dX5_goOnCalling_0_0.2.1 12 (113, .getfield 148, 3) rfl
theorem dX5_goOnCalling_116 : decode cX5_goOnCalling 116 = .ok (.invokestatic 266, 3) := dr9 dk9_dX5_goOnCalling_0_0.2.1 13 (116, .invokestatic 266, 3) rfl
theorem dX5_goOnCalling_119 : decode cX5_goOnCalling 119 = .ok (.invokevirtual 269, 3) := dr9 dk9_dX5_goOnCalling_0_0.2.1 14 (119, .invokevirtual 269, 3) rfl
theorem dX5_goOnCalling_122 : decode cX5_goOnCalling 122 = .ok (.pop, 1) := dr9 dk9_dX5_goOnCalling_0_0.2.1 15 (122, .pop, 1) rfl
theorem dX5_goOnCalling_123 : decode cX5_goOnCalling 123 = .ok (.return_, 1) := dr9 dk9_dX5_goOnCalling_0_0.2.1 16 (123, .return_, 1) rfl
theorem dX5_goOnCalling_83 : decode cX5_goOnCalling 83 = .ok (.aload_n 0, 1) := dr9 dk9_dX5_goOnCalling_0_0.2.1 17 (83, .aload_n 0, 1) rfl
theorem dX5_goOnCalling_84 : decode cX5_goOnCalling 84 = .ok (.aload_n 1, 1) := dr9 dk9_dX5_goOnCalling_0_0.2.1 18 (84, .aload_n 1, 1) rfl
theorem dX5_goOnCalling_85 : decode cX5_goOnCalling 85 = .ok (.getfield 147, 3) := dr9 dk9_dX5_goOnCalling_0_0.2.1 19 (85, .getfield 147, 3) rfl
theorem dX5_goOnCalling_88 : decode cX5_goOnCalling 88 = .ok (.aload_n 1, 1) := dr9 dk9_dX5_goOnCalling_0_0.2.1 20 (88, .aload_n 1, 1) rfl
theorem dX5_goOnCalling_89 : decode cX5_goOnCalling 89 = .ok (.getfield 148, 3) := dr9 dk9_dX5_goOnCalling_0_0.2.1 21 (89, .getfield 148, 3) rfl
theorem dX5_goOnCalling_92 : decode cX5_goOnCalling 92 = .ok (.invokevirtual 169, 3) := dr9 dk9_dX5_goOnCalling_0_0.2.1 22 (92, .invokevirtual 169, 3) rfl
theorem dX5_goOnCalling_95 : decode cX5_goOnCalling 95 = .ok (.aload_n 0, 1) := dr9 dk9_dX5_goOnCalling_0_0.2.1 23 (95, .aload_n 0, 1) rfl
theorem dX5_goOnCalling_96 : decode cX5_goOnCalling 96 = .ok (.invokevirtual 157, 3) := dr9 dk9_dX5_goOnCalling_0_0.2.2 0 (96, .invokevirtual 157, 3) rfl
theorem dX5_goOnCalling_99 : decode cX5_goOnCalling 99 = .ok (.return_, 1) := dr9 dk9_dX5_goOnCalling_0_0.2.2 1 (99, .return_, 1) rfl
theorem dX5_goOnCalling_34 : decode cX5_goOnCalling 34 = .ok (.aload_n 0, 1) := dr9 dk9_dX5_goOnCalling_0_0.2.2 2 (34, .aload_n 0, 1) rfl
theorem dX5_goOnCalling_35 : decode cX5_goOnCalling 35 = .ok (.aload_n 1, 1) := dr9 dk9_dX5_goOnCalling_0_0.2.2 3 (35, .aload_n 1, 1) rfl
theorem dX5_goOnCalling_36 : decode cX5_goOnCalling 36 = .ok (.invokevirtual 160, 3) := dr9 dk9_dX5_goOnCalling_0_0.2.2 4 (36, .invokevirtual 160, 3) rfl
theorem dX5_goOnCalling_39 : decode cX5_goOnCalling 39 = .ok (.aload_n 1, 1) := dr9 dk9_dX5_goOnCalling_0_0.2.2 5 (39, .aload_n 1, 1) rfl
theorem dX5_goOnCalling_40 : decode cX5_goOnCalling 40 = .ok (.iconst 3, 1) := dr9 dk9_dX5_goOnCalling_0_0.2.2 6 (40, .iconst 3, 1) rfl
theorem dX5_goOnCalling_41 : decode cX5_goOnCalling 41 = .ok (.putfield 94, 3) := dr9 dk9_dX5_goOnCalling_0_0.2.2 7 (41, .putfield 94, 3) rfl
theorem dX5_goOnCalling_44 : decode cX5_goOnCalling 44 = .ok (.aload_n 1, 1) := dr9 dk9_dX5_goOnCalling_0_0.2.2 8 (44, .aload_n 1, 1) rfl
theorem dX5_goOnCalling_45 : decode cX5_goOnCalling 45 = .ok (.aload_n 0, 1) := dr9 dk9_dX5_goOnCalling_0_0.2.2 9 (45, .aload_n 0, 1) rfl
theorem dX5_goOnCalling_46 : decode cX5_goOnCalling 46 = .ok (.getfield 24, 3) := dr9 dk9_dX5_goOnCalling_0_0.2.2 10 (46, .getfield 24, 3) rfl
theorem dX5_goOnCalling_49 : decode cX5_goOnCalling 49 = .ok (.getfield 259, 3) := dr9 dk9_dX5_goOnCalling_0_0.2.2 11 (49, .getfield 259, 3) rfl
theorem dX5_goOnCalling_52 : decode cX5_goOnCalling 52 = .ok (.putfield 109, 3) := dr9 dk9_dX5_goOnCalling_0_0.2.2 12 (52, .putfield 109, 3) rfl
theorem dX5_goOnCalling_21 : decode cX5_goOnCalling 21 = .ok (.aload_n 0, 1) := dr9 dk9_dX5_goOnCalling_0_0.2.2 13 (21, .aload_n 0, 1) rfl
theorem dX5_goOnCalling_22 : decode cX5_goOnCalling 22 = .ok (.invokevirtual 157, 3) := dr9 dk9_dX5_goOnCalling_0_0.2.2 14 (22, .invokevirtual 157, 3) rfl
theorem dX5_goOnCalling_25 : decode cX5_goOnCalling 25 = .ok (.return_, 1) := dr9 dk9_dX5_goOnCalling_0_0.2.2 15 (25, .return_, 1) rfl
theorem dX5_goOnCalling_7 : decode cX5_goOnCalling 7 = .ok (.aload_n 0, 1) := dr9 dk9_dX5_goOnCalling_0_0.2.2 16 (7, .aload_n 0, 1) rfl
theorem dX5_goOnCalling_8 : decode cX5_goOnCalling 8 = .ok (.aload_n 1, 1) := dr9 dk9_dX5_goOnCalling_0_0.2.2 17 (8, .aload_n 1, 1) rfl
theorem dX5_goOnCalling_9 : decode cX5_goOnCalling 9 = .ok (.invokevirtual 256, 3) := dr9 dk9_dX5_goOnCalling_0_0.2.2 18 (9, .invokevirtual 256, 3) rfl
theorem dX5_goOnCalling_12 : decode cX5_goOnCalling 12 = .ok (.return_, 1) := dr9 dk9_dX5_goOnCalling_0_0.2.2 19 (12, .return_, 1) rfl
theorem dk9_dX5_beginInside_0_0 : dOk cX5_beginInside [(0, .aload_n 0, 1), (1, .getfield 24, 3), (4, .aload_n 1, 1), (5, .getfield 109, 3), (8, .iconst 1, 1), (9, .aload_n 1, 1), (10, .getfield 103, 3), (13, .aload_n 1, 1), (14, .getfield 132, 3), (17, .invokevirtual 301, 3), (20, .istore_n 2, 1), (21, .iload_n 2, 1), (22, .iconst (-1), 1), (23, .if_icmp .eq 25, 3), (48, .aload_n 1, 1), (49, .iconst 4, 1), (50, .putfield 94, 3), (53, .aload_n 1, 1), (54, .iconst 0, 1), (55, .putfield 109, 3), (58, .aload_n 0, 1), (59, .aload_n 1, 1), (60, .getfield 135, 3), (63, .invokevirtual 203, 3)] = true ∧ dOk cX5_beginInside [(66, .return_, 1), (26, .aload_n 1, 1), (27, .iconst 1, 1), (28, .putfield 94, 3), (31, .aload_n 0, 1), (32, .aload_n 1, 1), (33, .iload_n 2, 1), (34, .aload_n 1, 1), (35, .getfield 135, 3), (38, .invokevirtual 269, 3), (41, .iload_n 2, 1), (42, .iconst 1, 1), (43, .iadd, 1), (44, .putfield 109, 3), (47, .return_, 1)] = true := by decide +kernel
theorem dX5_beginInside_0 : decode cX5_beginInside 0 = .ok (.aload_n 0, 1) := dr9 dk9_dX5_beginInside_0_0.1 0 (0, .aload_n 0, 1) rfl
theorem dX5_beginInside_1 : decode cX5_beginInside 1 = .ok (.getfield 24, 3) := dr9 dk9_dX5_beginInside_0_0.1 1 (1, .getfield 24, 3) rfl
theorem dX5_beginInside_4 : decode cX5_beginInside 4 = .ok (.aload_n 1, 1) := dr9 dk9_dX5_beginInside_0_0.1 2 (4, .aload_n 1, 1) rfl
theorem dX5_beginInside_5 : decode cX5_beginInside 5 = .ok (.getfield 109, 3) := dr9 dk9_dX5_beginInside_0_0.1 3 (5, .getfield 109, 3) rfl
theorem dX5_beginInside_8 : decode cX5_beginInside 8 = .ok (.iconst 1, 1) := dr9 dk9_dX5_beginInside_0_0.1 4 (8, .iconst 1, 1) rfl
theorem dX5_beginInside_9 : decode cX5_beginInside 9 = .ok (.aload_n 1, 1) := dr9 dk9_dX5_beginInside_0_0.1 5 (9, .aload_n 1, 1) rfl
theorem dX5_beginInside_10 : decode cX5_beginInside 10 = .ok (.getfield 103, 3) := dr9 dk9_dX5_beginInside_0_0.1 6 (10, .getfield 103, 3) rfl
theorem dX5_beginInside_13 : decode cX5_beginInside 13 = .ok (.aload_n 1, 1) := dr9 dk9_dX5_beginInside_0_0.1 7 (13, .aload_n 1, 1) rfl
theorem dX5_beginInside_14 : decode cX5_beginInside 14 = .ok (.getfield 132, 3) := dr9 dk9_dX5_beginInside_0_0.1 8 (14, .getfield 132, 3) rfl
theorem dX5_beginInside_17 : decode cX5_beginInside 17 = .ok (.invokevirtual 301, 3) := dr9 dk9_dX5_beginInside_0_0.1 9 (17, .invokevirtual 301, 3) rfl
theorem dX5_beginInside_20 : decode cX5_beginInside 20 = .ok (.istore_n 2, 1) := dr9 dk9_dX5_beginInside_0_0.1 10 (20, .istore_n 2, 1) rfl
theorem dX5_beginInside_21 : decode cX5_beginInside 21 = .ok (.iload_n 2, 1) := dr9 dk9_dX5_beginInside_0_0.1 11 (21, .iload_n 2, 1) rfl
theorem dX5_beginInside_22 : decode cX5_beginInside 22 = .ok (.iconst (-1), 1) := dr9 dk9_dX5_beginInside_0_0.1 12 (22, .iconst (-1), 1) rfl
theorem dX5_beginInside_23 : decode cX5_beginInside 23 = .ok (.if_icmp .eq 25, 3) := dr9 dk9_dX5_beginInside_0_0.1 13 (23, .if_icmp .eq 25, 3) rfl
theorem dX5_beginInside_48 : decode cX5_beginInside 48 = .ok (.aload_n 1, 1) := dr9 dk9_dX5_beginInside_0_0.1 14 (48, .aload_n 1, 1) rfl
theorem dX5_beginInside_49 : decode cX5_beginInside 49 = .ok (.iconst 4, 1) := dr9 dk9_dX5_beginInside_0_0.1 15 (49, .iconst 4, 1) rfl
theorem dX5_beginInside_50 : decode cX5_beginInside 50 = .ok (.putfield 94, 3) := dr9 dk9_dX5_beginInside_0_0.1 16 (50, .putfield 94, 3) rfl
theorem dX5_beginInside_53 : decode cX5_beginInside 53 = .ok (.aload_n 1, 1) := dr9 dk9_dX5_beginInside_0_0.1 17 (53, .aload_n 1, 1) rfl
theorem dX5_beginInside_54 : decode cX5_beginInside 54 = .ok (.iconst 0, 1) := dr9 dk9_dX5_beginInside_0_0.1 18 (54, .iconst 0, 1) rfl
theorem dX5_beginInside_55 : decode cX5_beginInside 55 = .ok (.putfield 109, 3) := dr9 dk9_dX5_beginInside_0_0.1 19 (55, .putfield 109, 3) rfl
theorem dX5_beginInside_58 : decode cX5_beginInside 58 = .ok (.aload_n 0, 1) := dr9 dk9_dX5_beginInside_0_0.1 20 (58, .aload_n 0, 1) rfl
theorem dX5_beginInside_59 : decode cX5_beginInside 59 = .ok (.aload_n 1, 1) := dr9 dk9_dX5_beginInside_0_0.1 21 (59, .aload_n 1, 1) rfl
theorem dX5_beginInside_60 : decode cX5_beginInside 60 = .ok (.getfield 135, 3) := dr9 dk9_dX5_beginInside_0_0.1 22 (60, .getfield 135, 3) rfl
theorem dX5_beginInside_63 : decode cX5_beginInside 63 = .ok (.invokevirtual 203, 3) := dr9 dk9_dX5_beginInside_0_0.1 23 (63, .invokevirtual 203, 3) rfl
theorem dX5_beginInside_66 : decode cX5_beginInside 66 = .ok (.return_, 1) := dr9 dk9_dX5_beginInside_0_0.2 0 (66, .return_, 1) rfl
theorem dX5_beginInside_26 : decode cX5_beginInside 26 = .ok (.aload_n 1, 1) := dr9 dk9_dX5_beginInside_0_0.2 1 (26, .aload_n 1, 1) rfl
theorem dX5_beginInside_27 : decode cX5_beginInside 27 = .ok (.iconst 1, 1) := dr9 dk9_dX5_beginInside_0_0.2 2 (27, .iconst 1, 1) rfl
theorem dX5_beginInside_28 : decode cX5_beginInside 28 = .ok (.putfield 94, 3) := dr9 dk9_dX5_beginInside_0_0.2 3 (28, .putfield 94, 3) rfl
theorem dX5_beginInside_31 : decode cX5_beginInside 31 = .ok (.aload_n 0, 1) := dr9 dk9_dX5_beginInside_0_0.2 4 (31, .aload_n 0, 1) rfl
theorem dX5_beginInside_32 : decode cX5_beginInside 32 = .ok (.aload_n 1, 1) := dr9 dk9_dX5_beginInside_0_0.2 5 (32, .aload_n 1, 1) rfl
theorem dX5_beginInside_33 : decode cX5_beginInside 33 = .ok (.iload_n 2, 1) := dr9 dk9_dX5_beginInside_0_0.2 6 (33, .iload_n 2, 1) rfl
theorem dX5_beginInside_34 : decode cX5_beginInside 34 = .ok (.aload_n 1, 1) := dr9 dk9_dX5_beginInside_0_0.2 7 (34, .aload_n 1, 1) rfl
theorem dX5_beginInside_35 : decode cX5_beginInside 35 = .ok (.getfield 135, 3) := dr9 dk9_dX5_beginInside_0_0.2 8 (35, .getfield 135, 3) rfl
theorem dX5_beginInside_38 : decode cX5_beginInside 38 = .ok (.invokevirtual 269, 3) := dr9 dk9_dX5_beginInside_0_0.2 9 (38, .invokevirtual 269, 3) rfl
theorem dX5_beginInside_41 : decode cX5_beginInside 41 = .ok (.iload_n 2, 1) := dr9 dk9_dX5_beginInside_0_0.2 10 (41, .iload_n 2, 1) rfl
theorem dX5_beginInside_42 : decode cX5_beginInside 42 = .ok (.iconst 1, 1) := dr9 dk9_dX5_beginInside_0_0.2 11 (42, .iconst 1, 1) rfl
theorem dX5_beginInside_43 : decode cX5_beginInside 43 = .ok (.iadd, 1) := dr9 dk9_dX5_beginInside_0_0.2 12 (43, .iadd, 1) rfl
theorem dX5_beginInside_44 : decode cX5_beginInside 44 = .ok (.putfield 109, 3) := dr9 dk9_dX5_beginInside_0_0.2 13 (44, .putfield 109, 3) rfl
theorem dX5_beginInside_47 : decode cX5_beginInside 47 = .ok (.return_, 1) := dr9 dk9_dX5_beginInside_0_0.2 14 (47, .return_, 1) rfl
theorem dk9_dX5_nextBefore_0_0 : dOk cX5_nextBefore [(0, .aload_n 0, 1), (1, .getfield 24, 3), (4, .aload_n 1, 1), (5, .getfield 109, 3), (8, .iconst 0, 1), (9, .aload_n 1, 1), (10, .getfield 103, 3), (13, .aload_n 1, 1), (14, .getfield 132, 3), (17, .invokevirtual 301, 3), (20, .istore_n 2, 1), (21, .iload_n 2, 1), (22, .iconst (-1), 1), (23, .if_icmp .eq 22, 3), (45, .aload_n 0, 1), (46, .getfield 24, 3), (49, .getfield 178, 3), (52, .aload_n 1, 1), (53, .getfield 103, 3), (56, .aaload, 1), (57, .getfield 304, 3), (60, .aload_n 1, 1), (61, .getfield 132, 3), (64, .iaload, 1)] = true ∧ dOk cX5_nextBefore [(65, .istore_n 3, 1), (66, .iload_n 3, 1), (67, .iconst (-1), 1), (68, .if_icmp .ne 15, 3), (83, .aload_n 1, 1), (84, .iconst 5, 1), (85, .putfield 94, 3), (88, .aload_n 1, 1), (89, .aload_n 0, 1), (90, .getfield 24, 3), (93, .getfield 259, 3), (96, .putfield 109, 3), (99, .aload_n 0, 1), (100, .getfield 32, 3), (103, .iconst 4, 1), (104, .aload_n 1, 1), (105, .getfield 100, 3), (108, .aload_n 1, 1), (109, .getfield 135, 3), (112, .invokevirtual 286, 3), (115, .aload_n 0, 1), (116, .aload_n 1, 1), (117, .iload_n 3, 1), (118, .aload_n 1, 1)] = true ∧ dOk cX5_nextBefore [(119, .getfield 135, 3), (122, .invokevirtual 231, 3), (125, .pop, 1), (126, .return_, 1), (71, .aload_n 0, 1), (72, .iconst 0, 1), (73, .bipush 11, 2), (75, .invokevirtual 169, 3), (78, .aload_n 0, 1), (79, .invokevirtual 157, 3), (82, .return_, 1), (26, .aload_n 1, 1), (27, .iload_n 2, 1), (28, .iconst 1, 1), (29, .iadd, 1), (30, .putfield 109, 3), (33, .aload_n 0, 1), (34, .aload_n 1, 1), (35, .iload_n 2, 1), (36, .aload_n 1, 1), (37, .getfield 135, 3), (40, .invokevirtual 269, 3), (43, .pop, 1), (44, .return_, 1)] = true := by decide +kernel
theorem dX5_nextBefore_0 : decode cX5_nextBefore 0 = .ok (.aload_n 0, 1) := dr9 dk9_dX5_nextBefore_0_0.1 0 (0, .aload_n 0, 1) rfl
theorem dX5_nextBefore_1 : decode cX5_nextBefore 1 = .ok (.getfield 24, 3) := dr9 dk9_dX5_nextBefore_0_0.1 1 (1, .getfield 24, 3) rfl
theorem dX5_nextBefore_4 : decode cX5_nextBefore 4 = .ok (.aload_n 1, 1) := dr9 dk9_dX5_nextBefore_0_0.1 2 (4, .aload_n 1, 1) rfl
theorem dX5_nextBefore_5 : decode cX5_nextBefore 5 = .ok (.getfield 109, 3) := dr9 dk9_dX5_nextBefore_0_0.1 3 (5, .getfield 109, 3) rfl
theorem dX5_nextBefore_8 : decode cX5_nextBefore 8 = .ok (.iconst 0, 1) := dr9 dk9_dX5_nextBefore_0_0.1 4 (8, .iconst 0, 1) rfl
theorem dX5_nextBefore_9 : decode cX5_nextBefore 9 = .ok (.aload_n 1, 1) := dr9 dk9_dX5_nextBefore_0_0.1 5 (9, .aload_n 1, 1) rfl
theorem dX5_nextBefore_10 : decode cX5_nextBefore 10 = .ok (.getfield 103, 3) := dr9 dk9_dX5_nextBefore_0_0.1 6 (10, .getfield 103, 3) rfl
theorem dX5_nextBefore_13 : decode cX5_nextBefore 13 = .ok (.aload_n 1, 1) := dr9 dk9_dX5_nextBefore_0_0.1 7 (13, .aload_n 1, 1) rfl
theorem dX5_nextBefore_14 : decode cX5_nextBefore 14 = .ok (.getfield 132, 3) := dr9 dk9_dX5_nextBefore_0_0.1 8 (14, .getfield 132, 3) rfl
theorem dX5_nextBefore_17 : decode cX5_nextBefore 17 = .ok (.invokevirtual 301, 3) := dr9 dk9_dX5_nextBefore_0_0.1 9 (17, .invokevirtual 301, 3) rfl
theorem dX5_nextBefore_20 : decode cX5_nextBefore 20 = .ok (.istore_n 2, 1) := dr9 dk9_dX5_nextBefore_0_0.1 10 (20, .istore_n 2, 1) rfl
theorem dX5_nextBefore_21 : decode cX5_nextBefore 21 = .ok (.iload_n 2, 1) := dr9 dk9_dX5_nextBefore_0_0.1 11 (21, .iload_n 2, 1) rfl
theorem dX5_nextBefore_22 : decode cX5_nextBefore 22 = .ok (.iconst (-1), 1) := dr9 dk9_dX5_nextBefore_0_0.1 12 (22, .iconst (-1), 1) rfl
theorem dX5_nextBefore_23 : decode cX5_nextBefore 23 = .ok (.if_icmp .eq 22, 3) := dr9 dk9_dX5_nextBefore_0_0.1 13 (23, .if_icmp .eq 22, 3) rfl
theorem dX5_nextBefore_45 : decode cX5_nextBefore 45 = .ok (.aload_n 0, 1) := dr9 dk9_dX5_nextBefore_0_0.1 14 (45, .aload_n 0, 1) rfl
theorem dX5_nextBefore_46 : decode cX5_nextBefore 46 = .ok (.getfield 24, 3) := dr9 dk9_dX5_nextBefore_0_0.1 15 (46, .getfield 24, 3) rfl
theorem dX5_nextBefore_49 : decode cX5_nextBefore 49 = .ok (.getfield 178, 3) := dr9 dk9_dX5_nextBefore_0_0.1 16 (49, .getfield 178, 3) rfl
theorem dX5_nextBefore_52 : decode cX5_nextBefore 52 = .ok (.aload_n 1, 1) := dr9 dk9_dX5_nextBefore_0_0.1 17 (52, .aload_n 1, 1) rfl
theorem dX5_nextBefore_53 : decode cX5_nextBefore 53 = .ok (.getfield 103, 3) := dr9 dk9_dX5_nextBefore_0_0.1 18 (53, .getfield 103, 3) rfl
theorem dX5_nextBefore_56 : decode cX5_nextBefore 56 = .ok (.aaload, 1) := dr9 dk9_dX5_nextBefore_0_0.1 19 (56, .aaload, 1) rfl
theorem dX5_nextBefore_57 : decode cX5_nextBefore 57 = .ok (.getfield 304, 3) := dr9 dk9_dX5_nextBefore_0_0.1 20 (57, .getfield 304, 3) rfl
theorem dX5_nextBefore_60 : decode cX5_nextBefore 60 = .ok (.aload_n 1, 1) := dr9 dk9_dX5_nextBefore_0_0.1 21 (60, .aload_n 1, 1) rfl
theorem dX5_nextBefore_61 : decode cX5_nextBefore 61 = .ok (.getfield 132, 3) := dr9 dk9_dX5_nextBefore_0_0.1 22 (61, .getfield 132, 3) rfl
theorem dX5_nextBefore_64 : decode cX5_nextBefore 64 = .ok (.iaload, 1) := dr9 dk9_dX5_nextBefore_0_0.1 23 (64, .iaload, 1) rfl
theorem dX5_nextBefore_65 : decode cX5_nextBefore 65 = .ok (.istore_n 3, 1) := dr9 dk9_dX5_nextBefore_0_0.2.1 0 (65, .istore_n 3, 1) rfl
theorem dX5_nextBefore_66 : decode cX5_nextBefore 66 = .ok (.iload_n 3, 1) := dr9 dk9_dX5_nextBefore_0_0.2.1 1 (66, .iload_n 3, 1) rfl
theorem dX5_nextBefore_67 : decode cX5_nextBefore 67 = .ok (.iconst (-1), 1) := dr9 dk9_dX5_nextBefore_0_0.2.1 2 (67, .iconst (-1), 1) rfl
theorem dX5_nextBefore_68 : decode cX5_nextBefore 68 = .ok (.if_icmp .ne 15, 3) := dr9 dk9_dX5_nextBefore_0_0.2.1 3 (68, .if_icmp .ne 15, 3) rfl
theorem dX5_nextBefore_83 : decode cX5_nextBefore 83 = .ok (.aload_n 1, 1) := dr9 dk9_dX5_nextBefore_0_0.2.1 4 (83, .aload_n 1, 1) rfl
theorem dX5_nextBefore_84 : decode cX5_nextBefore 84 = .ok (.iconst 5, 1) := dr9 dk9_dX5_nextBefore_0_0.2.1 5 (84, .iconst 5, 1) rfl
theorem dX5_nextBefore_85 : decode cX5_nextBefore 85 = .ok (.putfield 94, 3) := dr9 dk9_dX5_nextBefore_0_0.2.1 6 (85, .putfield 94, 3) rfl
theorem dX5_nextBefore_88 : decode cX5_nextBefore 88 = .ok (.aload_n 1, 1) := dr9 dk9_dX5_nextBefore_0_0.2.1 7 (88, .aload_n 1, 1) rfl
theorem dX5_nextBefore_89 : decode cX5_nextBefore 89 = .ok (.aload_n 0, 1) := dr9 dk9_dX5_nextBefore_0_0.2.1 8 (89, .aload_n 0, 1) rfl
theorem dX5_nextBefore_90 : decode cX5_nextBefore 90 = .ok (.getfield 24, 3) := dr9 dk9_dX5_nextBefore_0_0.2.1 9 (90, .getfield 24, 3) rfl
theorem dX5_nextBefore_93 : decode cX5_nextBefore 93 = .ok (.getfield 259, 3) := dr9 dk9_dX5_nextBefore_0_0.2.1 10 (93, .getfield 259, 3) rfl
theorem dX5_nextBefore_96 : decode cX5_nextBefore 96 = .ok (.putfield 109, 3) := dr9 dk9_dX5_nextBefore_0_0.2.1 11 (96, .putfield 109, 3) rfl
theorem dX5_nextBefore_99 : decode cX5_nextBefore 99 = .ok (.aload_n 0, 1) := dr9 dk9_dX5_nextBefore_0_0.2.1 12 (99, .aload_n 0, 1) rfl
theorem dX5_nextBefore_100 : decode cX5_nextBefore 100 = .ok (.getfield 32, 3) := dr9 dk9_dX5_nextBefore_0_0.2.1 13 (100, .getfield 32, 3) rfl
theorem dX5_nextBefore_103 : decode cX5_nextBefore 103 = .ok (.iconst 4, 1) := dr9 dk9_dX5_nextBefore_0_0.2.1 14 (103, .iconst 4, 1) rfl
theorem dX5_nextBefore_104 : decode cX5_nextBefore 104 = .ok (.aload_n 1, 1) := dr9 dk9_dX5_nextBefore_0_0.2.1 15 (104, .aload_n 1, 1) rfl
theorem dX5_nextBefore_105 : decode cX5_nextBefore 105 = .ok (.getfield 100, 3) := dr9 dk9_dX5_nextBefore_0_0.2.1 16 (105, .getfield 100, 3) rfl
theorem dX5_nextBefore_108 : decode cX5_nextBefore 108 = .ok (.aload_n 1, 1) := dr9 dk9_dX5_nextBefore_0_0.2.1 17 (108, .aload_n 1, 1) rfl
theorem dX5_nextBefore_109 : decode cX5_nextBefore 109 = .ok (.getfield 135, 3) := dr9 dk9_dX5_nextBefore_0_0.2.1 18 (109, .getfield 135, 3) rfl
theorem dX5_nextBefore_112 : decode cX5_nextBefore 112 = .ok (.invokevirtual 286, 3) := dr9 dk9_dX5_nextBefore_0_0.2.1 19 (112, .invokevirtual 286, 3) rfl
theorem dX5_nextBefore_115 : decode cX5_nextBefore 115 = .ok (.aload_n 0, 1) := dr9 dk9_dX5_nextBefore_0_0.2.1 20 (115, .aload_n 0, 1) rfl
theorem dX5_nextBefore_116 : decode cX5_nextBefore 116 = .ok (.aload_n 1, 1) := dr9 dk9_dX5_nextBefore_0_0.2.1 21 (116, .aload_n 1, 1) rfl
theorem dX5_nextBefore_117 : decode cX5_nextBefore 117 = .ok (.iload_n 3, 1) := dr9 dk9_dX5_nextBefore_0_0.2.1 22 (117, .iload_n 3, 1) rfl
theorem dX5_nextBefore_118 : decode cX5_nextBefore 118 = .ok (.aload_n 1, 1) := dr9 dk9_dX5_nextBefore_0_0.2.1 23 (118, .aload_n 1, 1) rfl
theorem dX5_nextBefore_119 : decode cX5_nextBefore 119 = .ok (.getfield 135, 3) := dr9 dk9_dX5_nextBefore_0_0.2.2 0 (119, .getfield 135, 3) rfl
theorem dX5_nextBefore_122 : decode cX5_nextBefore 122 = .ok (.invokevirtual 231, 3) := dr9 dk9_dX5_nextBefore_0_0.2.2 1 (122, .invokevirtual 231, 3) rfl
theorem dX5_nextBefore_125 : decode cX5_nextBefore 125 = .ok (.pop, 1) := dr9 dk9_dX5_nextBefore_0_0.2.2 2 (125, .pop, 1) rfl
theorem dX5_nextBefore_126 : decode cX5_nextBefore 126 = .ok (.return_, 1) := dr9 dk9_dX5_nextBefore_0_0.2.2 3 (126, .return_, 1) rfl
theorem dX5_nextBefore_71 : decode cX5_nextBefore 71 = .ok (.aload_n 0, 1) := dr9 dk9_dX5_nextBefore_0_0.2.2 4 (71, .aload_n 0, 1) rfl
theorem dX5_nextBefore_72 : decode cX5_nextBefore 72 = .ok (.iconst 0, 1) := dr9 dk9_dX5_nextBefore_0_0.2.2 5 (72, .iconst 0, 1) rfl
theorem dX5_nextBefore_73 : decode cX5_nextBefore 73 = .ok (.bipush 11, 2) := dr9 dk9_dX5_nextBefore_0_0.2.2 6 (73, .bipush 11, 2) rfl
theorem dX5_nextBefore_75 : decode cX5_nextBefore 75 = .ok (.invokevirtual 169, 3) := dr9 dk9_dX5_nextBefore_0_0.2.2 7 (75, .invokevirtual 169, 3) rfl
theorem dX5_nextBefore_78 : decode cX5_nextBefore 78 = .ok (.aload_n 0, 1) := dr9 dk9_dX5_nextBefore_0_0.2.2 8 (78, .aload_n 0, 1) rfl
theorem dX5_nextBefore_79 : decode cX5_nextBefore 79 = .ok (.invokevirtual 157, 3) := dr9 dk9_dX5_nextBefore_0_0.2.2 9 (79, .invokevirtual 157, 3) rfl
theorem dX5_nextBefore_82 : decode cX5_nextBefore 82 = .ok (.return_, 1) := dr9 dk9_dX5_nextBefore_0_0.2.2 10 (82, .return_, 1) rfl
theorem dX5_nextBefore_26 : decode cX5_nextBefore 26 = .ok (.aload_n 1, 1) := dr9 dk9_dX5_nextBefore_0_0.2.2 11 (26, .aload_n 1, 1) rfl
theorem dX5_nextBefore_27 : decode cX5_nextBefore 27 = .ok (.iload_n 2, 1) := dr9 dk9_dX5_nextBefore_0_0.2.2 12 (27, .iload_n 2, 1) rfl
theorem dX5_nextBefore_28 : decode cX5_nextBefore 28 = .ok (.iconst 1, 1) := dr9 dk9_dX5_nextBefore_0_0.2.2 13 (28, .iconst 1, 1) rfl
theorem dX5_nextBefore_29 : decode cX5_nextBefore 29 = .ok (.iadd, 1) := dr9 dk9_dX5_nextBefore_0_0.2.2 14 (29, .iadd, 1) rfl
theorem dX5_nextBefore_30 : decode cX5_nextBefore 30 = .ok (.putfield 109, 3) := dr9 dk9_dX5_nextBefore_0_0.2.2 15 (30, .putfield 109, 3) rfl
theorem dX5_nextBefore_33 : decode cX5_nextBefore 33 = .ok (.aload_n 0, 1) := dr9 dk9_dX5_nextBefore_0_0.2.2 16 (33, .aload_n 0, 1) rfl
theorem dX5_nextBefore_34 : decode cX5_nextBefore 34 = .ok (.aload_n 1, 1) := dr9 dk9_dX5_nextBefore_0_0.2.2 17 (34, .aload_n 1, 1) rfl
theorem dX5_nextBefore_35 : decode cX5_nextBefore 35 = .ok (.iload_n 2, 1) := dr9 dk9_dX5_nextBefore_0_0.2.2 18 (35, .iload_n 2, 1) rfl
theorem dX5_nextBefore_36 : decode cX5_nextBefore 36 = .ok (.aload_n 1, 1) := dr9 dk9_dX5_nextBefore_0_0.2.2 19 (36, .aload_n 1, 1) rfl
theorem dX5_nextBefore_37 : decode cX5_nextBefore 37 = .ok (.getfield 135, 3) := dr9 dk9_dX5_nextBefore_0_0.2.2 20 (37, .getfield 135, 3) rfl
theorem dX5_nextBefore_40 : decode cX5_nextBefore 40 = .ok (.invokevirtual 269, 3) := dr9 dk9_dX5_nextBefore_0_0.2.2 21 (40, .invokevirtual 269, 3) rfl
theorem dX5_nextBefore_43 : decode cX5_nextBefore 43 = .ok (.pop, 1) := dr9 dk9_dX5_nextBefore_0_0.2.2 22 (43, .pop, 1) rfl
theorem dX5_nextBefore_44 : decode cX5_nextBefore 44 = .ok (.return_, 1) := dr9 dk9_dX5_nextBefore_0_0.2.2 23 (44, .return_, 1) rfl
theorem dk9_dX5_nextAfter_0_0 : dOk cX5_nextAfter [(0, .aload_n 0, 1), (1, .getfield 24, 3), (4, .aload_n 1, 1), (5, .getfield 109, 3), (8, .iconst 1, 1), (9, .isub, 1), (10, .iconst 2, 1), (11, .aload_n 1, 1), (12, .getfield 103, 3), (15, .aload_n 1, 1), (16, .getfield 132, 3), (19, .invokevirtual 262, 3), (22, .istore_n 2, 1), (23, .iload_n 2, 1), (24, .iconst (-1), 1), (25, .if_icmp .ne 16, 3), (41, .aload_n 1, 1), (42, .iload_n 2, 1), (43, .putfield 109, 3), (46, .aload_n 0, 1), (47, .aload_n 1, 1), (48, .iload_n 2, 1), (49, .aload_n 1, 1), (50, .getfield 135, 3)] = true ∧ dOk cX5_nextAfter [(53, .invokevirtual 269, 3), (56, .pop, 1), (57, .return_, 1), (28, .aload_n 0, 1), (29, .aload_n 1, 1), (30, .getfield 135, 3), (33, .invokevirtual 203, 3), (36, .aload_n 0, 1), (37, .invokevirtual 157, 3), (40, .return_, 1)] = true := by decide +kernel
theorem dX5_nextAfter_0 : decode cX5_nextAfter 0 = .ok (.aload_n 0, 1) := dr9 dk9_dX5_nextAfter_0_0.1 0 (0, .aload_n 0, 1) rfl
theorem dX5_nextAfter_1 : decode cX5_nextAfter 1 = .ok (.getfield 24, 3) := dr9 dk9_dX5_nextAfter_0_0.1 1 (1, .getfield 24, 3) rfl
theorem dX5_nextAfter_4 : decode cX5_nextAfter 4 = .ok (.aload_n 1, 1) := dr9 dk9_dX5_nextAfter_0_0.1 2 (4, .aload_n 1, 1) rfl
theorem dX5_nextAfter_5 : decode cX5_nextAfter 5 = .ok (.getfield 109, 3) := dr9 dk9_dX5_nextAfter_0_0.1 3 (5, .getfield 109, 3) rfl
theorem dX5_nextAfter_8 : decode cX5_nextAfter 8 = .ok (.iconst 1, 1) := dr9 dk9_dX5_nextAfter_0_0.1 4 (8, .iconst 1, 1) rfl
theorem dX5_nextAfter_9 : decode cX5_nextAfter 9 = .ok (.isub, 1) := dr9 dk9_dX5_nextAfter_0_0.1 5 (9, .isub, 1) rfl
theorem dX5_nextAfter_10 : decode cX5_nextAfter 10 = .ok (.iconst 2, 1) := dr9 dk9_dX5_nextAfter_0_0.1 6 (10, .iconst 2, 1) rfl
theorem dX5_nextAfter_11 : decode cX5_nextAfter 11 = .ok (.aload_n 1, 1) := dr9 dk9_dX5_nextAfter_0_0.1 7 (11, .aload_n 1, 1) rfl
theorem dX5_nextAfter_12 : decode cX5_nextAfter 12 = .ok (.getfield 103, 3) := dr9 dk9_dX5_nextAfter_0_0.1 8 (12, .getfield 103, 3) rfl
theorem dX5_nextAfter_15 : decode cX5_nextAfter 15 = .ok (.aload_n 1, 1) := dr9 dk9_dX5_nextAfter_0_0.1 9 (15, .aload_n 1, 1) rfl
theorem dX5_nextAfter_16 : decode cX5_nextAfter 16 = .ok (.getfield 132, 3) := dr9 dk9_dX5_nextAfter_0_0.1 10 (16, .getfield 132, 3) rfl
theorem dX5_nextAfter_19 : decode cX5_nextAfter 19 = .ok (.invokevirtual 262, 3) := dr9 dk9_dX5_nextAfter_0_0.1 11 (19, .invokevirtual 262, 3) rfl
theorem dX5_nextAfter_22 : decode cX5_nextAfter 22 = .ok (.istore_n 2, 1) := dr9 dk9_dX5_nextAfter_0_0.1 12 (22, .istore_n 2, 1) rfl
theorem dX5_nextAfter_23 : decode cX5_nextAfter 23 = .ok (.iload_n 2, 1) := dr9 dk9_dX5_nextAfter_0_0.1 13 (23, .iload_n 2, 1) rfl
theorem dX5_nextAfter_24 : decode cX5_nextAfter 24 = .ok (.iconst (-1), 1) := dr9 dk9_dX5_nextAfter_0_0.1 14 (24, .iconst (-1), 1) rfl
theorem dX5_nextAfter_25 : decode cX5_nextAfter 25 = .ok (.if_icmp .ne 16, 3) := dr9 dk9_dX5_nextAfter_0_0.1 15 (25, .if_icmp .ne 16, 3) rfl
theorem dX5_nextAfter_41 : decode cX5_nextAfter 41 = .ok (.aload_n 1, 1) := dr9 dk9_dX5_nextAfter_0_0.1 16 (41, .aload_n 1, 1) rfl
theorem dX5_nextAfter_42 : decode cX5_nextAfter 42 = .ok (.iload_n 2, 1) := dr9 dk9_dX5_nextAfter_0_0.1 17 (42, .iload_n 2, 1) rfl
theorem dX5_nextAfter_43 : decode cX5_nextAfter 43 = .ok (.putfield 109, 3) := dr9 dk9_dX5_nextAfter_0_0.1 18 (43, .putfield 109, 3) rfl
theorem dX5_nextAfter_46 : decode cX5_nextAfter 46 = .ok (.aload_n 0, 1) := dr9 dk9_dX5_nextAfter_0_0.1 19 (46, .aload_n 0, 1) rfl
theorem dX5_nextAfter_47 : decode cX5_nextAfter 47 = .ok (.aload_n 1, 1) := dr9 dk9_dX5_nextAfter_0_0.1 20 (47, .aload_n 1, 1) rfl
theorem dX5_nextAfter_48 : decode cX5_nextAfter 48 = .ok (.iload_n 2, 1) := dr9 dk9_dX5_nextAfter_0_0.1 21 (48, .iload_n 2, 1) rfl
theorem dX5_nextAfter_49 : decode cX5_nextAfter 49 = .ok (.aload_n 1, 1) := dr9 dk9_dX5_nextAfter_0_0.1 22 (49, .aload_n 1, 1) rfl
theorem dX5_nextAfter_50 : decode cX5_nextAfter 50 = .ok (.getfield 135, 3) := dr9 dk9_dX5_nextAfter_0_0.1 23 (50, .getfield 135, 3) rfl
theorem dX5_nextAfter_53 : decode cX5_nextAfter 53 = .ok (.invokevirtual 269, 3) := dr9 dk9_dX5_nextAfter_0_0.2 0 (53, .invokevirtual 269, 3) rfl
theorem dX5_nextAfter_56 : decode cX5_nextAfter 56 = .ok (.pop, 1) := dr9 dk9_dX5_nextAfter_0_0.2 1 (56, .pop, 1) rfl
theorem dX5_nextAfter_57 : decode cX5_nextAfter 57 = .ok (.return_, 1) := dr9 dk9_dX5_nextAfter_0_0.2 2 (57, .return_, 1) rfl
theorem dX5_nextAfter_28 : decode cX5_nextAfter 28 = .ok (.aload_n 0, 1) := dr9 dk9_dX5_nextAfter_0_0.2 3 (28, .aload_n 0, 1) rfl
theorem dX5_nextAfter_29 : decode cX5_nextAfter 29 = .ok (.aload_n 1, 1) := dr9 dk9_dX5_nextAfter_0_0.2 4 (29, .aload_n 1, 1) rfl
theorem dX5_nextAfter_30 : decode cX5_nextAfter 30 = .ok (.getfield 135, 3) := dr9 dk9_dX5_nextAfter_0_0.2 5 (30, .getfield 135, 3) rfl
theorem dX5_nextAfter_33 : decode cX5_nextAfter 33 = .ok (.invokevirtual 203, 3) := dr9 dk9_dX5_nextAfter_0_0.2 6 (33, .invokevirtual 203, 3) rfl
theorem dX5_nextAfter_36 : decode cX5_nextAfter 36 = .ok (.aload_n 0, 1) := dr9 dk9_dX5_nextAfter_0_0.2 7 (36, .aload_n 0, 1) rfl
theorem dX5_nextAfter_37 : decode cX5_nextAfter 37 = .ok (.invokevirtual 157, 3) := dr9 dk9_dX5_nextAfter_0_0.2 8 (37, .invokevirtual 157, 3) rfl
theorem dX5_nextAfter_40 : decode cX5_nextAfter 40 = .ok (.return_, 1) := dr9 dk9_dX5_nextAfter_0_0.2 9 (40, .return_, 1) rfl
theorem dk9_dX5_goOnInside_0_0 : dOk cX5_goOnInside [(0, .aload_n 1, 1), (1, .getfield 94, 3), (4, .ifCond .ne 9, 3), (13, .aload_n 0, 1), (14, .getfield 49, 3), (17, .iconst 1, 1), (18, .if_icmp .ne 11, 3), (29, .aload_n 0, 1), (30, .invokevirtual 157, 3), (33, .return_, 1), (21, .aload_n 1, 1), (22, .getfield 94, 3), (25, .iconst 1, 1), (26, .if_icmp .ne 8, 3), (34, .aload_n 1, 1), (35, .aload_n 0, 1), (36, .getfield 67, 3), (39, .putfield 135, 3), (42, .aload_n 1, 1), (43, .getfield 94, 3), (46, .iconst 4, 1), (47, .if_icmp .ne 11, 3), (58, .aload_n 0, 1), (59, .aload_n 1, 1)] = true ∧ dOk cX5_goOnInside [(60, .invokevirtual 298, 3), (63, .return_, 1), (50, .aload_n 0, 1), (51, .aload_n 1, 1), (52, .invokevirtual 295, 3), (55, .goto 8, 3), (7, .aload_n 0, 1), (8, .aload_n 1, 1), (9, .invokevirtual 292, 3), (12, .return_, 1)] = true := by decide +kernel
theorem dX5_goOnInside_0 : decode cX5_goOnInside 0 = .ok (.aload_n 1, 1) := dr9 dk9_dX5_goOnInside_0_0.1 0 (0, .aload_n 1, 1) rfl
theorem dX5_goOnInside_1 : decode cX5_goOnInside 1 = .ok (.getfield 94, 3) := dr9 dk9_dX5_goOnInside_0_0.1 1 (1, .getfield 94, 3) rfl
theorem dX5_goOnInside_4 : decode cX5_goOnInside 4 = .ok (.ifCond .ne 9, 3) := dr9 dk9_dX5_goOnInside_0_0.1 2 (4, .ifCond .ne 9, 3) rfl
theorem dX5_goOnInside_13 : decode cX5_goOnInside 13 = .ok (.aload_n 0, 1) := dr9 dk9_dX5_goOnInside_0_0.1 3 (13, .aload_n 0, 1) rfl
theorem dX5_goOnInside_14 : decode cX5_goOnInside 14 = .ok (.getfield 49, 3) := dr9 dk9_dX5_goOnInside_0_0.1 4 (14, .getfield 49, 3) rfl
theorem dX5_goOnInside_17 : decode cX5_goOnInside 17 = .ok (.iconst 1, 1) := dr9 dk9_dX5_goOnInside_0_0.1 5 (17, .iconst 1, 1) rfl
theorem dX5_goOnInside_18 : decode cX5_goOnInside 18 = .ok (.if_icmp .ne 11, 3) := dr9 dk9_dX5_goOnInside_0_0.1 6 (18, .if_icmp .ne 11, 3) rfl
theorem dX5_goOnInside_29 : decode cX5_goOnInside 29 = .ok (.aload_n 0, 1) := dr9 dk9_dX5_goOnInside_0_0.1 7 (29, .aload_n 0, 1) rfl
theorem dX5_goOnInside_30 : decode cX5_goOnInside 30 = .ok (.invokevirtual 157, 3) := dr9 dk9_dX5_goOnInside_0_0.1 8 (30, .invokevirtual 157, 3) rfl
theorem dX5_goOnInside_33 : decode cX5_goOnInside 33 = .ok (.return_, 1) := dr9 dk9_dX5_goOnInside_0_0.1 9 (33, .return_, 1) rfl
theorem dX5_goOnInside_21 : decode cX5_goOnInside 21 = .ok (.aload_n 1, 1) := dr9 dk9_dX5_goOnInside_0_0.1 10 (21, .aload_n 1, 1) rfl
theorem dX5_goOnInside_22 : decode cX5_goOnInside 22 = .ok (.getfield 94, 3) := dr9 dk9_dX5_goOnInside_0_0.1 11 (22, .getfield 94, 3) rfl
theorem dX5_goOnInside_25 : decode cX5_goOnInside 25 = .ok (.iconst 1, 1) := dr9 dk9_dX5_goOnInside_0_0.1 12 (25, .iconst 1, 1) rfl
theorem dX5_goOnInside_26 : decode cX5_goOnInside 26 = .ok (.if_icmp .ne 8, 3) := dr9 dk9_dX5_goOnInside_0_0.1 13 (26, .if_icmp .ne 8, 3) rfl
theorem dX5_goOnInside_34 : decode cX5_goOnInside 34 = .ok (.aload_n 1, 1) := dr9 dk9_dX5_goOnInside_0_0.1 14 (34, .aload_n 1, 1) rfl
theorem dX5_goOnInside_35 : decode cX5_goOnInside 35 = .ok (.aload_n 0, 1) := dr9 dk9_dX5_goOnInside_0_0.1 15 (35, .aload_n 0, 1) rfl
theorem dX5_goOnInside_36 : decode cX5_goOnInside 36 = .ok (.getfield 67, 3) := dr9 dk9_dX5_goOnInside_0_0.1 16 (36, .getfield 67, 3) rfl
theorem dX5_goOnInside_39 : decode cX5_goOnInside 39 = .ok (.putfield 135, 3) := dr9 dk9_dX5_goOnInside_0_0.1 17 (39, .putfield 135, 3) rfl
theorem dX5_goOnInside_42 : decode cX5_goOnInside 42 = .ok (.aload_n 1, 1) := dr9 dk9_dX5_goOnInside_0_0.1 18 (42, .aload_n 1, 1) rfl
theorem dX5_goOnInside_43 : decode cX5_goOnInside 43 = .ok (.getfield 94, 3) := dr9 dk9_dX5_goOnInside_0_0.1 19 (43, .getfield 94, 3) rfl
theorem dX5_goOnInside_46 : decode cX5_goOnInside 46 = .ok (.iconst 4, 1) := dr9 dk9_dX5_goOnInside_0_0.1 20 (46, .iconst 4, 1) rfl
theorem dX5_goOnInside_47 : decode cX5_goOnInside 47 = .ok (.if_icmp .ne 11, 3) := dr9 dk9_dX5_goOnInside_0_0.1 21 (47, .if_icmp .ne 11, 3) rfl
theorem dX5_goOnInside_58 : decode cX5_goOnInside 58 = .ok (.aload_n 0, 1) := dr9 dk9_dX5_goOnInside_0_0.1 22 (58, .aload_n 0, 1) rfl
theorem dX5_goOnInside_59 : decode cX5_goOnInside 59 = .ok (.aload_n 1, 1) := dr9 dk9_dX5_goOnInside_0_0.1 23 (59, .aload_n 1, 1) rfl
theorem dX5_goOnInside_60 : decode cX5_goOnInside 60 = .ok (.invokevirtual 298, 3) := dr9 dk9_dX5_goOnInside_0_0.2 0 (60, .invokevirtual 298, 3) rfl
theorem dX5_goOnInside_63 : decode cX5_goOnInside 63 = .ok (.return_, 1) := dr9 dk9_dX5_goOnInside_0_0.2 1 (63, .return_, 1) rfl
theorem dX5_goOnInside_50 : decode cX5_goOnInside 50 = .ok (.aload_n 0, 1) := dr9 dk9_dX5_goOnInside_0_0.2 2 (50, .aload_n 0, 1) rfl
theorem dX5_goOnInside_51 : decode cX5_goOnInside 51 = .ok (.aload_n 1, 1) := dr9 dk9_dX5_goOnInside_0_0.2 3 (51, .aload_n 1, 1) rfl
theorem dX5_goOnInside_52 : decode cX5_goOnInside 52 = .ok (.invokevirtual 295, 3) := dr9 dk9_dX5_goOnInside_0_0.2 4 (52, .invokevirtual 295, 3) rfl
theorem dX5_goOnInside_55 : decode cX5_goOnInside 55 = .ok (.goto 8, 3) := dr9 dk9_dX5_goOnInside_0_0.2 5 (55, .goto 8, 3) rfl
theorem dX5_goOnInside_7 : decode cX5_goOnInside 7 = .ok (.aload_n 0, 1) := dr9 dk9_dX5_goOnInside_0_0.2 6 (7, .aload_n 0, 1) rfl
theorem dX5_goOnInside_8 : decode cX5_goOnInside 8 = .ok (.aload_n 1, 1) := dr9 dk9_dX5_goOnInside_0_0.2 7 (8, .aload_n 1, 1) rfl
theorem dX5_goOnInside_9 : decode cX5_goOnInside 9 = .ok (.invokevirtual 292, 3) := dr9 dk9_dX5_goOnInside_0_0.2 8 (9, .invokevirtual 292, 3) rfl
theorem dX5_goOnInside_12 : decode cX5_goOnInside 12 = .ok (.return_, 1) := dr9 dk9_dX5_goOnInside_0_0.2 9 (12, .return_, 1) rfl
abbrev r_x_goOnClosing (Z : XZ) : Room := { frames := 4, cells := zcc Z, slots := zss Z, locals := 90 }
abbrev q_x_goOnClosing (D : va_G) (ks : KS) (ad : Nat → Nat) (kk : Nat → ClassId) (V : Vf) (L : Lf) (Z : XZ) (b : Nat) (gf : Nat) (A : Nat → Prop) : Array Value → State → Outcome → State → Prop := qZv D (fun (u : Vf × Lf × XZ) => rgd bX u.1 ∧ agr [(4, 6), (5, 6), (5, 9), (5, 10)] [25, 28, 36, 37, 67, 68, 69, 70, 71, 72, 73, 74, 75, 76, 77, 78, 79, 80, 81, 82, 83, 84, 85] V u.1 ∧ u.2.1 = L ∧ ZL Z u.2.2 ∧ (MJ u.1 u.2.2 b)) (fun u => xw ad kk u.1 u.2.1 u.2.2) (fun u => xty kk u.2.2) (fun u => zcc Z - zcc u.2.2) (fun u => zss Z - zss u.2.2) A
set_option maxHeartbeats 4000000 in
set_option maxRecDepth 100000 in
theorem x_goOnClosing (l : Launch) (D : va_G) (ks : KS) (sz : Nat) (ad : Nat → Nat) (kk : Nat → ClassId) (V : Vf) (L : Lf) (Z : XZ) (b : Nat) (gf : Nat) (hMV : rgd bX V) (hb2 : b < 2) (hgf : gf < Z.nf) (mo : MO V Z b gf True (QN V b) (QN V b)) (gd : (gf : Int) + 1 = (V 5 6).toInt) (gk : (V 67 gf).toInt ≠ 0 ∧ (V 67 gf).toInt ≠ 1 ∧ (V 67 gf).toInt ≠ 2 ∧ (V 67 gf).toInt ≠ 3 ∧ (V 67 gf).toInt ≠ 4)  : Met l yX5_goOnClosing (Cond.code yX5_goOnClosing cX5_goOnClosing 4 none :: GW) (r_x_goOnClosing Z) (va_Pc [.ref (ad 5), .ref (Z.fa gf)] (gp D ks (xw ad kk V L Z) (xty kk Z) sz)) (q_x_goOnClosing D ks ad kk V L Z  b gf (va_A (xw ad kk V L Z) sz)) (zcc Z) (zss Z) (va_A (xw ad kk V L Z) sz) := by
  refine g_met (q_x_goOnClosing D ks ad kk V L Z  b gf) (by decide) (Nat.le_of_ble_eq_true rfl) ?_
  intro p e s m below meth c A ls H locs hx hb hr hml hown hg hlocks hin hnw hgk hP hK hD hS hA hl
  have hown : s.vm.findClass RX5 = some m.cls := hown
  have hl : lv_has ls 4 [(0, .ref (ad 5)), (1, .ref (Z.fa gf))] := hl
  have hP : va_P D vwCl (xw ad kk V L Z) H := hP
  have hD : va_D A (xw ad kk V L Z) := hD
  have hK : va_K D vwCl (xty kk Z) s := hK
  have agV : agr [(4, 6), (5, 6), (5, 9), (5, 10)] [25, 28, 36, 37, 67, 68, 69, 70, 71, 72, 73, 74, 75, 76, 77, 78, 79, 80, 81, 82, 83, 84, 85] V V := agr.rf
  have zoZ : ZL Z Z := ZL.rf
  refine W.know (fun ka kb => ?_)
  refine W.tight (k := zcc Z - zcc Z) (n := zss Z - zss Z) (by omega) (by omega) ?_
  have r1 : 0 ≤ ((V 5 6)).toInt ∧ ((V 5 6)).toInt ≤ 400 := hMV 5 6
  have kdp := i_clamp (x := V 5 6) rfl (by (first | exact om_c66f1b494bd9 gd | omega))
  have hdn : (gf : Int) + 1 ≤ (Z.nf : Int) := by (first | exact om_29efded833ec hgf | omega)
  have mup := MO.up mo
  have msz := mup.1
  have mbk := mup.2.2.2.1
  obtain ⟨xk, fk⟩ := MO.fk mo
  have r2 : (-1) ≤ ((V 71 gf)).toInt ∧ ((V 71 gf)).toInt ≤ 23 := hMV 71 gf
  have r3 : 0 ≤ ((V 75 gf)).toInt ∧ ((V 75 gf)).toInt ≤ 12 := hMV 75 gf
  have r4 : 0 ≤ ((V 80 gf)).toInt ∧ ((V 80 gf)).toInt ≤ 300 := hMV 80 gf
  have r5 : 0 ≤ ((V 84 gf)).toInt ∧ ((V 84 gf)).toInt ≤ 2147483647 := hMV 84 gf
  have r6 : 0 ≤ ((V 5 8)).toInt ∧ ((V 5 8)).toInt ≤ 300 := hMV 5 8
  have r7 : 0 ≤ ((V 5 9)).toInt ∧ ((V 5 9)).toInt ≤ 3 := hMV 5 9
  have r8 : 0 ≤ ((V 3 13)).toInt ∧ ((V 3 13)).toInt ≤ 300 := hMV 3 13
  have r9 : 0 ≤ ((V 43 (5 * b + 2))).toInt ∧ ((V 43 (5 * b + 2))).toInt ≤ ((xcap (5 * b + 2) : Nat) : Int) := hMV 43 (5 * b + 2)
  have r10 : xcap (5 * b + 2) = 24 := xcap_2
  have r11 : 0 ≤ ((V 41 b)).toInt ∧ ((V 41 b)).toInt ≤ 12 := hMV 41 b
  have r12 : 0 ≤ ((V 42 b)).toInt ∧ ((V 42 b)).toInt ≤ 8200 := hMV 42 b
  have fc := fk.1 (by omega)
  have fo := fk.2.1 (by omega) (by omega)
  refine lv_aload_n hx hb dX5_goOnClosing_0 rfl (lv_at hl 0 rfl) ?_
  refine va_get (D := D) (ci := 5) (v := .ref (ad (38 + Int32.toNatClampNeg (V 5 5)))) (fs := (xfMachine ad V L Z)) (C := RX5) (T := TX5) (N := 15) hx hb hg inX5 hown hK hP 5 xgMachine rfl 5 (by decide) (hg _ w672) (fun _ h9 => h9) rfl dX5_goOnClosing_1 ?_
  have r13 : 0 ≤ ((V 5 5)).toInt ∧ ((V 5 5)).toInt ≤ 1 := hMV 5 5
  refine g_topv (v := .ref (ad (38 + b))) (rfP (by omega)) ?_
  refine va_getN (D := D) (ci := 0) (v := .ref (ad (64 + b))) (fs := (xfBook ad V b)) (C := RX0) (T := TX0) (N := 13) hx hb hg inX0 hown hK hP (38 + b) (xgBook hb2) rfl 7 (by decide) (hnw.use 618 n618 rfl) (fun _ h9 => h9) rfl dX5_goOnClosing_4 ?_
  refine lv_aload_n hx hb dX5_goOnClosing_7 rfl (lv_at hl 1 rfl) ?_
  refine va_getN (D := D) (ci := 4) (v := .int (V 71 gf)) (fs := (xfFrame V gf)) (C := RX4) (T := TX4) (N := 19) hx hb hg inX4 hown hK hP (336 + gf) (xgFrame hgf) rfl 4 (by decide) (hnw.use 1193 n1193 rfl) (fun _ h9 => h9) rfl dX5_goOnClosing_8 ?_
  have il14 : b < 2 := by (first | exact om_f940a4667dd6 hb2 | omega)
  refine va_aldq (D := D) (i := (V 71 gf)) hx hb hK hP (64 + b) (57 + b) (xgcomps il14) (xtcomps il14) (i_in (a := ((V 71 gf)).toInt) rfl (by omega)) dX5_goOnClosing_11 ?_
  have kc15 := i_clamp (x := (V 71 gf)) rfl (by omega)
  refine g_topv (v := .ref (ad (72 + (24 * b + (Int32.toNatClampNeg (V 71 gf)))))) (congrArg va_rf (if_pos (by omega))) ?_
  have il16 : (24 * b + (Int32.toNatClampNeg (V 71 gf))) < 48 := by (first | exact om_31a61188bc78 hb2 r2.2 kc15 | omega)
  refine va_getN (D := D) (ci := 3) (v := .int (V 57 (24 * b + (Int32.toNatClampNeg (V 71 gf))))) (fs := (xfComp ad V (24 * b + (Int32.toNatClampNeg (V 71 gf))))) (C := RX3) (T := TX3) (N := 13) hx hb hg inX3 hown hK hP (72 + (24 * b + (Int32.toNatClampNeg (V 71 gf)))) (xgComp il16) rfl 12 (by decide) (hnw.use 542 n542 rfl) (fun _ h9 => h9) rfl dX5_goOnClosing_12 ?_
  have r17 : (-1) ≤ ((V 57 (24 * b + (Int32.toNatClampNeg (V 71 gf))))).toInt ∧ ((V 57 (24 * b + (Int32.toNatClampNeg (V 71 gf))))).toInt ≤ 8200 := hMV 57 (24 * b + (Int32.toNatClampNeg (V 71 gf)))
  refine lv_istore_n (lv' := [(2, .int (V 57 (24 * b + (Int32.toNatClampNeg (V 71 gf))))), (0, .ref (ad 5)), (1, .ref (Z.fa gf))]) hx hb dX5_goOnClosing_15 rfl hl (by decide) rfl (fun ls hl => ?_)
  refine lv_aload_n hx hb dX5_goOnClosing_16 rfl (lv_at hl 2 rfl) ?_
  refine va_getN (D := D) (ci := 4) (v := .int (V 68 gf)) (fs := (xfFrame V gf)) (C := RX4) (T := TX4) (N := 19) hx hb hg inX4 hown hK hP (336 + gf) (xgFrame hgf) rfl 1 (by decide) (hnw.use 1190 n1190 rfl) (fun _ h9 => h9) rfl dX5_goOnClosing_17 ?_
  refine lv_if_ne (tgt := 42) hx hb dX5_goOnClosing_20 (by decide) (fun c18 => ?_) (fun c18 => ?_)
  · skip
    have f19 : ((V 68 gf)).toInt ≠ 0 := b_neq rfl (by decide) c18
    refine lv_iconst (v := 0) hx hb dX5_goOnClosing_42 (by decide) ?_
    refine lv_istore_n (lv' := [(3, .int 0), (2, .int (V 57 (24 * b + (Int32.toNatClampNeg (V 71 gf))))), (0, .ref (ad 5)), (1, .ref (Z.fa gf))]) hx hb dX5_goOnClosing_43 rfl hl (by decide) rfl (fun ls hl => ?_)
    refine lv_aload_n hx hb dX5_goOnClosing_44 rfl (lv_at hl 2 rfl) ?_
    refine va_get (D := D) (ci := 5) (v := .int (V 5 9)) (fs := (xfMachine ad V L Z)) (C := RX5) (T := TX5) (N := 15) hx hb hg inX5 hown hK hP 5 xgMachine rfl 9 (by decide) (hg _ w676) (fun _ h9 => h9) rfl dX5_goOnClosing_45 ?_
    refine lv_iconst (v := 2) hx hb dX5_goOnClosing_48 (by decide) ?_
    refine lv_icmp_ne (tgt := 67) hx hb dX5_goOnClosing_49 (by decide) (fun c20 => ?_) (fun c20 => ?_)
    · skip
      have f21 : ((V 5 9)).toInt ≠ 2 := b_neq rfl (by decide) c20
      refine lv_aload_n hx hb dX5_goOnClosing_67 rfl (lv_at hl 2 rfl) ?_
      refine va_get (D := D) (ci := 5) (v := .int (V 5 9)) (fs := (xfMachine ad V L Z)) (C := RX5) (T := TX5) (N := 15) hx hb hg inX5 hown hK hP 5 xgMachine rfl 9 (by decide) (hg _ w676) (fun _ h9 => h9) rfl dX5_goOnClosing_68 ?_
      refine lv_iconst (v := 3) hx hb dX5_goOnClosing_71 (by decide) ?_
      refine lv_icmp_ne (tgt := 81) hx hb dX5_goOnClosing_72 (by decide) (fun c22 => ?_) (fun c22 => ?_)
      · skip
        have f23 : ((V 5 9)).toInt ≠ 3 := b_neq rfl (by decide) c22
        refine lv_aload_n hx hb dX5_goOnClosing_81 rfl (lv_at hl 2 rfl) ?_
        refine lv_iconst (v := 0) hx hb dX5_goOnClosing_82 (by decide) ?_
        have r24 : Int32.toInt 0 = 0 := by decide
        refine gA_void (gA_runV (As := [.int 0]) (rest := []) (ci := 5) (q0 := 5) hx hb hml hown hg hP hD hK hS hA hnw hgk (x_answerWith2 l D ks H.size ad kk V L Z 0 hMV ) w1304 w1306 w49 w171 w1307 rfl xgMachine hdV_yX5_answerWith ⟨Nat.le_of_ble_eq_true rfl, Nat.le_of_ble_eq_true rfl⟩ rfl hl.1 rfl (Nat.le_of_ble_eq_true rfl) dX5_goOnClosing_83 ⟨z0, z0⟩) hP hD hK hS hA (fun u26 H locs w27 hP hD hK hS => ?_)
        obtain ⟨V30, L31⟩ := u26
        obtain ⟨hMV30, ajV30, axL31, t28, t29⟩ := w27
        have axL31 : L = L31 := Eq.symm axL31
        subst axL31
        have hP : va_P D vwCl (xw ad kk V30 L Z) H := hP
        have hD : va_D A (xw ad kk V30 L Z) := hD
        have hMV30 : rgd bX V30 := hMV30
        have ajV30 : agr [(5, 9), (5, 10)] [] V V30 := ajV30
        have agV30 : agr [(4, 6), (5, 6), (5, 9), (5, 10)] [25, 28, 36, 37, 67, 68, 69, 70, 71, 72, 73, 74, 75, 76, 77, 78, 79, 80, 81, 82, 83, 84, 85] V V30 := agV.tr ajV30 (by decide) (by decide)
        have t28 : (V30 5 9).toInt = 1 := t28
        have t29 : (V30 5 10).toInt = (Int32.toInt 0) := t29
        have r32 : 0 ≤ ((V30 5 9)).toInt ∧ ((V30 5 9)).toInt ≤ 3 := hMV30 5 9
        refine lv_aload_n hx hb dX5_goOnClosing_86 rfl (lv_at hl 2 rfl) ?_
        refine va_get (D := D) (ci := 5) (v := .ref (ad 4)) (fs := (xfMachine ad V30 L Z)) (C := RX5) (T := TX5) (N := 15) hx hb hg inX5 hown hK hP 5 xgMachine rfl 1 (by decide) (hg _ w668) (fun _ h9 => h9) rfl dX5_goOnClosing_87 ?_
        refine lv_aload_n hx hb dX5_goOnClosing_90 rfl (lv_at hl 3 rfl) ?_
        refine va_getN (D := D) (ci := 4) (v := .int (V30 70 gf)) (fs := (xfFrame V30 gf)) (C := RX4) (T := TX4) (N := 19) hx hb hg inX4 hown hK hP (336 + gf) (xgFrame hgf) rfl 3 (by decide) (hnw.use 1192 n1192 rfl) (fun _ h9 => h9) rfl dX5_goOnClosing_91 ?_
        refine g_top (v := (V 70 gf)) (ajV30 70 gf rfl) ?_
        refine lv_iload_n hx hb dX5_goOnClosing_94 rfl (lv_at hl 0 rfl) ?_
        refine gA_void (gA_runV (As := [.int (V 70 gf), .int 0]) (rest := []) (ci := 7) (q0 := 4) hx hb hml hown hg hP hD hK hS hA hnw hgk (x_NnoteClosing l D ks H.size ad kk V30 L Z (V 70 gf) 0 hMV30 ) w1497 w1498 w1499 w166 w1500 rfl xgNotes hdV_yX7_noteClosing ⟨Nat.le_of_ble_eq_true rfl, Nat.le_of_ble_eq_true rfl⟩ rfl hl.1 rfl (Nat.le_of_ble_eq_true rfl) dX5_goOnClosing_95 ⟨z0, z0⟩) hP hD hK hS hA (fun u34 H locs w35 hP hD hK hS => ?_)
        obtain ⟨V36, L37⟩ := u34
        obtain ⟨hMV36, ajV36, axL37⟩ := w35
        have axL37 : L = L37 := Eq.symm axL37
        subst axL37
        have hP : va_P D vwCl (xw ad kk V36 L Z) H := hP
        have hD : va_D A (xw ad kk V36 L Z) := hD
        have hMV36 : rgd bX V36 := hMV36
        have ajV36 : agr [(4, 6)] [36, 37] V30 V36 := ajV36
        have agV36 : agr [(4, 6), (5, 6), (5, 9), (5, 10)] [25, 28, 36, 37, 67, 68, 69, 70, 71, 72, 73, 74, 75, 76, 77, 78, 79, 80, 81, 82, 83, 84, 85] V V36 := agV30.tr ajV36 (by decide) (by decide)
        refine lv_aload_n hx hb dX5_goOnClosing_98 rfl (lv_at hl 2 rfl) ?_
        refine va_get (D := D) (ci := 5) (v := .ref (ad 3)) (fs := (xfMachine ad V36 L Z)) (C := RX5) (T := TX5) (N := 15) hx hb hg inX5 hown hK hP 5 xgMachine rfl 0 (by decide) (hg _ w667) (fun _ h9 => h9) rfl dX5_goOnClosing_99 ?_
        refine lv_aload_n hx hb dX5_goOnClosing_102 rfl (lv_at hl 3 rfl) ?_
        refine va_getN (D := D) (ci := 4) (v := .int (V36 70 gf)) (fs := (xfFrame V36 gf)) (C := RX4) (T := TX4) (N := 19) hx hb hg inX4 hown hK hP (336 + gf) (xgFrame hgf) rfl 3 (by decide) (hnw.use 1192 n1192 rfl) (fun _ h9 => h9) rfl dX5_goOnClosing_103 ?_
        refine g_top (v := (V 70 gf)) ((ajV36 70 gf rfl).trans (ajV30 70 gf rfl)) ?_
        refine gA_void (gA_runV (As := [.int (V 70 gf)]) (rest := []) (ci := 8) (q0 := 3) hx hb hml hown hg hP hD hK hS hA hnw hgk (x_dropObject2 l D ks H.size ad kk V36 L Z (V 70 gf) hMV36 (by omega)) w1336 w1337 w1338 w164 w1339 rfl xgStock hdV_yX8_dropObject ⟨Nat.le_of_ble_eq_true rfl, Nat.le_of_ble_eq_true rfl⟩ rfl hl.1 rfl (Nat.le_of_ble_eq_true rfl) dX5_goOnClosing_106 ⟨z0, z0⟩) hP hD hK hS hA (fun u39 H locs w40 hP hD hK hS => ?_)
        obtain ⟨V42, L43⟩ := u39
        obtain ⟨hMV42, ajV42, axL43, t41⟩ := w40
        have axL43 : L = L43 := Eq.symm axL43
        subst axL43
        have hP : va_P D vwCl (xw ad kk V42 L Z) H := hP
        have hD : va_D A (xw ad kk V42 L Z) := hD
        have hMV42 : rgd bX V42 := hMV42
        have ajV42 : agr [] [25, 28] V36 V42 := ajV42
        have agV42 : agr [(4, 6), (5, 6), (5, 9), (5, 10)] [25, 28, 36, 37, 67, 68, 69, 70, 71, 72, 73, 74, 75, 76, 77, 78, 79, 80, 81, 82, 83, 84, 85] V V42 := agV36.tr ajV42 (by decide) (by decide)
        have t41 : ∀ n, ME V36 V42 n := t41
        refine lv_aload_n hx hb dX5_goOnClosing_109 rfl (lv_at hl 2 rfl) ?_
        have pq44 : (V42 5 6).toInt = ((V 5 6)).toInt := congrArg Int32.toInt ((ajV42 5 6 rfl).trans ((ajV36 5 6 rfl).trans (ajV30 5 6 rfl)))
        refine gA_void (gA_runV (As := []) (rest := []) (ci := 5) (q0 := 5) hx hb hml hown hg hP hD hK hS hA hnw hgk (x_leave l D ks H.size ad kk V42 L Z  hMV42 (show 1 ≤ (V42 5 6).toInt from by (first | exact om_0cac171fa40c gd pq44 | omega))) w1308 w1310 w50 w171 w1311 rfl xgMachine hdV_yX5_leave ⟨Nat.le_of_ble_eq_true rfl, Nat.le_of_ble_eq_true rfl⟩ rfl hl.1 rfl (Nat.le_of_ble_eq_true rfl) dX5_goOnClosing_110 ⟨z0, z0⟩) hP hD hK hS hA (fun u46 H locs w47 hP hD hK hS => ?_)
        obtain ⟨V49, L50⟩ := u46
        obtain ⟨hMV49, ajV49, axL50, t48⟩ := w47
        have axL50 : L = L50 := Eq.symm axL50
        subst axL50
        have hP : va_P D vwCl (xw ad kk V49 L Z) H := hP
        have hD : va_D A (xw ad kk V49 L Z) := hD
        have hMV49 : rgd bX V49 := hMV49
        have ajV49 : agr [(5, 6)] [] V42 V49 := ajV49
        have agV49 : agr [(4, 6), (5, 6), (5, 9), (5, 10)] [25, 28, 36, 37, 67, 68, 69, 70, 71, 72, 73, 74, 75, 76, 77, 78, 79, 80, 81, 82, 83, 84, 85] V V49 := agV42.tr ajV49 (by decide) (by decide)
        have t48 : (V49 5 6).toInt = (V42 5 6).toInt - 1 := t48
        have r51 : 0 ≤ ((V49 5 6)).toInt ∧ ((V49 5 6)).toInt ≤ 400 := hMV49 5 6
        have me52 : ME V V49 gf := (ME.tr (ME.tr (ME.tr (ME.tr ME.rf (ME.ag ajV30 (by decide))) (ME.ag ajV36 (by decide))) (t41 _)) (ME.ag ajV49 (by decide)))
        have pq53 : (V49 67 gf).toInt = ((V 67 gf)).toInt := congrArg Int32.toInt ((ajV49 67 gf rfl).trans ((ajV42 67 gf rfl).trans ((ajV36 67 gf rfl).trans (ajV30 67 gf rfl))))
        have pq54 : (V49 68 gf).toInt = ((V 68 gf)).toInt := congrArg Int32.toInt ((ajV49 68 gf rfl).trans ((ajV42 68 gf rfl).trans ((ajV36 68 gf rfl).trans (ajV30 68 gf rfl))))
        have pq55 : (V49 70 gf).toInt = ((V 70 gf)).toInt := congrArg Int32.toInt ((ajV49 70 gf rfl).trans ((ajV42 70 gf rfl).trans ((ajV36 70 gf rfl).trans (ajV30 70 gf rfl))))
        have pq56 : (V49 71 gf).toInt = ((V 71 gf)).toInt := congrArg Int32.toInt ((ajV49 71 gf rfl).trans ((ajV42 71 gf rfl).trans ((ajV36 71 gf rfl).trans (ajV30 71 gf rfl))))
        have pq57 : (V49 75 gf).toInt = ((V 75 gf)).toInt := congrArg Int32.toInt ((ajV49 75 gf rfl).trans ((ajV42 75 gf rfl).trans ((ajV36 75 gf rfl).trans (ajV30 75 gf rfl))))
        have pq58 : (V49 76 gf).toInt = ((V 76 gf)).toInt := congrArg Int32.toInt ((ajV49 76 gf rfl).trans ((ajV42 76 gf rfl).trans ((ajV36 76 gf rfl).trans (ajV30 76 gf rfl))))
        have pq59 : (V49 80 gf).toInt = ((V 80 gf)).toInt := congrArg Int32.toInt ((ajV49 80 gf rfl).trans ((ajV42 80 gf rfl).trans ((ajV36 80 gf rfl).trans (ajV30 80 gf rfl))))
        have pq60 : (V49 84 gf).toInt = ((V 84 gf)).toInt := congrArg Int32.toInt ((ajV49 84 gf rfl).trans ((ajV42 84 gf rfl).trans ((ajV36 84 gf rfl).trans (ajV30 84 gf rfl))))
        have pq61 : (V49 5 8).toInt = ((V 5 8)).toInt := congrArg Int32.toInt ((ajV49 5 8 rfl).trans ((ajV42 5 8 rfl).trans ((ajV36 5 8 rfl).trans (ajV30 5 8 rfl))))
        have pq62 : (V49 5 9).toInt = ((V30 5 9)).toInt := congrArg Int32.toInt ((ajV49 5 9 rfl).trans ((ajV42 5 9 rfl).trans (ajV36 5 9 rfl)))
        have pq63 : (V49 3 13).toInt = ((V 3 13)).toInt := congrArg Int32.toInt ((ajV49 3 13 rfl).trans ((ajV42 3 13 rfl).trans ((ajV36 3 13 rfl).trans (ajV30 3 13 rfl))))
        have pq64 : (V49 43 (5 * b + 2)).toInt = ((V 43 (5 * b + 2))).toInt := congrArg Int32.toInt ((ajV49 43 (5 * b + 2) rfl).trans ((ajV42 43 (5 * b + 2) rfl).trans ((ajV36 43 (5 * b + 2) rfl).trans (ajV30 43 (5 * b + 2) rfl))))
        have pq65 : (V49 42 b).toInt = ((V 42 b)).toInt := congrArg Int32.toInt ((ajV49 42 b rfl).trans ((ajV42 42 b rfl).trans ((ajV36 42 b rfl).trans (ajV30 42 b rfl))))
        have pq66 : (V49 41 b).toInt = ((V 41 b)).toInt := congrArg Int32.toInt ((ajV49 41 b rfl).trans ((ajV42 41 b rfl).trans ((ajV36 41 b rfl).trans (ajV30 41 b rfl))))
        have rp67 : MJ V49 Z b := MP.lv (MO.mp mo) me52 (by (first | exact om_5ac7632c8ef3 gd pq44 t48 | omega)) (fun _ => Or.inl (by omega))
        refine W.know (fun kr1 kr2 => ?_)
        refine W.widen (k := zcc Z) (n := zss Z) (Nat.sub_le _ _) (Nat.sub_le _ _) ?_
        exact W.vret hx hb hr (fun t ht hW => ⟨⟨(V49, L, Z), rfl, ⟨hMV49, agV49, rfl, zoZ, rp67⟩, ⟨by rw [ht]; exact hP, va_K.moved hW.alike hK, hD⟩, by rw [ht]; exact kr1, by rw [ht]; exact kr2⟩, hS.F ht⟩) hS.2.2 dX5_goOnClosing_113
      · skip
        have f68 : ((V 5 9)).toInt = 3 := b_eq rfl (by decide) c22
        refine lv_bipush (v := 18) hx hb dX5_goOnClosing_75 (by decide) ?_
        refine lv_istore_n (lv' := [(3, .int 18), (2, .int (V 57 (24 * b + (Int32.toNatClampNeg (V 71 gf))))), (0, .ref (ad 5)), (1, .ref (Z.fa gf))]) hx hb dX5_goOnClosing_77 rfl hl (by decide) rfl (fun ls hl => ?_)
        refine lv_goto (tgt := 86) hx hb dX5_goOnClosing_78 (by decide) ?_
        refine lv_aload_n hx hb dX5_goOnClosing_86 rfl (lv_at hl 2 rfl) ?_
        refine va_get (D := D) (ci := 5) (v := .ref (ad 4)) (fs := (xfMachine ad V L Z)) (C := RX5) (T := TX5) (N := 15) hx hb hg inX5 hown hK hP 5 xgMachine rfl 1 (by decide) (hg _ w668) (fun _ h9 => h9) rfl dX5_goOnClosing_87 ?_
        refine lv_aload_n hx hb dX5_goOnClosing_90 rfl (lv_at hl 3 rfl) ?_
        refine va_getN (D := D) (ci := 4) (v := .int (V 70 gf)) (fs := (xfFrame V gf)) (C := RX4) (T := TX4) (N := 19) hx hb hg inX4 hown hK hP (336 + gf) (xgFrame hgf) rfl 3 (by decide) (hnw.use 1192 n1192 rfl) (fun _ h9 => h9) rfl dX5_goOnClosing_91 ?_
        refine lv_iload_n hx hb dX5_goOnClosing_94 rfl (lv_at hl 0 rfl) ?_
        have r69 : Int32.toInt 18 = 18 := by decide
        refine gA_void (gA_runV (As := [.int (V 70 gf), .int 18]) (rest := []) (ci := 7) (q0 := 4) hx hb hml hown hg hP hD hK hS hA hnw hgk (x_NnoteClosing l D ks H.size ad kk V L Z (V 70 gf) 18 hMV ) w1497 w1498 w1499 w166 w1500 rfl xgNotes hdV_yX7_noteClosing ⟨Nat.le_of_ble_eq_true rfl, Nat.le_of_ble_eq_true rfl⟩ rfl hl.1 rfl (Nat.le_of_ble_eq_true rfl) dX5_goOnClosing_95 ⟨z0, z0⟩) hP hD hK hS hA (fun u71 H locs w72 hP hD hK hS => ?_)
        obtain ⟨V73, L74⟩ := u71
        obtain ⟨hMV73, ajV73, axL74⟩ := w72
        have axL74 : L = L74 := Eq.symm axL74
        subst axL74
        have hP : va_P D vwCl (xw ad kk V73 L Z) H := hP
        have hD : va_D A (xw ad kk V73 L Z) := hD
        have hMV73 : rgd bX V73 := hMV73
        have ajV73 : agr [(4, 6)] [36, 37] V V73 := ajV73
        have agV73 : agr [(4, 6), (5, 6), (5, 9), (5, 10)] [25, 28, 36, 37, 67, 68, 69, 70, 71, 72, 73, 74, 75, 76, 77, 78, 79, 80, 81, 82, 83, 84, 85] V V73 := agV.tr ajV73 (by decide) (by decide)
        refine lv_aload_n hx hb dX5_goOnClosing_98 rfl (lv_at hl 2 rfl) ?_
        refine va_get (D := D) (ci := 5) (v := .ref (ad 3)) (fs := (xfMachine ad V73 L Z)) (C := RX5) (T := TX5) (N := 15) hx hb hg inX5 hown hK hP 5 xgMachine rfl 0 (by decide) (hg _ w667) (fun _ h9 => h9) rfl dX5_goOnClosing_99 ?_
        refine lv_aload_n hx hb dX5_goOnClosing_102 rfl (lv_at hl 3 rfl) ?_
        refine va_getN (D := D) (ci := 4) (v := .int (V73 70 gf)) (fs := (xfFrame V73 gf)) (C := RX4) (T := TX4) (N := 19) hx hb hg inX4 hown hK hP (336 + gf) (xgFrame hgf) rfl 3 (by decide) (hnw.use 1192 n1192 rfl) (fun _ h9 => h9) rfl dX5_goOnClosing_103 ?_
        refine g_top (v := (V 70 gf)) (ajV73 70 gf rfl) ?_
        refine gA_void (gA_runV (As := [.int (V 70 gf)]) (rest := []) (ci := 8) (q0 := 3) hx hb hml hown hg hP hD hK hS hA hnw hgk (x_dropObject2 l D ks H.size ad kk V73 L Z (V 70 gf) hMV73 (by omega)) w1336 w1337 w1338 w164 w1339 rfl xgStock hdV_yX8_dropObject ⟨Nat.le_of_ble_eq_true rfl, Nat.le_of_ble_eq_true rfl⟩ rfl hl.1 rfl (Nat.le_of_ble_eq_true rfl) dX5_goOnClosing_106 ⟨z0, z0⟩) hP hD hK hS hA (fun u76 H locs w77 hP hD hK hS => ?_)
        obtain ⟨V79, L80⟩ := u76
        obtain ⟨hMV79, ajV79, axL80, t78⟩ := w77
        have axL80 : L = L80 := Eq.symm axL80
        subst axL80
        have hP : va_P D vwCl (xw ad kk V79 L Z) H := hP
        have hD : va_D A (xw ad kk V79 L Z) := hD
        have hMV79 : rgd bX V79 := hMV79
        have ajV79 : agr [] [25, 28] V73 V79 := ajV79
        have agV79 : agr [(4, 6), (5, 6), (5, 9), (5, 10)] [25, 28, 36, 37, 67, 68, 69, 70, 71, 72, 73, 74, 75, 76, 77, 78, 79, 80, 81, 82, 83, 84, 85] V V79 := agV73.tr ajV79 (by decide) (by decide)
        have t78 : ∀ n, ME V73 V79 n := t78
        refine lv_aload_n hx hb dX5_goOnClosing_109 rfl (lv_at hl 2 rfl) ?_
        have pq81 : (V79 5 6).toInt = ((V 5 6)).toInt := congrArg Int32.toInt ((ajV79 5 6 rfl).trans (ajV73 5 6 rfl))
        refine gA_void (gA_runV (As := []) (rest := []) (ci := 5) (q0 := 5) hx hb hml hown hg hP hD hK hS hA hnw hgk (x_leave l D ks H.size ad kk V79 L Z  hMV79 (show 1 ≤ (V79 5 6).toInt from by (first | exact om_0cac171fa40c gd pq81 | omega))) w1308 w1310 w50 w171 w1311 rfl xgMachine hdV_yX5_leave ⟨Nat.le_of_ble_eq_true rfl, Nat.le_of_ble_eq_true rfl⟩ rfl hl.1 rfl (Nat.le_of_ble_eq_true rfl) dX5_goOnClosing_110 ⟨z0, z0⟩) hP hD hK hS hA (fun u83 H locs w84 hP hD hK hS => ?_)
        obtain ⟨V86, L87⟩ := u83
        obtain ⟨hMV86, ajV86, axL87, t85⟩ := w84
        have axL87 : L = L87 := Eq.symm axL87
        subst axL87
        have hP : va_P D vwCl (xw ad kk V86 L Z) H := hP
        have hD : va_D A (xw ad kk V86 L Z) := hD
        have hMV86 : rgd bX V86 := hMV86
        have ajV86 : agr [(5, 6)] [] V79 V86 := ajV86
        have agV86 : agr [(4, 6), (5, 6), (5, 9), (5, 10)] [25, 28, 36, 37, 67, 68, 69, 70, 71, 72, 73, 74, 75, 76, 77, 78, 79, 80, 81, 82, 83, 84, 85] V V86 := agV79.tr ajV86 (by decide) (by decide)
        have t85 : (V86 5 6).toInt = (V79 5 6).toInt - 1 := t85
        have r88 : 0 ≤ ((V86 5 6)).toInt ∧ ((V86 5 6)).toInt ≤ 400 := hMV86 5 6
        have me89 : ME V V86 gf := (ME.tr (ME.tr (ME.tr ME.rf (ME.ag ajV73 (by decide))) (t78 _)) (ME.ag ajV86 (by decide)))
        have pq90 : (V86 67 gf).toInt = ((V 67 gf)).toInt := congrArg Int32.toInt ((ajV86 67 gf rfl).trans ((ajV79 67 gf rfl).trans (ajV73 67 gf rfl)))
        have pq91 : (V86 68 gf).toInt = ((V 68 gf)).toInt := congrArg Int32.toInt ((ajV86 68 gf rfl).trans ((ajV79 68 gf rfl).trans (ajV73 68 gf rfl)))
        have pq92 : (V86 70 gf).toInt = ((V 70 gf)).toInt := congrArg Int32.toInt ((ajV86 70 gf rfl).trans ((ajV79 70 gf rfl).trans (ajV73 70 gf rfl)))
        have pq93 : (V86 71 gf).toInt = ((V 71 gf)).toInt := congrArg Int32.toInt ((ajV86 71 gf rfl).trans ((ajV79 71 gf rfl).trans (ajV73 71 gf rfl)))
        have pq94 : (V86 75 gf).toInt = ((V 75 gf)).toInt := congrArg Int32.toInt ((ajV86 75 gf rfl).trans ((ajV79 75 gf rfl).trans (ajV73 75 gf rfl)))
        have pq95 : (V86 76 gf).toInt = ((V 76 gf)).toInt := congrArg Int32.toInt ((ajV86 76 gf rfl).trans ((ajV79 76 gf rfl).trans (ajV73 76 gf rfl)))
        have pq96 : (V86 80 gf).toInt = ((V 80 gf)).toInt := congrArg Int32.toInt ((ajV86 80 gf rfl).trans ((ajV79 80 gf rfl).trans (ajV73 80 gf rfl)))
        have pq97 : (V86 84 gf).toInt = ((V 84 gf)).toInt := congrArg Int32.toInt ((ajV86 84 gf rfl).trans ((ajV79 84 gf rfl).trans (ajV73 84 gf rfl)))
        have pq98 : (V86 5 8).toInt = ((V 5 8)).toInt := congrArg Int32.toInt ((ajV86 5 8 rfl).trans ((ajV79 5 8 rfl).trans (ajV73 5 8 rfl)))
        have pq99 : (V86 5 9).toInt = ((V 5 9)).toInt := congrArg Int32.toInt ((ajV86 5 9 rfl).trans ((ajV79 5 9 rfl).trans (ajV73 5 9 rfl)))
        have pq100 : (V86 3 13).toInt = ((V 3 13)).toInt := congrArg Int32.toInt ((ajV86 3 13 rfl).trans ((ajV79 3 13 rfl).trans (ajV73 3 13 rfl)))
        have pq101 : (V86 43 (5 * b + 2)).toInt = ((V 43 (5 * b + 2))).toInt := congrArg Int32.toInt ((ajV86 43 (5 * b + 2) rfl).trans ((ajV79 43 (5 * b + 2) rfl).trans (ajV73 43 (5 * b + 2) rfl)))
        have pq102 : (V86 42 b).toInt = ((V 42 b)).toInt := congrArg Int32.toInt ((ajV86 42 b rfl).trans ((ajV79 42 b rfl).trans (ajV73 42 b rfl)))
        have pq103 : (V86 41 b).toInt = ((V 41 b)).toInt := congrArg Int32.toInt ((ajV86 41 b rfl).trans ((ajV79 41 b rfl).trans (ajV73 41 b rfl)))
        have rp104 : MJ V86 Z b := MP.lv (MO.mp mo) me89 (by (first | exact om_5ac7632c8ef3 gd pq81 t85 | omega)) (fun _ => Or.inl (by omega))
        refine W.know (fun kr1 kr2 => ?_)
        refine W.widen (k := zcc Z) (n := zss Z) (Nat.sub_le _ _) (Nat.sub_le _ _) ?_
        exact W.vret hx hb hr (fun t ht hW => ⟨⟨(V86, L, Z), rfl, ⟨hMV86, agV86, rfl, zoZ, rp104⟩, ⟨by rw [ht]; exact hP, va_K.moved hW.alike hK, hD⟩, by rw [ht]; exact kr1, by rw [ht]; exact kr2⟩, hS.F ht⟩) hS.2.2 dX5_goOnClosing_113
    · skip
      have f105 : ((V 5 9)).toInt = 2 := b_eq rfl (by decide) c20
      refine lv_aload_n hx hb dX5_goOnClosing_52 rfl (lv_at hl 2 rfl) ?_
      refine va_get (D := D) (ci := 5) (v := .int (V 5 11)) (fs := (xfMachine ad V L Z)) (C := RX5) (T := TX5) (N := 15) hx hb hg inX5 hown hK hP 5 xgMachine rfl 11 (by decide) (hg _ w678) (fun _ h9 => h9) rfl dX5_goOnClosing_53 ?_
      refine lv_aload_n hx hb dX5_goOnClosing_56 rfl (lv_at hl 2 rfl) ?_
      refine va_get (D := D) (ci := 5) (v := .int (V 5 12)) (fs := (xfMachine ad V L Z)) (C := RX5) (T := TX5) (N := 15) hx hb hg inX5 hown hK hP 5 xgMachine rfl 12 (by decide) (hg _ w679) (fun _ h9 => h9) rfl dX5_goOnClosing_57 ?_
      refine gE_int (g_runS (As := [.int (V 5 11), .int (V 5 12)]) (rest := []) (wc := []) (tc := []) hx hb hml hown hg gw_self hP hD hK hS hA hnw hgk [] [] (by decide) rfl rfl (x_firstKind l D ks H.size (V 5 11) (V 5 12) ) w1400 w1401 w171 w1402 hdS_yX5_firstKind ⟨Nat.le_of_ble_eq_true rfl, Nat.le_of_ble_eq_true rfl⟩ rfl hl.1 rfl (Nat.le_of_ble_eq_true rfl) dX5_goOnClosing_60 ⟨z0, z0⟩) hP hD hK hS hA (fun z106 u107 H locs w108 hP hD hK hS => ?_)
      refine lv_istore_n (lv' := [(3, .int z106), (2, .int (V 57 (24 * b + (Int32.toNatClampNeg (V 71 gf))))), (0, .ref (ad 5)), (1, .ref (Z.fa gf))]) hx hb dX5_goOnClosing_63 rfl hl (by decide) rfl (fun ls hl => ?_)
      refine lv_goto (tgt := 86) hx hb dX5_goOnClosing_64 (by decide) ?_
      refine lv_aload_n hx hb dX5_goOnClosing_86 rfl (lv_at hl 2 rfl) ?_
      refine va_get (D := D) (ci := 5) (v := .ref (ad 4)) (fs := (xfMachine ad V L Z)) (C := RX5) (T := TX5) (N := 15) hx hb hg inX5 hown hK hP 5 xgMachine rfl 1 (by decide) (hg _ w668) (fun _ h9 => h9) rfl dX5_goOnClosing_87 ?_
      refine lv_aload_n hx hb dX5_goOnClosing_90 rfl (lv_at hl 3 rfl) ?_
      refine va_getN (D := D) (ci := 4) (v := .int (V 70 gf)) (fs := (xfFrame V gf)) (C := RX4) (T := TX4) (N := 19) hx hb hg inX4 hown hK hP (336 + gf) (xgFrame hgf) rfl 3 (by decide) (hnw.use 1192 n1192 rfl) (fun _ h9 => h9) rfl dX5_goOnClosing_91 ?_
      refine lv_iload_n hx hb dX5_goOnClosing_94 rfl (lv_at hl 0 rfl) ?_
      refine gA_void (gA_runV (As := [.int (V 70 gf), .int z106]) (rest := []) (ci := 7) (q0 := 4) hx hb hml hown hg hP hD hK hS hA hnw hgk (x_NnoteClosing l D ks H.size ad kk V L Z (V 70 gf) z106 hMV ) w1497 w1498 w1499 w166 w1500 rfl xgNotes hdV_yX7_noteClosing ⟨Nat.le_of_ble_eq_true rfl, Nat.le_of_ble_eq_true rfl⟩ rfl hl.1 rfl (Nat.le_of_ble_eq_true rfl) dX5_goOnClosing_95 ⟨z0, z0⟩) hP hD hK hS hA (fun u110 H locs w111 hP hD hK hS => ?_)
      obtain ⟨V112, L113⟩ := u110
      obtain ⟨hMV112, ajV112, axL113⟩ := w111
      have axL113 : L = L113 := Eq.symm axL113
      subst axL113
      have hP : va_P D vwCl (xw ad kk V112 L Z) H := hP
      have hD : va_D A (xw ad kk V112 L Z) := hD
      have hMV112 : rgd bX V112 := hMV112
      have ajV112 : agr [(4, 6)] [36, 37] V V112 := ajV112
      have agV112 : agr [(4, 6), (5, 6), (5, 9), (5, 10)] [25, 28, 36, 37, 67, 68, 69, 70, 71, 72, 73, 74, 75, 76, 77, 78, 79, 80, 81, 82, 83, 84, 85] V V112 := agV.tr ajV112 (by decide) (by decide)
      refine lv_aload_n hx hb dX5_goOnClosing_98 rfl (lv_at hl 2 rfl) ?_
      refine va_get (D := D) (ci := 5) (v := .ref (ad 3)) (fs := (xfMachine ad V112 L Z)) (C := RX5) (T := TX5) (N := 15) hx hb hg inX5 hown hK hP 5 xgMachine rfl 0 (by decide) (hg _ w667) (fun _ h9 => h9) rfl dX5_goOnClosing_99 ?_
      refine lv_aload_n hx hb dX5_goOnClosing_102 rfl (lv_at hl 3 rfl) ?_
      refine va_getN (D := D) (ci := 4) (v := .int (V112 70 gf)) (fs := (xfFrame V112 gf)) (C := RX4) (T := TX4) (N := 19) hx hb hg inX4 hown hK hP (336 + gf) (xgFrame hgf) rfl 3 (by decide) (hnw.use 1192 n1192 rfl) (fun _ h9 => h9) rfl dX5_goOnClosing_103 ?_
      refine g_top (v := (V 70 gf)) (ajV112 70 gf rfl) ?_
      refine gA_void (gA_runV (As := [.int (V 70 gf)]) (rest := []) (ci := 8) (q0 := 3) hx hb hml hown hg hP hD hK hS hA hnw hgk (x_dropObject2 l D ks H.size ad kk V112 L Z (V 70 gf) hMV112 (by omega)) w1336 w1337 w1338 w164 w1339 rfl xgStock hdV_yX8_dropObject ⟨Nat.le_of_ble_eq_true rfl, Nat.le_of_ble_eq_true rfl⟩ rfl hl.1 rfl (Nat.le_of_ble_eq_true rfl) dX5_goOnClosing_106 ⟨z0, z0⟩) hP hD hK hS hA (fun u115 H locs w116 hP hD hK hS => ?_)
      obtain ⟨V118, L119⟩ := u115
      obtain ⟨hMV118, ajV118, axL119, t117⟩ := w116
      have axL119 : L = L119 := Eq.symm axL119
      subst axL119
      have hP : va_P D vwCl (xw ad kk V118 L Z) H := hP
      have hD : va_D A (xw ad kk V118 L Z) := hD
      have hMV118 : rgd bX V118 := hMV118
      have ajV118 : agr [] [25, 28] V112 V118 := ajV118
      have agV118 : agr [(4, 6), (5, 6), (5, 9), (5, 10)] [25, 28, 36, 37, 67, 68, 69, 70, 71, 72, 73, 74, 75, 76, 77, 78, 79, 80, 81, 82, 83, 84, 85] V V118 := agV112.tr ajV118 (by decide) (by decide)
      have t117 : ∀ n, ME V112 V118 n := t117
      refine lv_aload_n hx hb dX5_goOnClosing_109 rfl (lv_at hl 2 rfl) ?_
      have pq120 : (V118 5 6).toInt = ((V 5 6)).toInt := congrArg Int32.toInt ((ajV118 5 6 rfl).trans (ajV112 5 6 rfl))
      refine gA_void (gA_runV (As := []) (rest := []) (ci := 5) (q0 := 5) hx hb hml hown hg hP hD hK hS hA hnw hgk (x_leave l D ks H.size ad kk V118 L Z  hMV118 (show 1 ≤ (V118 5 6).toInt from by (first | exact om_0cac171fa40c gd pq120 | omega))) w1308 w1310 w50 w171 w1311 rfl xgMachine hdV_yX5_leave ⟨Nat.le_of_ble_eq_true rfl, Nat.le_of_ble_eq_true rfl⟩ rfl hl.1 rfl (Nat.le_of_ble_eq_true rfl) dX5_goOnClosing_110 ⟨z0, z0⟩) hP hD hK hS hA (fun u122 H locs w123 hP hD hK hS => ?_)
      obtain ⟨V125, L126⟩ := u122
      obtain ⟨hMV125, ajV125, axL126, t124⟩ := w123
      have axL126 : L = L126 := Eq.symm axL126
      subst axL126
      have hP : va_P D vwCl (xw ad kk V125 L Z) H := hP
      have hD : va_D A (xw ad kk V125 L Z) := hD
      have hMV125 : rgd bX V125 := hMV125
      have ajV125 : agr [(5, 6)] [] V118 V125 := ajV125
      have agV125 : agr [(4, 6), (5, 6), (5, 9), (5, 10)] [25, 28, 36, 37, 67, 68, 69, 70, 71, 72, 73, 74, 75, 76, 77, 78, 79, 80, 81, 82, 83, 84, 85] V V125 := agV118.tr ajV125 (by decide) (by decide)
      have t124 : (V125 5 6).toInt = (V118 5 6).toInt - 1 := t124
      have r127 : 0 ≤ ((V125 5 6)).toInt ∧ ((V125 5 6)).toInt ≤ 400 := hMV125 5 6
      have me128 : ME V V125 gf := (ME.tr (ME.tr (ME.tr ME.rf (ME.ag ajV112 (by decide))) (t117 _)) (ME.ag ajV125 (by decide)))
      have pq129 : (V125 67 gf).toInt = ((V 67 gf)).toInt := congrArg Int32.toInt ((ajV125 67 gf rfl).trans ((ajV118 67 gf rfl).trans (ajV112 67 gf rfl)))
      have pq130 : (V125 68 gf).toInt = ((V 68 gf)).toInt := congrArg Int32.toInt ((ajV125 68 gf rfl).trans ((ajV118 68 gf rfl).trans (ajV112 68 gf rfl)))
      have pq131 : (V125 70 gf).toInt = ((V 70 gf)).toInt := congrArg Int32.toInt ((ajV125 70 gf rfl).trans ((ajV118 70 gf rfl).trans (ajV112 70 gf rfl)))
      have pq132 : (V125 71 gf).toInt = ((V 71 gf)).toInt := congrArg Int32.toInt ((ajV125 71 gf rfl).trans ((ajV118 71 gf rfl).trans (ajV112 71 gf rfl)))
      have pq133 : (V125 75 gf).toInt = ((V 75 gf)).toInt := congrArg Int32.toInt ((ajV125 75 gf rfl).trans ((ajV118 75 gf rfl).trans (ajV112 75 gf rfl)))
      have pq134 : (V125 76 gf).toInt = ((V 76 gf)).toInt := congrArg Int32.toInt ((ajV125 76 gf rfl).trans ((ajV118 76 gf rfl).trans (ajV112 76 gf rfl)))
      have pq135 : (V125 80 gf).toInt = ((V 80 gf)).toInt := congrArg Int32.toInt ((ajV125 80 gf rfl).trans ((ajV118 80 gf rfl).trans (ajV112 80 gf rfl)))
      have pq136 : (V125 84 gf).toInt = ((V 84 gf)).toInt := congrArg Int32.toInt ((ajV125 84 gf rfl).trans ((ajV118 84 gf rfl).trans (ajV112 84 gf rfl)))
      have pq137 : (V125 5 8).toInt = ((V 5 8)).toInt := congrArg Int32.toInt ((ajV125 5 8 rfl).trans ((ajV118 5 8 rfl).trans (ajV112 5 8 rfl)))
      have pq138 : (V125 5 9).toInt = ((V 5 9)).toInt := congrArg Int32.toInt ((ajV125 5 9 rfl).trans ((ajV118 5 9 rfl).trans (ajV112 5 9 rfl)))
      have pq139 : (V125 3 13).toInt = ((V 3 13)).toInt := congrArg Int32.toInt ((ajV125 3 13 rfl).trans ((ajV118 3 13 rfl).trans (ajV112 3 13 rfl)))
      have pq140 : (V125 43 (5 * b + 2)).toInt = ((V 43 (5 * b + 2))).toInt := congrArg Int32.toInt ((ajV125 43 (5 * b + 2) rfl).trans ((ajV118 43 (5 * b + 2) rfl).trans (ajV112 43 (5 * b + 2) rfl)))
      have pq141 : (V125 42 b).toInt = ((V 42 b)).toInt := congrArg Int32.toInt ((ajV125 42 b rfl).trans ((ajV118 42 b rfl).trans (ajV112 42 b rfl)))
      have pq142 : (V125 41 b).toInt = ((V 41 b)).toInt := congrArg Int32.toInt ((ajV125 41 b rfl).trans ((ajV118 41 b rfl).trans (ajV112 41 b rfl)))
      have rp143 : MJ V125 Z b := MP.lv (MO.mp mo) me128 (by (first | exact om_5ac7632c8ef3 gd pq120 t124 | omega)) (fun _ => Or.inl (by omega))
      refine W.know (fun kr1 kr2 => ?_)
      refine W.widen (k := zcc Z) (n := zss Z) (Nat.sub_le _ _) (Nat.sub_le _ _) ?_
      exact W.vret hx hb hr (fun t ht hW => ⟨⟨(V125, L, Z), rfl, ⟨hMV125, agV125, rfl, zoZ, rp143⟩, ⟨by rw [ht]; exact hP, va_K.moved hW.alike hK, hD⟩, by rw [ht]; exact kr1, by rw [ht]; exact kr2⟩, hS.F ht⟩) hS.2.2 dX5_goOnClosing_113
  · skip
    have f144 : ((V 68 gf)).toInt = 0 := b_eq rfl (by decide) c18
    refine lv_iload_n hx hb dX5_goOnClosing_23 rfl (lv_at hl 0 rfl) ?_
    refine lv_iconst (v := (-1)) hx hb dX5_goOnClosing_24 (by decide) ?_
    refine lv_icmp_eq (tgt := 42) hx hb dX5_goOnClosing_25 (by decide) (fun c145 => ?_) (fun c145 => ?_)
    · skip
      have f146 : ((V 57 (24 * b + (Int32.toNatClampNeg (V 71 gf))))).toInt = (-1) := b_eq rfl (by decide) c145
      refine lv_iconst (v := 0) hx hb dX5_goOnClosing_42 (by decide) ?_
      refine lv_istore_n (lv' := [(3, .int 0), (2, .int (V 57 (24 * b + (Int32.toNatClampNeg (V 71 gf))))), (0, .ref (ad 5)), (1, .ref (Z.fa gf))]) hx hb dX5_goOnClosing_43 rfl hl (by decide) rfl (fun ls hl => ?_)
      refine lv_aload_n hx hb dX5_goOnClosing_44 rfl (lv_at hl 2 rfl) ?_
      refine va_get (D := D) (ci := 5) (v := .int (V 5 9)) (fs := (xfMachine ad V L Z)) (C := RX5) (T := TX5) (N := 15) hx hb hg inX5 hown hK hP 5 xgMachine rfl 9 (by decide) (hg _ w676) (fun _ h9 => h9) rfl dX5_goOnClosing_45 ?_
      refine lv_iconst (v := 2) hx hb dX5_goOnClosing_48 (by decide) ?_
      refine lv_icmp_ne (tgt := 67) hx hb dX5_goOnClosing_49 (by decide) (fun c147 => ?_) (fun c147 => ?_)
      · skip
        have f148 : ((V 5 9)).toInt ≠ 2 := b_neq rfl (by decide) c147
        refine lv_aload_n hx hb dX5_goOnClosing_67 rfl (lv_at hl 2 rfl) ?_
        refine va_get (D := D) (ci := 5) (v := .int (V 5 9)) (fs := (xfMachine ad V L Z)) (C := RX5) (T := TX5) (N := 15) hx hb hg inX5 hown hK hP 5 xgMachine rfl 9 (by decide) (hg _ w676) (fun _ h9 => h9) rfl dX5_goOnClosing_68 ?_
        refine lv_iconst (v := 3) hx hb dX5_goOnClosing_71 (by decide) ?_
        refine lv_icmp_ne (tgt := 81) hx hb dX5_goOnClosing_72 (by decide) (fun c149 => ?_) (fun c149 => ?_)
        · skip
          have f150 : ((V 5 9)).toInt ≠ 3 := b_neq rfl (by decide) c149
          refine lv_aload_n hx hb dX5_goOnClosing_81 rfl (lv_at hl 2 rfl) ?_
          refine lv_iconst (v := 0) hx hb dX5_goOnClosing_82 (by decide) ?_
          have r151 : Int32.toInt 0 = 0 := by decide
          refine gA_void (gA_runV (As := [.int 0]) (rest := []) (ci := 5) (q0 := 5) hx hb hml hown hg hP hD hK hS hA hnw hgk (x_answerWith2 l D ks H.size ad kk V L Z 0 hMV ) w1304 w1306 w49 w171 w1307 rfl xgMachine hdV_yX5_answerWith ⟨Nat.le_of_ble_eq_true rfl, Nat.le_of_ble_eq_true rfl⟩ rfl hl.1 rfl (Nat.le_of_ble_eq_true rfl) dX5_goOnClosing_83 ⟨z0, z0⟩) hP hD hK hS hA (fun u153 H locs w154 hP hD hK hS => ?_)
          obtain ⟨V157, L158⟩ := u153
          obtain ⟨hMV157, ajV157, axL158, t155, t156⟩ := w154
          have axL158 : L = L158 := Eq.symm axL158
          subst axL158
          have hP : va_P D vwCl (xw ad kk V157 L Z) H := hP
          have hD : va_D A (xw ad kk V157 L Z) := hD
          have hMV157 : rgd bX V157 := hMV157
          have ajV157 : agr [(5, 9), (5, 10)] [] V V157 := ajV157
          have agV157 : agr [(4, 6), (5, 6), (5, 9), (5, 10)] [25, 28, 36, 37, 67, 68, 69, 70, 71, 72, 73, 74, 75, 76, 77, 78, 79, 80, 81, 82, 83, 84, 85] V V157 := agV.tr ajV157 (by decide) (by decide)
          have t155 : (V157 5 9).toInt = 1 := t155
          have t156 : (V157 5 10).toInt = (Int32.toInt 0) := t156
          have r159 : 0 ≤ ((V157 5 9)).toInt ∧ ((V157 5 9)).toInt ≤ 3 := hMV157 5 9
          refine lv_aload_n hx hb dX5_goOnClosing_86 rfl (lv_at hl 2 rfl) ?_
          refine va_get (D := D) (ci := 5) (v := .ref (ad 4)) (fs := (xfMachine ad V157 L Z)) (C := RX5) (T := TX5) (N := 15) hx hb hg inX5 hown hK hP 5 xgMachine rfl 1 (by decide) (hg _ w668) (fun _ h9 => h9) rfl dX5_goOnClosing_87 ?_
          refine lv_aload_n hx hb dX5_goOnClosing_90 rfl (lv_at hl 3 rfl) ?_
          refine va_getN (D := D) (ci := 4) (v := .int (V157 70 gf)) (fs := (xfFrame V157 gf)) (C := RX4) (T := TX4) (N := 19) hx hb hg inX4 hown hK hP (336 + gf) (xgFrame hgf) rfl 3 (by decide) (hnw.use 1192 n1192 rfl) (fun _ h9 => h9) rfl dX5_goOnClosing_91 ?_
          refine g_top (v := (V 70 gf)) (ajV157 70 gf rfl) ?_
          refine lv_iload_n hx hb dX5_goOnClosing_94 rfl (lv_at hl 0 rfl) ?_
          refine gA_void (gA_runV (As := [.int (V 70 gf), .int 0]) (rest := []) (ci := 7) (q0 := 4) hx hb hml hown hg hP hD hK hS hA hnw hgk (x_NnoteClosing l D ks H.size ad kk V157 L Z (V 70 gf) 0 hMV157 ) w1497 w1498 w1499 w166 w1500 rfl xgNotes hdV_yX7_noteClosing ⟨Nat.le_of_ble_eq_true rfl, Nat.le_of_ble_eq_true rfl⟩ rfl hl.1 rfl (Nat.le_of_ble_eq_true rfl) dX5_goOnClosing_95 ⟨z0, z0⟩) hP hD hK hS hA (fun u161 H locs w162 hP hD hK hS => ?_)
          obtain ⟨V163, L164⟩ := u161
          obtain ⟨hMV163, ajV163, axL164⟩ := w162
          have axL164 : L = L164 := Eq.symm axL164
          subst axL164
          have hP : va_P D vwCl (xw ad kk V163 L Z) H := hP
          have hD : va_D A (xw ad kk V163 L Z) := hD
          have hMV163 : rgd bX V163 := hMV163
          have ajV163 : agr [(4, 6)] [36, 37] V157 V163 := ajV163
          have agV163 : agr [(4, 6), (5, 6), (5, 9), (5, 10)] [25, 28, 36, 37, 67, 68, 69, 70, 71, 72, 73, 74, 75, 76, 77, 78, 79, 80, 81, 82, 83, 84, 85] V V163 := agV157.tr ajV163 (by decide) (by decide)
          refine lv_aload_n hx hb dX5_goOnClosing_98 rfl (lv_at hl 2 rfl) ?_
          refine va_get (D := D) (ci := 5) (v := .ref (ad 3)) (fs := (xfMachine ad V163 L Z)) (C := RX5) (T := TX5) (N := 15) hx hb hg inX5 hown hK hP 5 xgMachine rfl 0 (by decide) (hg _ w667) (fun _ h9 => h9) rfl dX5_goOnClosing_99 ?_
          refine lv_aload_n hx hb dX5_goOnClosing_102 rfl (lv_at hl 3 rfl) ?_
          refine va_getN (D := D) (ci := 4) (v := .int (V163 70 gf)) (fs := (xfFrame V163 gf)) (C := RX4) (T := TX4) (N := 19) hx hb hg inX4 hown hK hP (336 + gf) (xgFrame hgf) rfl 3 (by decide) (hnw.use 1192 n1192 rfl) (fun _ h9 => h9) rfl dX5_goOnClosing_103 ?_
          refine g_top (v := (V 70 gf)) ((ajV163 70 gf rfl).trans (ajV157 70 gf rfl)) ?_
          refine gA_void (gA_runV (As := [.int (V 70 gf)]) (rest := []) (ci := 8) (q0 := 3) hx hb hml hown hg hP hD hK hS hA hnw hgk (x_dropObject2 l D ks H.size ad kk V163 L Z (V 70 gf) hMV163 (by omega)) w1336 w1337 w1338 w164 w1339 rfl xgStock hdV_yX8_dropObject ⟨Nat.le_of_ble_eq_true rfl, Nat.le_of_ble_eq_true rfl⟩ rfl hl.1 rfl (Nat.le_of_ble_eq_true rfl) dX5_goOnClosing_106 ⟨z0, z0⟩) hP hD hK hS hA (fun u166 H locs w167 hP hD hK hS => ?_)
          obtain ⟨V169, L170⟩ := u166
          obtain ⟨hMV169, ajV169, axL170, t168⟩ := w167
          have axL170 : L = L170 := Eq.symm axL170
          subst axL170
          have hP : va_P D vwCl (xw ad kk V169 L Z) H := hP
          have hD : va_D A (xw ad kk V169 L Z) := hD
          have hMV169 : rgd bX V169 := hMV169
          have ajV169 : agr [] [25, 28] V163 V169 := ajV169
          have agV169 : agr [(4, 6), (5, 6), (5, 9), (5, 10)] [25, 28, 36, 37, 67, 68, 69, 70, 71, 72, 73, 74, 75, 76, 77, 78, 79, 80, 81, 82, 83, 84, 85] V V169 := agV163.tr ajV169 (by decide) (by decide)
          have t168 : ∀ n, ME V163 V169 n := t168
          refine lv_aload_n hx hb dX5_goOnClosing_109 rfl (lv_at hl 2 rfl) ?_
          have pq171 : (V169 5 6).toInt = ((V 5 6)).toInt := congrArg Int32.toInt ((ajV169 5 6 rfl).trans ((ajV163 5 6 rfl).trans (ajV157 5 6 rfl)))
          refine gA_void (gA_runV (As := []) (rest := []) (ci := 5) (q0 := 5) hx hb hml hown hg hP hD hK hS hA hnw hgk (x_leave l D ks H.size ad kk V169 L Z  hMV169 (show 1 ≤ (V169 5 6).toInt from by (first | exact om_0cac171fa40c gd pq171 | omega))) w1308 w1310 w50 w171 w1311 rfl xgMachine hdV_yX5_leave ⟨Nat.le_of_ble_eq_true rfl, Nat.le_of_ble_eq_true rfl⟩ rfl hl.1 rfl (Nat.le_of_ble_eq_true rfl) dX5_goOnClosing_110 ⟨z0, z0⟩) hP hD hK hS hA (fun u173 H locs w174 hP hD hK hS => ?_)
          obtain ⟨V176, L177⟩ := u173
          obtain ⟨hMV176, ajV176, axL177, t175⟩ := w174
          have axL177 : L = L177 := Eq.symm axL177
          subst axL177
          have hP : va_P D vwCl (xw ad kk V176 L Z) H := hP
          have hD : va_D A (xw ad kk V176 L Z) := hD
          have hMV176 : rgd bX V176 := hMV176
          have ajV176 : agr [(5, 6)] [] V169 V176 := ajV176
          have agV176 : agr [(4, 6), (5, 6), (5, 9), (5, 10)] [25, 28, 36, 37, 67, 68, 69, 70, 71, 72, 73, 74, 75, 76, 77, 78, 79, 80, 81, 82, 83, 84, 85] V V176 := agV169.tr ajV176 (by decide) (by decide)
          have t175 : (V176 5 6).toInt = (V169 5 6).toInt - 1 := t175
          have r178 : 0 ≤ ((V176 5 6)).toInt ∧ ((V176 5 6)).toInt ≤ 400 := hMV176 5 6
          have me179 : ME V V176 gf := (ME.tr (ME.tr (ME.tr (ME.tr ME.rf (ME.ag ajV157 (by decide))) (ME.ag ajV163 (by decide))) (t168 _)) (ME.ag ajV176 (by decide)))
          have pq180 : (V176 67 gf).toInt = ((V 67 gf)).toInt := congrArg Int32.toInt ((ajV176 67 gf rfl).trans ((ajV169 67 gf rfl).trans ((ajV163 67 gf rfl).trans (ajV157 67 gf rfl))))
          have pq181 : (V176 68 gf).toInt = ((V 68 gf)).toInt := congrArg Int32.toInt ((ajV176 68 gf rfl).trans ((ajV169 68 gf rfl).trans ((ajV163 68 gf rfl).trans (ajV157 68 gf rfl))))
          have pq182 : (V176 70 gf).toInt = ((V 70 gf)).toInt := congrArg Int32.toInt ((ajV176 70 gf rfl).trans ((ajV169 70 gf rfl).trans ((ajV163 70 gf rfl).trans (ajV157 70 gf rfl))))
          have pq183 : (V176 71 gf).toInt = ((V 71 gf)).toInt := congrArg Int32.toInt ((ajV176 71 gf rfl).trans ((ajV169 71 gf rfl).trans ((ajV163 71 gf rfl).trans (ajV157 71 gf rfl))))
          have pq184 : (V176 75 gf).toInt = ((V 75 gf)).toInt := congrArg Int32.toInt ((ajV176 75 gf rfl).trans ((ajV169 75 gf rfl).trans ((ajV163 75 gf rfl).trans (ajV157 75 gf rfl))))
          have pq185 : (V176 76 gf).toInt = ((V 76 gf)).toInt := congrArg Int32.toInt ((ajV176 76 gf rfl).trans ((ajV169 76 gf rfl).trans ((ajV163 76 gf rfl).trans (ajV157 76 gf rfl))))
          have pq186 : (V176 80 gf).toInt = ((V 80 gf)).toInt := congrArg Int32.toInt ((ajV176 80 gf rfl).trans ((ajV169 80 gf rfl).trans ((ajV163 80 gf rfl).trans (ajV157 80 gf rfl))))
          have pq187 : (V176 84 gf).toInt = ((V 84 gf)).toInt := congrArg Int32.toInt ((ajV176 84 gf rfl).trans ((ajV169 84 gf rfl).trans ((ajV163 84 gf rfl).trans (ajV157 84 gf rfl))))
          have pq188 : (V176 5 8).toInt = ((V 5 8)).toInt := congrArg Int32.toInt ((ajV176 5 8 rfl).trans ((ajV169 5 8 rfl).trans ((ajV163 5 8 rfl).trans (ajV157 5 8 rfl))))
          have pq189 : (V176 5 9).toInt = ((V157 5 9)).toInt := congrArg Int32.toInt ((ajV176 5 9 rfl).trans ((ajV169 5 9 rfl).trans (ajV163 5 9 rfl)))
          have pq190 : (V176 3 13).toInt = ((V 3 13)).toInt := congrArg Int32.toInt ((ajV176 3 13 rfl).trans ((ajV169 3 13 rfl).trans ((ajV163 3 13 rfl).trans (ajV157 3 13 rfl))))
          have pq191 : (V176 43 (5 * b + 2)).toInt = ((V 43 (5 * b + 2))).toInt := congrArg Int32.toInt ((ajV176 43 (5 * b + 2) rfl).trans ((ajV169 43 (5 * b + 2) rfl).trans ((ajV163 43 (5 * b + 2) rfl).trans (ajV157 43 (5 * b + 2) rfl))))
          have pq192 : (V176 42 b).toInt = ((V 42 b)).toInt := congrArg Int32.toInt ((ajV176 42 b rfl).trans ((ajV169 42 b rfl).trans ((ajV163 42 b rfl).trans (ajV157 42 b rfl))))
          have pq193 : (V176 41 b).toInt = ((V 41 b)).toInt := congrArg Int32.toInt ((ajV176 41 b rfl).trans ((ajV169 41 b rfl).trans ((ajV163 41 b rfl).trans (ajV157 41 b rfl))))
          have rp194 : MJ V176 Z b := MP.lv (MO.mp mo) me179 (by (first | exact om_5ac7632c8ef3 gd pq171 t175 | omega)) (fun _ => Or.inl (by omega))
          refine W.know (fun kr1 kr2 => ?_)
          refine W.widen (k := zcc Z) (n := zss Z) (Nat.sub_le _ _) (Nat.sub_le _ _) ?_
          exact W.vret hx hb hr (fun t ht hW => ⟨⟨(V176, L, Z), rfl, ⟨hMV176, agV176, rfl, zoZ, rp194⟩, ⟨by rw [ht]; exact hP, va_K.moved hW.alike hK, hD⟩, by rw [ht]; exact kr1, by rw [ht]; exact kr2⟩, hS.F ht⟩) hS.2.2 dX5_goOnClosing_113
        · skip
          have f195 : ((V 5 9)).toInt = 3 := b_eq rfl (by decide) c149
          refine lv_bipush (v := 18) hx hb dX5_goOnClosing_75 (by decide) ?_
          refine lv_istore_n (lv' := [(3, .int 18), (2, .int (V 57 (24 * b + (Int32.toNatClampNeg (V 71 gf))))), (0, .ref (ad 5)), (1, .ref (Z.fa gf))]) hx hb dX5_goOnClosing_77 rfl hl (by decide) rfl (fun ls hl => ?_)
          refine lv_goto (tgt := 86) hx hb dX5_goOnClosing_78 (by decide) ?_
          refine lv_aload_n hx hb dX5_goOnClosing_86 rfl (lv_at hl 2 rfl) ?_
          refine va_get (D := D) (ci := 5) (v := .ref (ad 4)) (fs := (xfMachine ad V L Z)) (C := RX5) (T := TX5) (N := 15) hx hb hg inX5 hown hK hP 5 xgMachine rfl 1 (by decide) (hg _ w668) (fun _ h9 => h9) rfl dX5_goOnClosing_87 ?_
          refine lv_aload_n hx hb dX5_goOnClosing_90 rfl (lv_at hl 3 rfl) ?_
          refine va_getN (D := D) (ci := 4) (v := .int (V 70 gf)) (fs := (xfFrame V gf)) (C := RX4) (T := TX4) (N := 19) hx hb hg inX4 hown hK hP (336 + gf) (xgFrame hgf) rfl 3 (by decide) (hnw.use 1192 n1192 rfl) (fun _ h9 => h9) rfl dX5_goOnClosing_91 ?_
          refine lv_iload_n hx hb dX5_goOnClosing_94 rfl (lv_at hl 0 rfl) ?_
          have r196 : Int32.toInt 18 = 18 := by decide
          refine gA_void (gA_runV (As := [.int (V 70 gf), .int 18]) (rest := []) (ci := 7) (q0 := 4) hx hb hml hown hg hP hD hK hS hA hnw hgk (x_NnoteClosing l D ks H.size ad kk V L Z (V 70 gf) 18 hMV ) w1497 w1498 w1499 w166 w1500 rfl xgNotes hdV_yX7_noteClosing ⟨Nat.le_of_ble_eq_true rfl, Nat.le_of_ble_eq_true rfl⟩ rfl hl.1 rfl (Nat.le_of_ble_eq_true rfl) dX5_goOnClosing_95 ⟨z0, z0⟩) hP hD hK hS hA (fun u198 H locs w199 hP hD hK hS => ?_)
          obtain ⟨V200, L201⟩ := u198
          obtain ⟨hMV200, ajV200, axL201⟩ := w199
          have axL201 : L = L201 := Eq.symm axL201
          subst axL201
          have hP : va_P D vwCl (xw ad kk V200 L Z) H := hP
          have hD : va_D A (xw ad kk V200 L Z) := hD
          have hMV200 : rgd bX V200 := hMV200
          have ajV200 : agr [(4, 6)] [36, 37] V V200 := ajV200
          have agV200 : agr [(4, 6), (5, 6), (5, 9), (5, 10)] [25, 28, 36, 37, 67, 68, 69, 70, 71, 72, 73, 74, 75, 76, 77, 78, 79, 80, 81, 82, 83, 84, 85] V V200 := agV.tr ajV200 (by decide) (by decide)
          refine lv_aload_n hx hb dX5_goOnClosing_98 rfl (lv_at hl 2 rfl) ?_
          refine va_get (D := D) (ci := 5) (v := .ref (ad 3)) (fs := (xfMachine ad V200 L Z)) (C := RX5) (T := TX5) (N := 15) hx hb hg inX5 hown hK hP 5 xgMachine rfl 0 (by decide) (hg _ w667) (fun _ h9 => h9) rfl dX5_goOnClosing_99 ?_
          refine lv_aload_n hx hb dX5_goOnClosing_102 rfl (lv_at hl 3 rfl) ?_
          refine va_getN (D := D) (ci := 4) (v := .int (V200 70 gf)) (fs := (xfFrame V200 gf)) (C := RX4) (T := TX4) (N := 19) hx hb hg inX4 hown hK hP (336 + gf) (xgFrame hgf) rfl 3 (by decide) (hnw.use 1192 n1192 rfl) (fun _ h9 => h9) rfl dX5_goOnClosing_103 ?_
          refine g_top (v := (V 70 gf)) (ajV200 70 gf rfl) ?_
          refine gA_void (gA_runV (As := [.int (V 70 gf)]) (rest := []) (ci := 8) (q0 := 3) hx hb hml hown hg hP hD hK hS hA hnw hgk (x_dropObject2 l D ks H.size ad kk V200 L Z (V 70 gf) hMV200 (by omega)) w1336 w1337 w1338 w164 w1339 rfl xgStock hdV_yX8_dropObject ⟨Nat.le_of_ble_eq_true rfl, Nat.le_of_ble_eq_true rfl⟩ rfl hl.1 rfl (Nat.le_of_ble_eq_true rfl) dX5_goOnClosing_106 ⟨z0, z0⟩) hP hD hK hS hA (fun u203 H locs w204 hP hD hK hS => ?_)
          obtain ⟨V206, L207⟩ := u203
          obtain ⟨hMV206, ajV206, axL207, t205⟩ := w204
          have axL207 : L = L207 := Eq.symm axL207
          subst axL207
          have hP : va_P D vwCl (xw ad kk V206 L Z) H := hP
          have hD : va_D A (xw ad kk V206 L Z) := hD
          have hMV206 : rgd bX V206 := hMV206
          have ajV206 : agr [] [25, 28] V200 V206 := ajV206
          have agV206 : agr [(4, 6), (5, 6), (5, 9), (5, 10)] [25, 28, 36, 37, 67, 68, 69, 70, 71, 72, 73, 74, 75, 76, 77, 78, 79, 80, 81, 82, 83, 84, 85] V V206 := agV200.tr ajV206 (by decide) (by decide)
          have t205 : ∀ n, ME V200 V206 n := t205
          refine lv_aload_n hx hb dX5_goOnClosing_109 rfl (lv_at hl 2 rfl) ?_
          have pq208 : (V206 5 6).toInt = ((V 5 6)).toInt := congrArg Int32.toInt ((ajV206 5 6 rfl).trans (ajV200 5 6 rfl))
          refine gA_void (gA_runV (As := []) (rest := []) (ci := 5) (q0 := 5) hx hb hml hown hg hP hD hK hS hA hnw hgk (x_leave l D ks H.size ad kk V206 L Z  hMV206 (show 1 ≤ (V206 5 6).toInt from by (first | exact om_0cac171fa40c gd pq208 | omega))) w1308 w1310 w50 w171 w1311 rfl xgMachine hdV_yX5_leave ⟨Nat.le_of_ble_eq_true rfl, Nat.le_of_ble_eq_true rfl⟩ rfl hl.1 rfl (Nat.le_of_ble_eq_true rfl) dX5_goOnClosing_110 ⟨z0, z0⟩) hP hD hK hS hA (fun u210 H locs w211 hP hD hK hS => ?_)
          obtain ⟨V213, L214⟩ := u210
          obtain ⟨hMV213, ajV213, axL214, t212⟩ := w211
          have axL214 : L = L214 := Eq.symm axL214
          subst axL214
          have hP : va_P D vwCl (xw ad kk V213 L Z) H := hP
          have hD : va_D A (xw ad kk V213 L Z) := hD
          have hMV213 : rgd bX V213 := hMV213
          have ajV213 : agr [(5, 6)] [] V206 V213 := ajV213
          have agV213 : agr [(4, 6), (5, 6), (5, 9), (5, 10)] [25, 28, 36, 37, 67, 68, 69, 70, 71, 72, 73, 74, 75, 76, 77, 78, 79, 80, 81, 82, 83, 84, 85] V V213 := agV206.tr ajV213 (by decide) (by decide)
          have t212 : (V213 5 6).toInt = (V206 5 6).toInt - 1 := t212
          have r215 : 0 ≤ ((V213 5 6)).toInt ∧ ((V213 5 6)).toInt ≤ 400 := hMV213 5 6
          have me216 : ME V V213 gf := (ME.tr (ME.tr (ME.tr ME.rf (ME.ag ajV200 (by decide))) (t205 _)) (ME.ag ajV213 (by decide)))
          have pq217 : (V213 67 gf).toInt = ((V 67 gf)).toInt := congrArg Int32.toInt ((ajV213 67 gf rfl).trans ((ajV206 67 gf rfl).trans (ajV200 67 gf rfl)))
          have pq218 : (V213 68 gf).toInt = ((V 68 gf)).toInt := congrArg Int32.toInt ((ajV213 68 gf rfl).trans ((ajV206 68 gf rfl).trans (ajV200 68 gf rfl)))
          have pq219 : (V213 70 gf).toInt = ((V 70 gf)).toInt := congrArg Int32.toInt ((ajV213 70 gf rfl).trans ((ajV206 70 gf rfl).trans (ajV200 70 gf rfl)))
          have pq220 : (V213 71 gf).toInt = ((V 71 gf)).toInt := congrArg Int32.toInt ((ajV213 71 gf rfl).trans ((ajV206 71 gf rfl).trans (ajV200 71 gf rfl)))
          have pq221 : (V213 75 gf).toInt = ((V 75 gf)).toInt := congrArg Int32.toInt ((ajV213 75 gf rfl).trans ((ajV206 75 gf rfl).trans (ajV200 75 gf rfl)))
          have pq222 : (V213 76 gf).toInt = ((V 76 gf)).toInt := congrArg Int32.toInt ((ajV213 76 gf rfl).trans ((ajV206 76 gf rfl).trans (ajV200 76 gf rfl)))
          have pq223 : (V213 80 gf).toInt = ((V 80 gf)).toInt := congrArg Int32.toInt ((ajV213 80 gf rfl).trans ((ajV206 80 gf rfl).trans (ajV200 80 gf rfl)))
          have pq224 : (V213 84 gf).toInt = ((V 84 gf)).toInt := congrArg Int32.toInt ((ajV213 84 gf rfl).trans ((ajV206 84 gf rfl).trans (ajV200 84 gf rfl)))
          have pq225 : (V213 5 8).toInt = ((V 5 8)).toInt := congrArg Int32.toInt ((ajV213 5 8 rfl).trans ((ajV206 5 8 rfl).trans (ajV200 5 8 rfl)))
          have pq226 : (V213 5 9).toInt = ((V 5 9)).toInt := congrArg Int32.toInt ((ajV213 5 9 rfl).trans ((ajV206 5 9 rfl).trans (ajV200 5 9 rfl)))
          have pq227 : (V213 3 13).toInt = ((V 3 13)).toInt := congrArg Int32.toInt ((ajV213 3 13 rfl).trans ((ajV206 3 13 rfl).trans (ajV200 3 13 rfl)))
          have pq228 : (V213 43 (5 * b + 2)).toInt = ((V 43 (5 * b + 2))).toInt := congrArg Int32.toInt ((ajV213 43 (5 * b + 2) rfl).trans ((ajV206 43 (5 * b + 2) rfl).trans (ajV200 43 (5 * b + 2) rfl)))
          have pq229 : (V213 42 b).toInt = ((V 42 b)).toInt := congrArg Int32.toInt ((ajV213 42 b rfl).trans ((ajV206 42 b rfl).trans (ajV200 42 b rfl)))
          have pq230 : (V213 41 b).toInt = ((V 41 b)).toInt := congrArg Int32.toInt ((ajV213 41 b rfl).trans ((ajV206 41 b rfl).trans (ajV200 41 b rfl)))
          have rp231 : MJ V213 Z b := MP.lv (MO.mp mo) me216 (by (first | exact om_5ac7632c8ef3 gd pq208 t212 | omega)) (fun _ => Or.inl (by omega))
          refine W.know (fun kr1 kr2 => ?_)
          refine W.widen (k := zcc Z) (n := zss Z) (Nat.sub_le _ _) (Nat.sub_le _ _) ?_
          exact W.vret hx hb hr (fun t ht hW => ⟨⟨(V213, L, Z), rfl, ⟨hMV213, agV213, rfl, zoZ, rp231⟩, ⟨by rw [ht]; exact hP, va_K.moved hW.alike hK, hD⟩, by rw [ht]; exact kr1, by rw [ht]; exact kr2⟩, hS.F ht⟩) hS.2.2 dX5_goOnClosing_113
      · skip
        have f232 : ((V 5 9)).toInt = 2 := b_eq rfl (by decide) c147
        refine lv_aload_n hx hb dX5_goOnClosing_52 rfl (lv_at hl 2 rfl) ?_
        refine va_get (D := D) (ci := 5) (v := .int (V 5 11)) (fs := (xfMachine ad V L Z)) (C := RX5) (T := TX5) (N := 15) hx hb hg inX5 hown hK hP 5 xgMachine rfl 11 (by decide) (hg _ w678) (fun _ h9 => h9) rfl dX5_goOnClosing_53 ?_
        refine lv_aload_n hx hb dX5_goOnClosing_56 rfl (lv_at hl 2 rfl) ?_
        refine va_get (D := D) (ci := 5) (v := .int (V 5 12)) (fs := (xfMachine ad V L Z)) (C := RX5) (T := TX5) (N := 15) hx hb hg inX5 hown hK hP 5 xgMachine rfl 12 (by decide) (hg _ w679) (fun _ h9 => h9) rfl dX5_goOnClosing_57 ?_
        refine gE_int (g_runS (As := [.int (V 5 11), .int (V 5 12)]) (rest := []) (wc := []) (tc := []) hx hb hml hown hg gw_self hP hD hK hS hA hnw hgk [] [] (by decide) rfl rfl (x_firstKind l D ks H.size (V 5 11) (V 5 12) ) w1400 w1401 w171 w1402 hdS_yX5_firstKind ⟨Nat.le_of_ble_eq_true rfl, Nat.le_of_ble_eq_true rfl⟩ rfl hl.1 rfl (Nat.le_of_ble_eq_true rfl) dX5_goOnClosing_60 ⟨z0, z0⟩) hP hD hK hS hA (fun z233 u234 H locs w235 hP hD hK hS => ?_)
        refine lv_istore_n (lv' := [(3, .int z233), (2, .int (V 57 (24 * b + (Int32.toNatClampNeg (V 71 gf))))), (0, .ref (ad 5)), (1, .ref (Z.fa gf))]) hx hb dX5_goOnClosing_63 rfl hl (by decide) rfl (fun ls hl => ?_)
        refine lv_goto (tgt := 86) hx hb dX5_goOnClosing_64 (by decide) ?_
        refine lv_aload_n hx hb dX5_goOnClosing_86 rfl (lv_at hl 2 rfl) ?_
        refine va_get (D := D) (ci := 5) (v := .ref (ad 4)) (fs := (xfMachine ad V L Z)) (C := RX5) (T := TX5) (N := 15) hx hb hg inX5 hown hK hP 5 xgMachine rfl 1 (by decide) (hg _ w668) (fun _ h9 => h9) rfl dX5_goOnClosing_87 ?_
        refine lv_aload_n hx hb dX5_goOnClosing_90 rfl (lv_at hl 3 rfl) ?_
        refine va_getN (D := D) (ci := 4) (v := .int (V 70 gf)) (fs := (xfFrame V gf)) (C := RX4) (T := TX4) (N := 19) hx hb hg inX4 hown hK hP (336 + gf) (xgFrame hgf) rfl 3 (by decide) (hnw.use 1192 n1192 rfl) (fun _ h9 => h9) rfl dX5_goOnClosing_91 ?_
        refine lv_iload_n hx hb dX5_goOnClosing_94 rfl (lv_at hl 0 rfl) ?_
        refine gA_void (gA_runV (As := [.int (V 70 gf), .int z233]) (rest := []) (ci := 7) (q0 := 4) hx hb hml hown hg hP hD hK hS hA hnw hgk (x_NnoteClosing l D ks H.size ad kk V L Z (V 70 gf) z233 hMV ) w1497 w1498 w1499 w166 w1500 rfl xgNotes hdV_yX7_noteClosing ⟨Nat.le_of_ble_eq_true rfl, Nat.le_of_ble_eq_true rfl⟩ rfl hl.1 rfl (Nat.le_of_ble_eq_true rfl) dX5_goOnClosing_95 ⟨z0, z0⟩) hP hD hK hS hA (fun u237 H locs w238 hP hD hK hS => ?_)
        obtain ⟨V239, L240⟩ := u237
        obtain ⟨hMV239, ajV239, axL240⟩ := w238
        have axL240 : L = L240 := Eq.symm axL240
        subst axL240
        have hP : va_P D vwCl (xw ad kk V239 L Z) H := hP
        have hD : va_D A (xw ad kk V239 L Z) := hD
        have hMV239 : rgd bX V239 := hMV239
        have ajV239 : agr [(4, 6)] [36, 37] V V239 := ajV239
        have agV239 : agr [(4, 6), (5, 6), (5, 9), (5, 10)] [25, 28, 36, 37, 67, 68, 69, 70, 71, 72, 73, 74, 75, 76, 77, 78, 79, 80, 81, 82, 83, 84, 85] V V239 := agV.tr ajV239 (by decide) (by decide)
        refine lv_aload_n hx hb dX5_goOnClosing_98 rfl (lv_at hl 2 rfl) ?_
        refine va_get (D := D) (ci := 5) (v := .ref (ad 3)) (fs := (xfMachine ad V239 L Z)) (C := RX5) (T := TX5) (N := 15) hx hb hg inX5 hown hK hP 5 xgMachine rfl 0 (by decide) (hg _ w667) (fun _ h9 => h9) rfl dX5_goOnClosing_99 ?_
        refine lv_aload_n hx hb dX5_goOnClosing_102 rfl (lv_at hl 3 rfl) ?_
        refine va_getN (D := D) (ci := 4) (v := .int (V239 70 gf)) (fs := (xfFrame V239 gf)) (C := RX4) (T := TX4) (N := 19) hx hb hg inX4 hown hK hP (336 + gf) (xgFrame hgf) rfl 3 (by decide) (hnw.use 1192 n1192 rfl) (fun _ h9 => h9) rfl dX5_goOnClosing_103 ?_
        refine g_top (v := (V 70 gf)) (ajV239 70 gf rfl) ?_
        refine gA_void (gA_runV (As := [.int (V 70 gf)]) (rest := []) (ci := 8) (q0 := 3) hx hb hml hown hg hP hD hK hS hA hnw hgk (x_dropObject2 l D ks H.size ad kk V239 L Z (V 70 gf) hMV239 (by omega)) w1336 w1337 w1338 w164 w1339 rfl xgStock hdV_yX8_dropObject ⟨Nat.le_of_ble_eq_true rfl, Nat.le_of_ble_eq_true rfl⟩ rfl hl.1 rfl (Nat.le_of_ble_eq_true rfl) dX5_goOnClosing_106 ⟨z0, z0⟩) hP hD hK hS hA (fun u242 H locs w243 hP hD hK hS => ?_)
        obtain ⟨V245, L246⟩ := u242
        obtain ⟨hMV245, ajV245, axL246, t244⟩ := w243
        have axL246 : L = L246 := Eq.symm axL246
        subst axL246
        have hP : va_P D vwCl (xw ad kk V245 L Z) H := hP
        have hD : va_D A (xw ad kk V245 L Z) := hD
        have hMV245 : rgd bX V245 := hMV245
        have ajV245 : agr [] [25, 28] V239 V245 := ajV245
        have agV245 : agr [(4, 6), (5, 6), (5, 9), (5, 10)] [25, 28, 36, 37, 67, 68, 69, 70, 71, 72, 73, 74, 75, 76, 77, 78, 79, 80, 81, 82, 83, 84, 85] V V245 := agV239.tr ajV245 (by decide) (by decide)
        have t244 : ∀ n, ME V239 V245 n := t244
        refine lv_aload_n hx hb dX5_goOnClosing_109 rfl (lv_at hl 2 rfl) ?_
        have pq247 : (V245 5 6).toInt = ((V 5 6)).toInt := congrArg Int32.toInt ((ajV245 5 6 rfl).trans (ajV239 5 6 rfl))
        refine gA_void (gA_runV (As := []) (rest := []) (ci := 5) (q0 := 5) hx hb hml hown hg hP hD hK hS hA hnw hgk (x_leave l D ks H.size ad kk V245 L Z  hMV245 (show 1 ≤ (V245 5 6).toInt from by (first | exact om_0cac171fa40c gd pq247 | omega))) w1308 w1310 w50 w171 w1311 rfl xgMachine hdV_yX5_leave ⟨Nat.le_of_ble_eq_true rfl, Nat.le_of_ble_eq_true rfl⟩ rfl hl.1 rfl (Nat.le_of_ble_eq_true rfl) dX5_goOnClosing_110 ⟨z0, z0⟩) hP hD hK hS hA (fun u249 H locs w250 hP hD hK hS => ?_)
        obtain ⟨V252, L253⟩ := u249
        obtain ⟨hMV252, ajV252, axL253, t251⟩ := w250
        have axL253 : L = L253 := Eq.symm axL253
        subst axL253
        have hP : va_P D vwCl (xw ad kk V252 L Z) H := hP
        have hD : va_D A (xw ad kk V252 L Z) := hD
        have hMV252 : rgd bX V252 := hMV252
        have ajV252 : agr [(5, 6)] [] V245 V252 := ajV252
        have agV252 : agr [(4, 6), (5, 6), (5, 9), (5, 10)] [25, 28, 36, 37, 67, 68, 69, 70, 71, 72, 73, 74, 75, 76, 77, 78, 79, 80, 81, 82, 83, 84, 85] V V252 := agV245.tr ajV252 (by decide) (by decide)
        have t251 : (V252 5 6).toInt = (V245 5 6).toInt - 1 := t251
        have r254 : 0 ≤ ((V252 5 6)).toInt ∧ ((V252 5 6)).toInt ≤ 400 := hMV252 5 6
        have me255 : ME V V252 gf := (ME.tr (ME.tr (ME.tr ME.rf (ME.ag ajV239 (by decide))) (t244 _)) (ME.ag ajV252 (by decide)))
        have pq256 : (V252 67 gf).toInt = ((V 67 gf)).toInt := congrArg Int32.toInt ((ajV252 67 gf rfl).trans ((ajV245 67 gf rfl).trans (ajV239 67 gf rfl)))
        have pq257 : (V252 68 gf).toInt = ((V 68 gf)).toInt := congrArg Int32.toInt ((ajV252 68 gf rfl).trans ((ajV245 68 gf rfl).trans (ajV239 68 gf rfl)))
        have pq258 : (V252 70 gf).toInt = ((V 70 gf)).toInt := congrArg Int32.toInt ((ajV252 70 gf rfl).trans ((ajV245 70 gf rfl).trans (ajV239 70 gf rfl)))
        have pq259 : (V252 71 gf).toInt = ((V 71 gf)).toInt := congrArg Int32.toInt ((ajV252 71 gf rfl).trans ((ajV245 71 gf rfl).trans (ajV239 71 gf rfl)))
        have pq260 : (V252 75 gf).toInt = ((V 75 gf)).toInt := congrArg Int32.toInt ((ajV252 75 gf rfl).trans ((ajV245 75 gf rfl).trans (ajV239 75 gf rfl)))
        have pq261 : (V252 76 gf).toInt = ((V 76 gf)).toInt := congrArg Int32.toInt ((ajV252 76 gf rfl).trans ((ajV245 76 gf rfl).trans (ajV239 76 gf rfl)))
        have pq262 : (V252 80 gf).toInt = ((V 80 gf)).toInt := congrArg Int32.toInt ((ajV252 80 gf rfl).trans ((ajV245 80 gf rfl).trans (ajV239 80 gf rfl)))
        have pq263 : (V252 84 gf).toInt = ((V 84 gf)).toInt := congrArg Int32.toInt ((ajV252 84 gf rfl).trans ((ajV245 84 gf rfl).trans (ajV239 84 gf rfl)))
        have pq264 : (V252 5 8).toInt = ((V 5 8)).toInt := congrArg Int32.toInt ((ajV252 5 8 rfl).trans ((ajV245 5 8 rfl).trans (ajV239 5 8 rfl)))
        have pq265 : (V252 5 9).toInt = ((V 5 9)).toInt := congrArg Int32.toInt ((ajV252 5 9 rfl).trans ((ajV245 5 9 rfl).trans (ajV239 5 9 rfl)))
        have pq266 : (V252 3 13).toInt = ((V 3 13)).toInt := congrArg Int32.toInt ((ajV252 3 13 rfl).trans ((ajV245 3 13 rfl).trans (ajV239 3 13 rfl)))
        have pq267 : (V252 43 (5 * b + 2)).toInt = ((V 43 (5 * b + 2))).toInt := congrArg Int32.toInt ((ajV252 43 (5 * b + 2) rfl).trans ((ajV245 43 (5 * b + 2) rfl).trans (ajV239 43 (5 * b + 2) rfl)))
        have pq268 : (V252 42 b).toInt = ((V 42 b)).toInt := congrArg Int32.toInt ((ajV252 42 b rfl).trans ((ajV245 42 b rfl).trans (ajV239 42 b rfl)))
        have pq269 : (V252 41 b).toInt = ((V 41 b)).toInt := congrArg Int32.toInt ((ajV252 41 b rfl).trans ((ajV245 41 b rfl).trans (ajV239 41 b rfl)))
        have rp270 : MJ V252 Z b := MP.lv (MO.mp mo) me255 (by (first | exact om_5ac7632c8ef3 gd pq247 t251 | omega)) (fun _ => Or.inl (by omega))
        refine W.know (fun kr1 kr2 => ?_)
        refine W.widen (k := zcc Z) (n := zss Z) (Nat.sub_le _ _) (Nat.sub_le _ _) ?_
        exact W.vret hx hb hr (fun t ht hW => ⟨⟨(V252, L, Z), rfl, ⟨hMV252, agV252, rfl, zoZ, rp270⟩, ⟨by rw [ht]; exact hP, va_K.moved hW.alike hK, hD⟩, by rw [ht]; exact kr1, by rw [ht]; exact kr2⟩, hS.F ht⟩) hS.2.2 dX5_goOnClosing_113
    · skip
      have f271 : ((V 57 (24 * b + (Int32.toNatClampNeg (V 71 gf))))).toInt ≠ (-1) := b_neq rfl (by decide) c145
      have kcc := i_clamp (x := V 71 gf) rfl (by (first | exact om_50dfdfbb9dc6 kc15 | omega))
      have htx := (mup.2.1.1 (Int32.toNatClampNeg (V 71 gf)) (by omega)).2.1
      have hgs := htx.resolve_left (by omega)
      refine lv_aload_n hx hb dX5_goOnClosing_28 rfl (lv_at hl 2 rfl) ?_
      refine lv_iconst (v := 1) hx hb dX5_goOnClosing_29 (by decide) ?_
      refine va_putN (D := D) (ci := 4) (v := .int 1) (ty := tyX4 1) (fs := (xfFrame V gf)) (C := RX4) (T := TX4) (N := 19) hx hb hg inX4 tyX4 tyX4_ok nmX4 hown hK hP hD hS (336 + gf) (xgFrame hgf) rfl 1 (by decide) (hnw.use 1190 n1190 rfl) (fun _ h9 => h9) rfl (tyX4_ok 1 (by decide)) rfl rfl (Nat.le_of_ble_eq_true rfl) dX5_goOnClosing_30 (fun H locs hP hD hS => ?_)
      obtain ⟨V272, hV272⟩ : ∃ z, z = up2 V 68 gf 1 := ⟨_, rfl⟩
      have ew273 : (xw ad kk V L Z).set (336 + gf) ((Z.fa gf), .inr (4, (xfFrame V gf).set 1 (.int 1))) = xw ad kk V272 L Z := by rw [hV272]; exact xpFrame_phase hgf
      have hP : va_P D vwCl (xw ad kk V272 L Z) H := by rw [← ew273]; exact hP
      have hD : va_D A (xw ad kk V272 L Z) := by rw [← ew273]; exact hD
      have hMV272 : rgd bX V272 := hMV.put hV272 (i_full _)
      have agV272 : agr [(4, 6), (5, 6), (5, 9), (5, 10)] [25, 28, 36, 37, 67, 68, 69, 70, 71, 72, 73, 74, 75, 76, 77, 78, 79, 80, 81, 82, 83, 84, 85] V V272 := agV.up hV272 rfl
      refine lv_aload_n hx hb dX5_goOnClosing_33 rfl (lv_at hl 1 rfl) ?_
      refine lv_aload_n hx hb dX5_goOnClosing_34 rfl (lv_at hl 2 rfl) ?_
      refine lv_iload_n hx hb dX5_goOnClosing_35 rfl (lv_at hl 0 rfl) ?_
      refine lv_iconst (v := 0) hx hb dX5_goOnClosing_36 (by decide) ?_
      have r274 : Int32.toInt 0 = 0 := by decide
      have pq275 : (V272 71 gf).toInt = ((V 71 gf)).toInt := congrArg Int32.toInt (up2_o hV272 (by decide))
      have pq276 : (V272 43 (5 * b + 2)).toInt = ((V 43 (5 * b + 2))).toInt := congrArg Int32.toInt (up2_o hV272 (by decide))
      have pq277 : (V272 3 13).toInt = ((V 3 13)).toInt := congrArg Int32.toInt (up2_o hV272 (by decide))
      have pq278 : (V272 70 gf).toInt = ((V 70 gf)).toInt := congrArg Int32.toInt (up2_o hV272 (by decide))
      have me279 : ME V V272 gf := (ME.up ME.rf hV272 (Or.inl ⟨by decide, by decide, Nat.le_refl _⟩))
      have pq280 : (V272 67 gf).toInt = ((V 67 gf)).toInt := congrArg Int32.toInt (up2_o hV272 (by decide))
      have pq281 : (V272 68 gf).toInt = 1 := (congrArg Int32.toInt (up2_s hV272)).trans (by decide)
      have pq282 : (V272 75 gf).toInt = ((V 75 gf)).toInt := congrArg Int32.toInt (up2_o hV272 (by decide))
      have pq283 : (V272 76 gf).toInt = ((V 76 gf)).toInt := congrArg Int32.toInt (up2_o hV272 (by decide))
      have pq284 : (V272 80 gf).toInt = ((V 80 gf)).toInt := congrArg Int32.toInt (up2_o hV272 (by decide))
      have pq285 : (V272 84 gf).toInt = ((V 84 gf)).toInt := congrArg Int32.toInt (up2_o hV272 (by decide))
      have pq286 : (V272 5 6).toInt = ((V 5 6)).toInt := congrArg Int32.toInt (up2_o hV272 (by decide))
      have pq287 : (V272 5 8).toInt = ((V 5 8)).toInt := congrArg Int32.toInt (up2_o hV272 (by decide))
      have pq288 : (V272 5 9).toInt = ((V 5 9)).toInt := congrArg Int32.toInt (up2_o hV272 (by decide))
      have pq289 : (V272 42 b).toInt = ((V 42 b)).toInt := congrArg Int32.toInt (up2_o hV272 (by decide))
      have pq290 : (V272 41 b).toInt = ((V 41 b)).toInt := congrArg Int32.toInt (up2_o hV272 (by decide))
      have mo291 : MO V272 Z b gf True True True := MO.ch mo me279 (up2_o hV272 (by decide)) (up2_o hV272 (by decide)) (fun _ => Or.inl (by omega)) (fun x h => FK.k5 (by omega) (by omega) (by omega))
      have mt292 : MT V272 Z b := MO.mt mo291 (by (first | exact om_c09d41618ed8 hgf | omega)) (by (first | exact om_82fa09255765 gd pq286 | omega))
      have me293 : ME V V272 0 := (ME.up ME.rf hV272 (Or.inl ⟨by decide, by decide, by omega⟩))
      have ha294 : (V272 42 b).toInt ≤ ((V 57 (24 * b + (Int32.toNatClampNeg (V 71 gf))))).toInt ∨ (bdp V272 b (((V 57 (24 * b + (Int32.toNatClampNeg (V 71 gf))))).toInt).toNat).1 = true := by rw [me293.1.bd, me293.1 42 b (by decide) (by decide)]; exact gs.fk hgs (hMV 42 b).2
      refine W.know (fun k296 k297 => ?_)
      obtain ⟨Hk295, hHk295⟩ : ∃ z, z = H := ⟨_, rfl⟩
      have k296 : Hk295.size ≤ s.heap.size + (zcc Z - zcc Z) := by rw [hHk295]; exact k296
      have k297 : tot Hk295 ≤ tot s.heap + (zss Z - zss Z) := by rw [hHk295]; exact k297
      refine gZ_ref (gA_runV (As := [.ref (Z.fa gf), .int (V 57 (24 * b + (Int32.toNatClampNeg (V 71 gf)))), .int 0]) (rest := []) (ci := 5) (q0 := 5) hx hb hml hown hg hP hD hK hS hA hnw hgk (x_pushWork l D ks H.size ad kk V272 L Z (V 57 (24 * b + (Int32.toNatClampNeg (V 71 gf)))) 0 (b) (gf) hMV272 (by (first | exact om_986471d62c0d r17.1 r17.2 f271 | omega)) (show b < 2 from by (first | exact om_f940a4667dd6 hb2 | omega)) (show gf < Z.nf from by (first | exact om_8c5722e49bb1 hgf | omega)) mt292 (show 0 ≤ (V272 71 gf).toInt ∧ (V272 71 gf).toInt < (V272 43 (5 * b + 2)).toInt from by omega) (show 0 ≤ (V272 70 gf).toInt ∧ (V272 70 gf).toInt < (V272 3 13).toInt from by omega) ha294) w1376 w1378 w57 w171 w1379 rfl xgMachine hdV_yX5_pushWork ⟨Nat.le_of_ble_eq_true rfl, Nat.le_of_ble_eq_true rfl⟩ rfl hl.1 rfl (Nat.le_of_ble_eq_true rfl) dX5_goOnClosing_37 ⟨z1 zoZ.1, z1 zoZ.2.1⟩) hD hS hA (fun u299 H locs w300 hP hD hK hS y301 y302 => ?_)
      obtain ⟨V303, L304, Z305, f306⟩ := u299
      obtain ⟨hMV303, ajV303, axL304, zlZ305, ilf306, t307, t308, t309, t310⟩ := w300
      have axL304 : L = L304 := Eq.symm axL304
      subst axL304
      have hP : va_P D vwCl (xw ad kk V303 L Z305) H := hP
      have hD : va_D A (xw ad kk V303 L Z305) := hD
      have hK : va_K D vwCl (xty kk Z305) s := hK
      have hMV303 : rgd bX V303 := hMV303
      have ajV303 : agr [(5, 6), (5, 9)] [67, 68, 69, 70, 71, 72, 73, 74, 75, 76, 77, 78, 79, 80, 81, 82, 83, 84, 85] V272 V303 := ajV303
      have agV303 : agr [(4, 6), (5, 6), (5, 9), (5, 10)] [25, 28, 36, 37, 67, 68, 69, 70, 71, 72, 73, 74, 75, 76, 77, 78, 79, 80, 81, 82, 83, 84, 85] V V303 := agV272.tr ajV303 (by decide) (by decide)
      have zlZ305 : ZL Z Z305 := zlZ305
      have zoZ305 : ZL Z Z305 := ZL.tr zoZ zlZ305
      have ziZ305 := zlZ305.1
      have zjZ305 := zlZ305.2.1
      have zkZ305 := zlZ305.2.2.1
      have zmZ305 := zoZ305.1
      have znZ305 := zoZ305.2.1
      have zpZ_Z305 := zoZ.1
      have zqZ_Z305 := zoZ.2.1
      have y301 : H.size ≤ Hk295.size + (zcc Z - zcc Z305) := by rw [hHk295]; exact y301
      have y302 : tot H ≤ tot Hk295 + (zss Z - zss Z305) := by rw [hHk295]; exact y302
      refine W.tight (k := zcc Z - zcc Z305) (n := zss Z - zss Z305) (by first | exact tg9 y301 k296 zlZ305.1 zoZ.1 | omega) (by first | exact tg9 y302 k297 zlZ305.2.1 zoZ.2.1 | omega) ?_
      have hl : lv_has ls 4 [(2, .int (V 57 (24 * b + (Int32.toNatClampNeg (V 71 gf))))), (0, .ref (ad 5)), (1, .ref (Z305.fa gf))] := by rw [zlZ305.2.2.2.2 gf hgf]; exact hl
      have ilf306 : f306 < Z305.nf := ilf306
      have t307 : MJ V303 Z305 b := t307
      have t308 : (f306 : Int) + 1 = (V303 5 6).toInt := t308
      have t309 : (V303 67 f306).toInt = 4 ∧ (V303 68 f306).toInt = 0 := t309
      have t310 : (V303 5 9).toInt = 0 := t310
      have r311 : 0 ≤ ((V303 5 6)).toInt ∧ ((V303 5 6)).toInt ≤ 400 := hMV303 5 6
      have r312 : 0 ≤ ((V303 5 9)).toInt ∧ ((V303 5 9)).toInt ≤ 3 := hMV303 5 9
      refine lv_pop hx hb dX5_goOnClosing_40 rfl ?_
      refine W.know (fun kr1 kr2 => ?_)
      refine W.widen (k := zcc Z) (n := zss Z) (Nat.sub_le _ _) (Nat.sub_le _ _) ?_
      exact W.vret hx hb hr (fun t ht hW => ⟨⟨(V303, L, Z305), rfl, ⟨hMV303, agV303, rfl, zoZ305, t307⟩, ⟨by rw [ht]; exact hP, va_K.moved hW.alike hK, hD⟩, by rw [ht]; exact kr1, by rw [ht]; exact kr2⟩, hS.F ht⟩) hS.2.2 dX5_goOnClosing_41
abbrev r_x_beginCalling (Z : XZ) : Room := { frames := 4, cells := zcc Z, slots := zss Z, locals := 90 }
abbrev q_x_beginCalling (D : va_G) (ks : KS) (ad : Nat → Nat) (kk : Nat → ClassId) (V : Vf) (L : Lf) (Z : XZ) (b : Nat) (gf : Nat) (A : Nat → Prop) : Array Value → State → Outcome → State → Prop := qZv D (fun (u : Vf × Lf × XZ) => rgd bX u.1 ∧ agr [(5, 6), (5, 9), (5, 11), (5, 12), (5, 13), (5, 14)] [67, 68, 69, 70, 71, 72, 73, 74, 75, 76, 77, 78, 79, 80, 81, 82, 83, 84, 85] V u.1 ∧ u.2.1 = L ∧ ZL Z u.2.2 ∧ (MJ u.1 u.2.2 b)) (fun u => xw ad kk u.1 u.2.1 u.2.2) (fun u => xty kk u.2.2) (fun u => zcc Z - zcc u.2.2) (fun u => zss Z - zss u.2.2) A
set_option maxHeartbeats 4000000 in
set_option maxRecDepth 100000 in
theorem x_beginCalling (l : Launch) (D : va_G) (ks : KS) (sz : Nat) (ad : Nat → Nat) (kk : Nat → ClassId) (V : Vf) (L : Lf) (Z : XZ) (b : Nat) (gf : Nat) (hMV : rgd bX V) (hb2 : b < 2) (hgf : gf < Z.nf) (mo : MO V Z b gf True (QN V b) (QN V b)) (gd : (gf : Int) + 1 = (V 5 6).toInt) (gk : (V 67 gf).toInt = 2)  : Met l yX5_beginCalling (Cond.code yX5_beginCalling cX5_beginCalling 2 none :: GW) (r_x_beginCalling Z) (va_Pc [.ref (ad 5), .ref (Z.fa gf)] (gp D ks (xw ad kk V L Z) (xty kk Z) sz)) (q_x_beginCalling D ks ad kk V L Z  b gf (va_A (xw ad kk V L Z) sz)) (zcc Z) (zss Z) (va_A (xw ad kk V L Z) sz) := by
  refine g_met (q_x_beginCalling D ks ad kk V L Z  b gf) (by decide) (Nat.le_of_ble_eq_true rfl) ?_
  intro p e s m below meth c A ls H locs hx hb hr hml hown hg hlocks hin hnw hgk hP hK hD hS hA hl
  have hown : s.vm.findClass RX5 = some m.cls := hown
  have hl : lv_has ls 2 [(0, .ref (ad 5)), (1, .ref (Z.fa gf))] := hl
  have hP : va_P D vwCl (xw ad kk V L Z) H := hP
  have hD : va_D A (xw ad kk V L Z) := hD
  have hK : va_K D vwCl (xty kk Z) s := hK
  have agV : agr [(5, 6), (5, 9), (5, 11), (5, 12), (5, 13), (5, 14)] [67, 68, 69, 70, 71, 72, 73, 74, 75, 76, 77, 78, 79, 80, 81, 82, 83, 84, 85] V V := agr.rf
  have zoZ : ZL Z Z := ZL.rf
  refine W.know (fun ka kb => ?_)
  refine W.tight (k := zcc Z - zcc Z) (n := zss Z - zss Z) (by omega) (by omega) ?_
  have r1 : 0 ≤ ((V 5 6)).toInt ∧ ((V 5 6)).toInt ≤ 400 := hMV 5 6
  have kdp := i_clamp (x := V 5 6) rfl (by (first | exact om_c66f1b494bd9 gd | omega))
  have hdn : (gf : Int) + 1 ≤ (Z.nf : Int) := by (first | exact om_29efded833ec hgf | omega)
  have mup := MO.up mo
  have msz := mup.1
  have mbk := mup.2.2.2.1
  obtain ⟨xk, fk⟩ := MO.fk mo
  have r2 : (-1) ≤ ((V 71 gf)).toInt ∧ ((V 71 gf)).toInt ≤ 23 := hMV 71 gf
  have r3 : 0 ≤ ((V 75 gf)).toInt ∧ ((V 75 gf)).toInt ≤ 12 := hMV 75 gf
  have r4 : 0 ≤ ((V 80 gf)).toInt ∧ ((V 80 gf)).toInt ≤ 300 := hMV 80 gf
  have r5 : 0 ≤ ((V 84 gf)).toInt ∧ ((V 84 gf)).toInt ≤ 2147483647 := hMV 84 gf
  have r6 : 0 ≤ ((V 5 8)).toInt ∧ ((V 5 8)).toInt ≤ 300 := hMV 5 8
  have r7 : 0 ≤ ((V 5 9)).toInt ∧ ((V 5 9)).toInt ≤ 3 := hMV 5 9
  have r8 : 0 ≤ ((V 3 13)).toInt ∧ ((V 3 13)).toInt ≤ 300 := hMV 3 13
  have r9 : 0 ≤ ((V 43 (5 * b + 2))).toInt ∧ ((V 43 (5 * b + 2))).toInt ≤ ((xcap (5 * b + 2) : Nat) : Int) := hMV 43 (5 * b + 2)
  have r10 : xcap (5 * b + 2) = 24 := xcap_2
  have r11 : 0 ≤ ((V 41 b)).toInt ∧ ((V 41 b)).toInt ≤ 12 := hMV 41 b
  have r12 : 0 ≤ ((V 42 b)).toInt ∧ ((V 42 b)).toInt ≤ 8200 := hMV 42 b
  have fc := fk.1 (by omega)
  have fo : Imp ((V 68 gf).toInt ≠ 0) (0 ≤ (V 70 gf).toInt ∧ (V 70 gf).toInt < (V 3 13).toInt) := Imp.mk (fun h => fk.2.1 (by omega) (by omega))
  have fp := fk.2.2.2.2.2.2.2.1 (by omega)
  refine lv_aload_n hx hb dX5_beginCalling_0 rfl (lv_at hl 0 rfl) ?_
  refine gA_int (gA_runV (As := []) (rest := []) (ci := 5) (q0 := 5) hx hb hml hown hg hP hD hK hS hA hnw hgk (x_takesStep l D ks H.size ad kk V L Z  hMV ) w1281 w1283 w48 w171 w1284 rfl xgMachine hdV_yX5_takesStep ⟨Nat.le_of_ble_eq_true rfl, Nat.le_of_ble_eq_true rfl⟩ rfl hl.1 rfl (Nat.le_of_ble_eq_true rfl) dX5_beginCalling_1 ⟨z0, z0⟩) hP hD hK hS hA (fun z13 u14 H locs w15 hP hD hK hS => ?_)
  obtain ⟨V18, L19⟩ := u14
  obtain ⟨hMV18, ajV18, axL19, rgz13, t16, t17⟩ := w15
  have axL19 : L = L19 := Eq.symm axL19
  subst axL19
  have hP : va_P D vwCl (xw ad kk V18 L Z) H := hP
  have hD : va_D A (xw ad kk V18 L Z) := hD
  have hMV18 : rgd bX V18 := hMV18
  have ajV18 : agr [(5, 9), (5, 13), (5, 14)] [] V V18 := ajV18
  have agV18 : agr [(5, 6), (5, 9), (5, 11), (5, 12), (5, 13), (5, 14)] [67, 68, 69, 70, 71, 72, 73, 74, 75, 76, 77, 78, 79, 80, 81, 82, 83, 84, 85] V V18 := agV.tr ajV18 (by decide) (by decide)
  have rgz13 : 0 ≤ z13.toInt ∧ z13.toInt ≤ 1 := rgz13
  have t16 : Imp (z13.toInt = 0) ((V18 5 9).toInt = 3) := t16
  have t17 : Imp (z13.toInt = 1) ((V18 5 9).toInt = (V 5 9).toInt) := t17
  have r20 : 0 ≤ ((V18 5 9)).toInt ∧ ((V18 5 9)).toInt ≤ 3 := hMV18 5 9
  refine lv_if_ne (tgt := 14) hx hb dX5_beginCalling_4 (by decide) (fun c21 => ?_) (fun c21 => ?_)
  · skip
    have f22 : z13.toInt ≠ 0 := b_neq rfl (by decide) c21
    refine lv_aload_n hx hb dX5_beginCalling_14 rfl (lv_at hl 1 rfl) ?_
    refine va_getN (D := D) (ci := 4) (v := .int (V18 69 gf)) (fs := (xfFrame V18 gf)) (C := RX4) (T := TX4) (N := 19) hx hb hg inX4 hown hK hP (336 + gf) (xgFrame hgf) rfl 2 (by decide) (hnw.use 1191 n1191 rfl) (fun _ h9 => h9) rfl dX5_beginCalling_15 ?_
    refine g_top (v := (V 69 gf)) (ajV18 69 gf rfl) ?_
    refine lv_bipush (v := 10) hx hb dX5_beginCalling_18 (by decide) ?_
    refine lv_icmp_le (tgt := 37) hx hb dX5_beginCalling_20 (by decide) (fun c23 => ?_) (fun c23 => ?_)
    · skip
      have f24 : ((V 69 gf)).toInt ≤ 10 := b_le rfl (by decide) c23
      refine lv_aload_n hx hb dX5_beginCalling_37 rfl (lv_at hl 0 rfl) ?_
      refine va_get (D := D) (ci := 5) (v := .ref (ad 3)) (fs := (xfMachine ad V18 L Z)) (C := RX5) (T := TX5) (N := 15) hx hb hg inX5 hown hK hP 5 xgMachine rfl 0 (by decide) (hg _ w667) (fun _ h9 => h9) rfl dX5_beginCalling_38 ?_
      refine lv_aload_n hx hb dX5_beginCalling_41 rfl (lv_at hl 1 rfl) ?_
      refine va_getN (D := D) (ci := 4) (v := .int (V18 70 gf)) (fs := (xfFrame V18 gf)) (C := RX4) (T := TX4) (N := 19) hx hb hg inX4 hown hK hP (336 + gf) (xgFrame hgf) rfl 3 (by decide) (hnw.use 1192 n1192 rfl) (fun _ h9 => h9) rfl dX5_beginCalling_42 ?_
      refine g_top (v := (V 70 gf)) (ajV18 70 gf rfl) ?_
      refine gA_int (gA_runV (As := [.int (V 70 gf)]) (rest := []) (ci := 8) (q0 := 3) hx hb hml hown hg hP hD hK hS hA hnw hgk (x_isMade l D ks H.size ad kk V18 L Z (V 70 gf) hMV18 ) w1296 w1297 w1298 w164 w1299 rfl xgStock hdV_yX8_isMade ⟨Nat.le_of_ble_eq_true rfl, Nat.le_of_ble_eq_true rfl⟩ rfl hl.1 rfl (Nat.le_of_ble_eq_true rfl) dX5_beginCalling_45 ⟨z0, z0⟩) hP hD hK hS hA (fun z25 u26 H locs w27 hP hD hK hS => ?_)
      obtain ⟨rgz25, t28⟩ := w27
      have rgz25 : 0 ≤ z25.toInt ∧ z25.toInt ≤ 1 := rgz25
      have t28 : Imp (z25.toInt = 1) (0 ≤ ((V 70 gf)).toInt ∧ ((V 70 gf)).toInt < (V18 3 13).toInt) := t28
      have pq29 : (V18 3 13).toInt = ((V 3 13)).toInt := congrArg Int32.toInt (ajV18 3 13 rfl)
      refine lv_if_ne (tgt := 65) hx hb dX5_beginCalling_48 (by decide) (fun c30 => ?_) (fun c30 => ?_)
      · skip
        have f31 : z25.toInt ≠ 0 := b_neq rfl (by decide) c30
        refine lv_aload_n hx hb dX5_beginCalling_65 rfl (lv_at hl 1 rfl) ?_
        refine lv_iconst (v := 1) hx hb dX5_beginCalling_66 (by decide) ?_
        refine va_putN (D := D) (ci := 4) (v := .int 1) (ty := tyX4 1) (fs := (xfFrame V18 gf)) (C := RX4) (T := TX4) (N := 19) hx hb hg inX4 tyX4 tyX4_ok nmX4 hown hK hP hD hS (336 + gf) (xgFrame hgf) rfl 1 (by decide) (hnw.use 1190 n1190 rfl) (fun _ h9 => h9) rfl (tyX4_ok 1 (by decide)) rfl rfl (Nat.le_of_ble_eq_true rfl) dX5_beginCalling_67 (fun H locs hP hD hS => ?_)
        obtain ⟨V32, hV32⟩ : ∃ z, z = up2 V18 68 gf 1 := ⟨_, rfl⟩
        have ew33 : (xw ad kk V18 L Z).set (336 + gf) ((Z.fa gf), .inr (4, (xfFrame V18 gf).set 1 (.int 1))) = xw ad kk V32 L Z := by rw [hV32]; exact xpFrame_phase hgf
        have hP : va_P D vwCl (xw ad kk V32 L Z) H := by rw [← ew33]; exact hP
        have hD : va_D A (xw ad kk V32 L Z) := by rw [← ew33]; exact hD
        have hMV32 : rgd bX V32 := hMV18.put hV32 (i_full _)
        have agV32 : agr [(5, 6), (5, 9), (5, 11), (5, 12), (5, 13), (5, 14)] [67, 68, 69, 70, 71, 72, 73, 74, 75, 76, 77, 78, 79, 80, 81, 82, 83, 84, 85] V V32 := agV18.up hV32 rfl
        refine lv_aload_n hx hb dX5_beginCalling_70 rfl (lv_at hl 0 rfl) ?_
        refine lv_aload_n hx hb dX5_beginCalling_71 rfl (lv_at hl 1 rfl) ?_
        refine lv_iconst (v := 0) hx hb dX5_beginCalling_72 (by decide) ?_
        refine lv_aload_n hx hb dX5_beginCalling_73 rfl (lv_at hl 1 rfl) ?_
        refine va_getN (D := D) (ci := 4) (v := .int (V32 74 gf)) (fs := (xfFrame V32 gf)) (C := RX4) (T := TX4) (N := 19) hx hb hg inX4 hown hK hP (336 + gf) (xgFrame hgf) rfl 7 (by decide) (hnw.use 1196 n1196 rfl) (fun _ h9 => h9) rfl dX5_beginCalling_74 ?_
        refine g_top (v := (V 74 gf)) ((up2_o hV32 (by decide)).trans (ajV18 74 gf rfl)) ?_
        have r34 : Int32.toInt 0 = 0 := by decide
        have pq35 : (V32 71 gf).toInt = ((V 71 gf)).toInt := congrArg Int32.toInt ((up2_o hV32 (by decide)).trans (ajV18 71 gf rfl))
        have pq36 : (V32 43 (5 * b + 2)).toInt = ((V 43 (5 * b + 2))).toInt := congrArg Int32.toInt ((up2_o hV32 (by decide)).trans (ajV18 43 (5 * b + 2) rfl))
        have pq37 : (V32 3 13).toInt = ((V 3 13)).toInt := congrArg Int32.toInt ((up2_o hV32 (by decide)).trans (ajV18 3 13 rfl))
        have pq38 : (V32 70 gf).toInt = ((V 70 gf)).toInt := congrArg Int32.toInt ((up2_o hV32 (by decide)).trans (ajV18 70 gf rfl))
        have me39 : ME V V32 gf := (ME.up (ME.tr ME.rf (ME.ag ajV18 (by decide))) hV32 (Or.inl ⟨by decide, by decide, Nat.le_refl _⟩))
        have pq40 : (V32 67 gf).toInt = ((V 67 gf)).toInt := congrArg Int32.toInt ((up2_o hV32 (by decide)).trans (ajV18 67 gf rfl))
        have pq41 : (V32 68 gf).toInt = 1 := (congrArg Int32.toInt (up2_s hV32)).trans (by decide)
        have pq42 : (V32 75 gf).toInt = ((V 75 gf)).toInt := congrArg Int32.toInt ((up2_o hV32 (by decide)).trans (ajV18 75 gf rfl))
        have pq43 : (V32 76 gf).toInt = ((V 76 gf)).toInt := congrArg Int32.toInt ((up2_o hV32 (by decide)).trans (ajV18 76 gf rfl))
        have pq44 : (V32 80 gf).toInt = ((V 80 gf)).toInt := congrArg Int32.toInt ((up2_o hV32 (by decide)).trans (ajV18 80 gf rfl))
        have pq45 : (V32 84 gf).toInt = ((V 84 gf)).toInt := congrArg Int32.toInt ((up2_o hV32 (by decide)).trans (ajV18 84 gf rfl))
        have pq46 : (V32 5 6).toInt = ((V 5 6)).toInt := congrArg Int32.toInt ((up2_o hV32 (by decide)).trans (ajV18 5 6 rfl))
        have pq47 : (V32 5 8).toInt = ((V 5 8)).toInt := congrArg Int32.toInt ((up2_o hV32 (by decide)).trans (ajV18 5 8 rfl))
        have pq48 : (V32 5 9).toInt = ((V18 5 9)).toInt := congrArg Int32.toInt (up2_o hV32 (by decide))
        have pq49 : (V32 42 b).toInt = ((V 42 b)).toInt := congrArg Int32.toInt ((up2_o hV32 (by decide)).trans (ajV18 42 b rfl))
        have pq50 : (V32 41 b).toInt = ((V 41 b)).toInt := congrArg Int32.toInt ((up2_o hV32 (by decide)).trans (ajV18 41 b rfl))
        have mo51 : MO V32 Z b gf True True True := MO.ch mo me39 ((up2_o hV32 (by decide)).trans (ajV18 67 gf rfl)) ((up2_o hV32 (by decide)).trans (ajV18 80 gf rfl)) (fun _ => Or.inl (by omega)) (fun x h => FK.k2 (by first | omega | ((try (have i_t28 := Imp.go t28 (imp_a (rgz25.1) (rgz25.2) (f31)))); (try (have i_t17 := Imp.go t17 (imp_a (rgz13.1) (rgz13.2) (f22)))); omega) | ((try (have i_t28 := Imp.go t28 (by omega))); (try (have i_t17 := Imp.go t17 (by omega))); (try (have i_t16 := Imp.go t16 (by omega))); (try (have i_fo := Imp.go fo (by omega))); first | omega | ((try (have i_fo := Imp.go fo (by omega))); (try (have i_t16 := Imp.go t16 (by omega))); (try (have i_t17 := Imp.go t17 (by omega))); (try (have i_t28 := Imp.go t28 (by omega))); omega))) (by first | omega | ((try (have i_t28 := Imp.go t28 (imp_a (rgz25.1) (rgz25.2) (f31)))); (try (have i_t17 := Imp.go t17 (imp_a (rgz13.1) (rgz13.2) (f22)))); omega) | ((try (have i_t28 := Imp.go t28 (by omega))); (try (have i_t17 := Imp.go t17 (by omega))); (try (have i_t16 := Imp.go t16 (by omega))); (try (have i_fo := Imp.go fo (by omega))); first | omega | ((try (have i_fo := Imp.go fo (by omega))); (try (have i_t16 := Imp.go t16 (by omega))); (try (have i_t17 := Imp.go t17 (by omega))); (try (have i_t28 := Imp.go t28 (by omega))); omega))) (by first | omega | ((try (have i_t28 := Imp.go t28 (imp_a (rgz25.1) (rgz25.2) (f31)))); (try (have i_t17 := Imp.go t17 (imp_a (rgz13.1) (rgz13.2) (f22)))); omega) | ((try (have i_t28 := Imp.go t28 (by omega))); (try (have i_t17 := Imp.go t17 (by omega))); (try (have i_t16 := Imp.go t16 (by omega))); (try (have i_fo := Imp.go fo (by omega))); first | omega | ((try (have i_fo := Imp.go fo (by omega))); (try (have i_t16 := Imp.go t16 (by omega))); (try (have i_t17 := Imp.go t17 (by omega))); (try (have i_t28 := Imp.go t28 (by omega))); omega))) (by first | omega | ((try (have i_t28 := Imp.go t28 (imp_a (rgz25.1) (rgz25.2) (f31)))); (try (have i_t17 := Imp.go t17 (imp_a (rgz13.1) (rgz13.2) (f22)))); omega) | ((try (have i_t28 := Imp.go t28 (by omega))); (try (have i_t17 := Imp.go t17 (by omega))); (try (have i_t16 := Imp.go t16 (by omega))); (try (have i_fo := Imp.go fo (by omega))); first | omega | ((try (have i_fo := Imp.go fo (by omega))); (try (have i_t16 := Imp.go t16 (by omega))); (try (have i_t17 := Imp.go t17 (by omega))); (try (have i_t28 := Imp.go t28 (by omega))); omega))))
        have mt52 : MT V32 Z b := MO.mt mo51 (by (first | exact om_c09d41618ed8 hgf | omega)) (by (first | exact om_82fa09255765 gd pq46 | omega))
        refine W.know (fun k54 k55 => ?_)
        obtain ⟨Hk53, hHk53⟩ : ∃ z, z = H := ⟨_, rfl⟩
        have k54 : Hk53.size ≤ s.heap.size + (zcc Z - zcc Z) := by rw [hHk53]; exact k54
        have k55 : tot Hk53 ≤ tot s.heap + (zss Z - zss Z) := by rw [hHk53]; exact k55
        refine gZ_void (gA_runV (As := [.ref (Z.fa gf), .int 0, .int (V 74 gf)]) (rest := []) (ci := 5) (q0 := 5) hx hb hml hown hg hP hD hK hS hA hnw hgk (x_pushInside l D ks H.size ad kk V32 L Z 0 (V 74 gf) (b) (gf) hMV32 (by decide) (show b < 2 from by first | exact om_f940a4667dd6 hb2 | first | omega | ((try (have i_t28 := Imp.go t28 (imp_a (rgz25.1) (rgz25.2) (f31)))); (try (have i_t17 := Imp.go t17 (imp_a (rgz13.1) (rgz13.2) (f22)))); omega) | ((try (have i_t28 := Imp.go t28 (by omega))); (try (have i_t17 := Imp.go t17 (by omega))); (try (have i_t16 := Imp.go t16 (by omega))); (try (have i_fo := Imp.go fo (by omega))); first | omega | ((try (have i_fo := Imp.go fo (by omega))); (try (have i_t16 := Imp.go t16 (by omega))); (try (have i_t17 := Imp.go t17 (by omega))); (try (have i_t28 := Imp.go t28 (by omega))); omega))) (show gf < Z.nf from by first | exact om_8c5722e49bb1 hgf | first | omega | ((try (have i_t28 := Imp.go t28 (imp_a (rgz25.1) (rgz25.2) (f31)))); (try (have i_t17 := Imp.go t17 (imp_a (rgz13.1) (rgz13.2) (f22)))); omega) | ((try (have i_t28 := Imp.go t28 (by omega))); (try (have i_t17 := Imp.go t17 (by omega))); (try (have i_t16 := Imp.go t16 (by omega))); (try (have i_fo := Imp.go fo (by omega))); first | omega | ((try (have i_fo := Imp.go fo (by omega))); (try (have i_t16 := Imp.go t16 (by omega))); (try (have i_t17 := Imp.go t17 (by omega))); (try (have i_t28 := Imp.go t28 (by omega))); omega))) mt52 (show 0 ≤ (V32 71 gf).toInt ∧ (V32 71 gf).toInt < (V32 43 (5 * b + 2)).toInt from by first | omega | ((try (have i_t28 := Imp.go t28 (imp_a (rgz25.1) (rgz25.2) (f31)))); (try (have i_t17 := Imp.go t17 (imp_a (rgz13.1) (rgz13.2) (f22)))); omega) | ((try (have i_t28 := Imp.go t28 (by omega))); (try (have i_t17 := Imp.go t17 (by omega))); (try (have i_t16 := Imp.go t16 (by omega))); (try (have i_fo := Imp.go fo (by omega))); first | omega | ((try (have i_fo := Imp.go fo (by omega))); (try (have i_t16 := Imp.go t16 (by omega))); (try (have i_t17 := Imp.go t17 (by omega))); (try (have i_t28 := Imp.go t28 (by omega))); omega))) (show 0 ≤ (V32 70 gf).toInt ∧ (V32 70 gf).toInt < (V32 3 13).toInt from by first | exact om_71a4721e0839 pq29 pq37 pq38 ((Imp.go t28 (imp_a (rgz25.1) (rgz25.2) (f31))).1) ((Imp.go t28 (imp_a (rgz25.1) (rgz25.2) (f31))).2) | first | omega | ((try (have i_t28 := Imp.go t28 (imp_a (rgz25.1) (rgz25.2) (f31)))); (try (have i_t17 := Imp.go t17 (imp_a (rgz13.1) (rgz13.2) (f22)))); omega) | ((try (have i_t28 := Imp.go t28 (by omega))); (try (have i_t17 := Imp.go t17 (by omega))); (try (have i_t16 := Imp.go t16 (by omega))); (try (have i_fo := Imp.go fo (by omega))); first | omega | ((try (have i_fo := Imp.go fo (by omega))); (try (have i_t16 := Imp.go t16 (by omega))); (try (have i_t17 := Imp.go t17 (by omega))); (try (have i_t28 := Imp.go t28 (by omega))); omega)))) w1388 w1390 w60 w171 w1391 rfl xgMachine hdV_yX5_pushInside ⟨Nat.le_of_ble_eq_true rfl, Nat.le_of_ble_eq_true rfl⟩ rfl hl.1 rfl (Nat.le_of_ble_eq_true rfl) dX5_beginCalling_77 ⟨z1 zoZ.1, z1 zoZ.2.1⟩) hD hS hA (fun u57 H locs w58 hP hD hK hS y59 y60 => ?_)
        obtain ⟨V61, L62, Z63⟩ := u57
        obtain ⟨hMV61, ajV61, axL62, zlZ63, t65⟩ := w58
        have axL62 : L = L62 := Eq.symm axL62
        subst axL62
        have hP : va_P D vwCl (xw ad kk V61 L Z63) H := hP
        have hD : va_D A (xw ad kk V61 L Z63) := hD
        have hK : va_K D vwCl (xty kk Z63) s := hK
        have hMV61 : rgd bX V61 := hMV61
        have ajV61 : agr [(5, 6), (5, 9)] [67, 68, 69, 70, 71, 72, 73, 74, 75, 76, 77, 78, 79, 80, 81, 82, 83, 84, 85] V32 V61 := ajV61
        have agV61 : agr [(5, 6), (5, 9), (5, 11), (5, 12), (5, 13), (5, 14)] [67, 68, 69, 70, 71, 72, 73, 74, 75, 76, 77, 78, 79, 80, 81, 82, 83, 84, 85] V V61 := agV32.tr ajV61 (by decide) (by decide)
        have zlZ63 : ZL Z Z63 := zlZ63
        have zoZ63 : ZL Z Z63 := ZL.tr zoZ zlZ63
        have ziZ63 := zlZ63.1
        have zjZ63 := zlZ63.2.1
        have zkZ63 := zlZ63.2.2.1
        have zmZ63 := zoZ63.1
        have znZ63 := zoZ63.2.1
        have zpZ_Z63 := zoZ.1
        have zqZ_Z63 := zoZ.2.1
        have y59 : H.size ≤ Hk53.size + (zcc Z - zcc Z63) := by rw [hHk53]; exact y59
        have y60 : tot H ≤ tot Hk53 + (zss Z - zss Z63) := by rw [hHk53]; exact y60
        refine W.tight (k := zcc Z - zcc Z63) (n := zss Z - zss Z63) (by first | exact tg9 y59 k54 zlZ63.1 zoZ.1 | omega) (by first | exact tg9 y60 k55 zlZ63.2.1 zoZ.2.1 | omega) ?_
        have hl : lv_has ls 2 [(0, .ref (ad 5)), (1, .ref (Z63.fa gf))] := by rw [zlZ63.2.2.2.2 gf hgf]; exact hl
        have t65 : MJ V61 Z63 b := t65
        refine W.know (fun kr1 kr2 => ?_)
        refine W.widen (k := zcc Z) (n := zss Z) (Nat.sub_le _ _) (Nat.sub_le _ _) ?_
        exact W.vret hx hb hr (fun t ht hW => ⟨⟨(V61, L, Z63), rfl, ⟨hMV61, agV61, rfl, zoZ63, t65⟩, ⟨by rw [ht]; exact hP, va_K.moved hW.alike hK, hD⟩, by rw [ht]; exact kr1, by rw [ht]; exact kr2⟩, hS.F ht⟩) hS.2.2 dX5_beginCalling_80
      · skip
        have f66 : z25.toInt = 0 := b_eq rfl (by decide) c30
        refine lv_aload_n hx hb dX5_beginCalling_51 rfl (lv_at hl 0 rfl) ?_
        refine lv_iconst (v := 0) hx hb dX5_beginCalling_52 (by decide) ?_
        refine lv_bipush (v := 17) hx hb dX5_beginCalling_53 (by decide) ?_
        have r67 : Int32.toInt 0 = 0 := by decide
        have r68 : Int32.toInt 17 = 17 := by decide
        refine gA_void (gA_runV (As := [.int 0, .int 17]) (rest := []) (ci := 5) (q0 := 5) hx hb hml hown hg hP hD hK hS hA hnw hgk (x_failWith l D ks H.size ad kk V18 L Z 0 17 hMV18 ) w1261 w1263 w46 w171 w1264 rfl xgMachine hdV_yX5_failWith ⟨Nat.le_of_ble_eq_true rfl, Nat.le_of_ble_eq_true rfl⟩ rfl hl.1 rfl (Nat.le_of_ble_eq_true rfl) dX5_beginCalling_55 ⟨z0, z0⟩) hP hD hK hS hA (fun u70 H locs w71 hP hD hK hS => ?_)
        obtain ⟨V73, L74⟩ := u70
        obtain ⟨hMV73, ajV73, axL74, t72⟩ := w71
        have axL74 : L = L74 := Eq.symm axL74
        subst axL74
        have hP : va_P D vwCl (xw ad kk V73 L Z) H := hP
        have hD : va_D A (xw ad kk V73 L Z) := hD
        have hMV73 : rgd bX V73 := hMV73
        have ajV73 : agr [(5, 9), (5, 11), (5, 12)] [] V18 V73 := ajV73
        have agV73 : agr [(5, 6), (5, 9), (5, 11), (5, 12), (5, 13), (5, 14)] [67, 68, 69, 70, 71, 72, 73, 74, 75, 76, 77, 78, 79, 80, 81, 82, 83, 84, 85] V V73 := agV18.tr ajV73 (by decide) (by decide)
        have t72 : (V73 5 9).toInt = 2 := t72
        have r75 : 0 ≤ ((V73 5 9)).toInt ∧ ((V73 5 9)).toInt ≤ 3 := hMV73 5 9
        refine lv_aload_n hx hb dX5_beginCalling_58 rfl (lv_at hl 0 rfl) ?_
        have pq76 : (V73 5 6).toInt = ((V 5 6)).toInt := congrArg Int32.toInt ((ajV73 5 6 rfl).trans (ajV18 5 6 rfl))
        refine gA_void (gA_runV (As := []) (rest := []) (ci := 5) (q0 := 5) hx hb hml hown hg hP hD hK hS hA hnw hgk (x_leave l D ks H.size ad kk V73 L Z  hMV73 (show 1 ≤ (V73 5 6).toInt from by first | exact om_0cac171fa40c gd pq76 | first | omega | ((try (have i_t17 := Imp.go t17 (imp_a (rgz13.1) (rgz13.2) (f22)))); omega) | ((try (have i_t28 := Imp.go t28 (by omega))); (try (have i_t17 := Imp.go t17 (by omega))); (try (have i_t16 := Imp.go t16 (by omega))); (try (have i_fo := Imp.go fo (by omega))); first | omega | ((try (have i_fo := Imp.go fo (by omega))); (try (have i_t16 := Imp.go t16 (by omega))); (try (have i_t17 := Imp.go t17 (by omega))); (try (have i_t28 := Imp.go t28 (by omega))); omega)))) w1308 w1310 w50 w171 w1311 rfl xgMachine hdV_yX5_leave ⟨Nat.le_of_ble_eq_true rfl, Nat.le_of_ble_eq_true rfl⟩ rfl hl.1 rfl (Nat.le_of_ble_eq_true rfl) dX5_beginCalling_59 ⟨z0, z0⟩) hP hD hK hS hA (fun u78 H locs w79 hP hD hK hS => ?_)
        obtain ⟨V81, L82⟩ := u78
        obtain ⟨hMV81, ajV81, axL82, t80⟩ := w79
        have axL82 : L = L82 := Eq.symm axL82
        subst axL82
        have hP : va_P D vwCl (xw ad kk V81 L Z) H := hP
        have hD : va_D A (xw ad kk V81 L Z) := hD
        have hMV81 : rgd bX V81 := hMV81
        have ajV81 : agr [(5, 6)] [] V73 V81 := ajV81
        have agV81 : agr [(5, 6), (5, 9), (5, 11), (5, 12), (5, 13), (5, 14)] [67, 68, 69, 70, 71, 72, 73, 74, 75, 76, 77, 78, 79, 80, 81, 82, 83, 84, 85] V V81 := agV73.tr ajV81 (by decide) (by decide)
        have t80 : (V81 5 6).toInt = (V73 5 6).toInt - 1 := t80
        have r83 : 0 ≤ ((V81 5 6)).toInt ∧ ((V81 5 6)).toInt ≤ 400 := hMV81 5 6
        refine lv_goto (tgt := 80) hx hb dX5_beginCalling_62 (by decide) ?_
        have me84 : ME V V81 gf := (ME.tr (ME.tr (ME.tr ME.rf (ME.ag ajV18 (by decide))) (ME.ag ajV73 (by decide))) (ME.ag ajV81 (by decide)))
        have pq85 : (V81 67 gf).toInt = ((V 67 gf)).toInt := congrArg Int32.toInt ((ajV81 67 gf rfl).trans ((ajV73 67 gf rfl).trans (ajV18 67 gf rfl)))
        have pq86 : (V81 68 gf).toInt = ((V 68 gf)).toInt := congrArg Int32.toInt ((ajV81 68 gf rfl).trans ((ajV73 68 gf rfl).trans (ajV18 68 gf rfl)))
        have pq87 : (V81 70 gf).toInt = ((V 70 gf)).toInt := congrArg Int32.toInt ((ajV81 70 gf rfl).trans ((ajV73 70 gf rfl).trans (ajV18 70 gf rfl)))
        have pq88 : (V81 71 gf).toInt = ((V 71 gf)).toInt := congrArg Int32.toInt ((ajV81 71 gf rfl).trans ((ajV73 71 gf rfl).trans (ajV18 71 gf rfl)))
        have pq89 : (V81 75 gf).toInt = ((V 75 gf)).toInt := congrArg Int32.toInt ((ajV81 75 gf rfl).trans ((ajV73 75 gf rfl).trans (ajV18 75 gf rfl)))
        have pq90 : (V81 76 gf).toInt = ((V 76 gf)).toInt := congrArg Int32.toInt ((ajV81 76 gf rfl).trans ((ajV73 76 gf rfl).trans (ajV18 76 gf rfl)))
        have pq91 : (V81 80 gf).toInt = ((V 80 gf)).toInt := congrArg Int32.toInt ((ajV81 80 gf rfl).trans ((ajV73 80 gf rfl).trans (ajV18 80 gf rfl)))
        have pq92 : (V81 84 gf).toInt = ((V 84 gf)).toInt := congrArg Int32.toInt ((ajV81 84 gf rfl).trans ((ajV73 84 gf rfl).trans (ajV18 84 gf rfl)))
        have pq93 : (V81 5 8).toInt = ((V 5 8)).toInt := congrArg Int32.toInt ((ajV81 5 8 rfl).trans ((ajV73 5 8 rfl).trans (ajV18 5 8 rfl)))
        have pq94 : (V81 5 9).toInt = ((V73 5 9)).toInt := congrArg Int32.toInt (ajV81 5 9 rfl)
        have pq95 : (V81 3 13).toInt = ((V 3 13)).toInt := congrArg Int32.toInt ((ajV81 3 13 rfl).trans ((ajV73 3 13 rfl).trans (ajV18 3 13 rfl)))
        have pq96 : (V81 43 (5 * b + 2)).toInt = ((V 43 (5 * b + 2))).toInt := congrArg Int32.toInt ((ajV81 43 (5 * b + 2) rfl).trans ((ajV73 43 (5 * b + 2) rfl).trans (ajV18 43 (5 * b + 2) rfl)))
        have pq97 : (V81 42 b).toInt = ((V 42 b)).toInt := congrArg Int32.toInt ((ajV81 42 b rfl).trans ((ajV73 42 b rfl).trans (ajV18 42 b rfl)))
        have pq98 : (V81 41 b).toInt = ((V 41 b)).toInt := congrArg Int32.toInt ((ajV81 41 b rfl).trans ((ajV73 41 b rfl).trans (ajV18 41 b rfl)))
        have rp99 : MJ V81 Z b := MP.lv (MO.mp mo) me84 (by (first | exact om_5ac7632c8ef3 gd pq76 t80 | omega)) (fun _ => Or.inl (by omega))
        refine W.know (fun kr1 kr2 => ?_)
        refine W.widen (k := zcc Z) (n := zss Z) (Nat.sub_le _ _) (Nat.sub_le _ _) ?_
        exact W.vret hx hb hr (fun t ht hW => ⟨⟨(V81, L, Z), rfl, ⟨hMV81, agV81, rfl, zoZ, rp99⟩, ⟨by rw [ht]; exact hP, va_K.moved hW.alike hK, hD⟩, by rw [ht]; exact kr1, by rw [ht]; exact kr2⟩, hS.F ht⟩) hS.2.2 dX5_beginCalling_80
    · skip
      have f100 : 10 < ((V 69 gf)).toInt := b_nle rfl (by decide) c23
      refine lv_aload_n hx hb dX5_beginCalling_23 rfl (lv_at hl 0 rfl) ?_
      refine lv_iconst (v := 0) hx hb dX5_beginCalling_24 (by decide) ?_
      refine lv_bipush (v := 13) hx hb dX5_beginCalling_25 (by decide) ?_
      have r101 : Int32.toInt 0 = 0 := by decide
      have r102 : Int32.toInt 13 = 13 := by decide
      refine gA_void (gA_runV (As := [.int 0, .int 13]) (rest := []) (ci := 5) (q0 := 5) hx hb hml hown hg hP hD hK hS hA hnw hgk (x_failWith l D ks H.size ad kk V18 L Z 0 13 hMV18 ) w1261 w1263 w46 w171 w1264 rfl xgMachine hdV_yX5_failWith ⟨Nat.le_of_ble_eq_true rfl, Nat.le_of_ble_eq_true rfl⟩ rfl hl.1 rfl (Nat.le_of_ble_eq_true rfl) dX5_beginCalling_27 ⟨z0, z0⟩) hP hD hK hS hA (fun u104 H locs w105 hP hD hK hS => ?_)
      obtain ⟨V107, L108⟩ := u104
      obtain ⟨hMV107, ajV107, axL108, t106⟩ := w105
      have axL108 : L = L108 := Eq.symm axL108
      subst axL108
      have hP : va_P D vwCl (xw ad kk V107 L Z) H := hP
      have hD : va_D A (xw ad kk V107 L Z) := hD
      have hMV107 : rgd bX V107 := hMV107
      have ajV107 : agr [(5, 9), (5, 11), (5, 12)] [] V18 V107 := ajV107
      have agV107 : agr [(5, 6), (5, 9), (5, 11), (5, 12), (5, 13), (5, 14)] [67, 68, 69, 70, 71, 72, 73, 74, 75, 76, 77, 78, 79, 80, 81, 82, 83, 84, 85] V V107 := agV18.tr ajV107 (by decide) (by decide)
      have t106 : (V107 5 9).toInt = 2 := t106
      have r109 : 0 ≤ ((V107 5 9)).toInt ∧ ((V107 5 9)).toInt ≤ 3 := hMV107 5 9
      refine lv_aload_n hx hb dX5_beginCalling_30 rfl (lv_at hl 0 rfl) ?_
      have pq110 : (V107 5 6).toInt = ((V 5 6)).toInt := congrArg Int32.toInt ((ajV107 5 6 rfl).trans (ajV18 5 6 rfl))
      refine gA_void (gA_runV (As := []) (rest := []) (ci := 5) (q0 := 5) hx hb hml hown hg hP hD hK hS hA hnw hgk (x_leave l D ks H.size ad kk V107 L Z  hMV107 (show 1 ≤ (V107 5 6).toInt from by first | exact om_0cac171fa40c gd pq110 | first | omega | ((try (have i_t17 := Imp.go t17 (by omega))); (try (have i_t16 := Imp.go t16 (by omega))); (try (have i_fo := Imp.go fo (by omega))); (try (have i_fo := Imp.go fo (by omega))); (try (have i_t16 := Imp.go t16 (by omega))); (try (have i_t17 := Imp.go t17 (by omega))); omega))) w1308 w1310 w50 w171 w1311 rfl xgMachine hdV_yX5_leave ⟨Nat.le_of_ble_eq_true rfl, Nat.le_of_ble_eq_true rfl⟩ rfl hl.1 rfl (Nat.le_of_ble_eq_true rfl) dX5_beginCalling_31 ⟨z0, z0⟩) hP hD hK hS hA (fun u112 H locs w113 hP hD hK hS => ?_)
      obtain ⟨V115, L116⟩ := u112
      obtain ⟨hMV115, ajV115, axL116, t114⟩ := w113
      have axL116 : L = L116 := Eq.symm axL116
      subst axL116
      have hP : va_P D vwCl (xw ad kk V115 L Z) H := hP
      have hD : va_D A (xw ad kk V115 L Z) := hD
      have hMV115 : rgd bX V115 := hMV115
      have ajV115 : agr [(5, 6)] [] V107 V115 := ajV115
      have agV115 : agr [(5, 6), (5, 9), (5, 11), (5, 12), (5, 13), (5, 14)] [67, 68, 69, 70, 71, 72, 73, 74, 75, 76, 77, 78, 79, 80, 81, 82, 83, 84, 85] V V115 := agV107.tr ajV115 (by decide) (by decide)
      have t114 : (V115 5 6).toInt = (V107 5 6).toInt - 1 := t114
      have r117 : 0 ≤ ((V115 5 6)).toInt ∧ ((V115 5 6)).toInt ≤ 400 := hMV115 5 6
      refine lv_goto (tgt := 80) hx hb dX5_beginCalling_34 (by decide) ?_
      have me118 : ME V V115 gf := (ME.tr (ME.tr (ME.tr ME.rf (ME.ag ajV18 (by decide))) (ME.ag ajV107 (by decide))) (ME.ag ajV115 (by decide)))
      have pq119 : (V115 67 gf).toInt = ((V 67 gf)).toInt := congrArg Int32.toInt ((ajV115 67 gf rfl).trans ((ajV107 67 gf rfl).trans (ajV18 67 gf rfl)))
      have pq120 : (V115 68 gf).toInt = ((V 68 gf)).toInt := congrArg Int32.toInt ((ajV115 68 gf rfl).trans ((ajV107 68 gf rfl).trans (ajV18 68 gf rfl)))
      have pq121 : (V115 70 gf).toInt = ((V 70 gf)).toInt := congrArg Int32.toInt ((ajV115 70 gf rfl).trans ((ajV107 70 gf rfl).trans (ajV18 70 gf rfl)))
      have pq122 : (V115 71 gf).toInt = ((V 71 gf)).toInt := congrArg Int32.toInt ((ajV115 71 gf rfl).trans ((ajV107 71 gf rfl).trans (ajV18 71 gf rfl)))
      have pq123 : (V115 75 gf).toInt = ((V 75 gf)).toInt := congrArg Int32.toInt ((ajV115 75 gf rfl).trans ((ajV107 75 gf rfl).trans (ajV18 75 gf rfl)))
      have pq124 : (V115 76 gf).toInt = ((V 76 gf)).toInt := congrArg Int32.toInt ((ajV115 76 gf rfl).trans ((ajV107 76 gf rfl).trans (ajV18 76 gf rfl)))
      have pq125 : (V115 80 gf).toInt = ((V 80 gf)).toInt := congrArg Int32.toInt ((ajV115 80 gf rfl).trans ((ajV107 80 gf rfl).trans (ajV18 80 gf rfl)))
      have pq126 : (V115 84 gf).toInt = ((V 84 gf)).toInt := congrArg Int32.toInt ((ajV115 84 gf rfl).trans ((ajV107 84 gf rfl).trans (ajV18 84 gf rfl)))
      have pq127 : (V115 5 8).toInt = ((V 5 8)).toInt := congrArg Int32.toInt ((ajV115 5 8 rfl).trans ((ajV107 5 8 rfl).trans (ajV18 5 8 rfl)))
      have pq128 : (V115 5 9).toInt = ((V107 5 9)).toInt := congrArg Int32.toInt (ajV115 5 9 rfl)
      have pq129 : (V115 3 13).toInt = ((V 3 13)).toInt := congrArg Int32.toInt ((ajV115 3 13 rfl).trans ((ajV107 3 13 rfl).trans (ajV18 3 13 rfl)))
      have pq130 : (V115 43 (5 * b + 2)).toInt = ((V 43 (5 * b + 2))).toInt := congrArg Int32.toInt ((ajV115 43 (5 * b + 2) rfl).trans ((ajV107 43 (5 * b + 2) rfl).trans (ajV18 43 (5 * b + 2) rfl)))
      have pq131 : (V115 42 b).toInt = ((V 42 b)).toInt := congrArg Int32.toInt ((ajV115 42 b rfl).trans ((ajV107 42 b rfl).trans (ajV18 42 b rfl)))
      have pq132 : (V115 41 b).toInt = ((V 41 b)).toInt := congrArg Int32.toInt ((ajV115 41 b rfl).trans ((ajV107 41 b rfl).trans (ajV18 41 b rfl)))
      have rp133 : MJ V115 Z b := MP.lv (MO.mp mo) me118 (by (first | exact om_5ac7632c8ef3 gd pq110 t114 | omega)) (fun _ => Or.inl (by omega))
      refine W.know (fun kr1 kr2 => ?_)
      refine W.widen (k := zcc Z) (n := zss Z) (Nat.sub_le _ _) (Nat.sub_le _ _) ?_
      exact W.vret hx hb hr (fun t ht hW => ⟨⟨(V115, L, Z), rfl, ⟨hMV115, agV115, rfl, zoZ, rp133⟩, ⟨by rw [ht]; exact hP, va_K.moved hW.alike hK, hD⟩, by rw [ht]; exact kr1, by rw [ht]; exact kr2⟩, hS.F ht⟩) hS.2.2 dX5_beginCalling_80
  · skip
    have f134 : z13.toInt = 0 := b_eq rfl (by decide) c21
    refine lv_aload_n hx hb dX5_beginCalling_7 rfl (lv_at hl 0 rfl) ?_
    have pq135 : (V18 5 6).toInt = ((V 5 6)).toInt := congrArg Int32.toInt (ajV18 5 6 rfl)
    refine gA_void (gA_runV (As := []) (rest := []) (ci := 5) (q0 := 5) hx hb hml hown hg hP hD hK hS hA hnw hgk (x_leave l D ks H.size ad kk V18 L Z  hMV18 (show 1 ≤ (V18 5 6).toInt from by first | exact om_0cac171fa40c gd pq135 | first | omega | ((try (have i_t17 := Imp.go t17 (by omega))); (try (have i_t16 := Imp.go t16 (by omega))); (try (have i_fo := Imp.go fo (by omega))); (try (have i_fo := Imp.go fo (by omega))); (try (have i_t16 := Imp.go t16 (by omega))); (try (have i_t17 := Imp.go t17 (by omega))); omega))) w1308 w1310 w50 w171 w1311 rfl xgMachine hdV_yX5_leave ⟨Nat.le_of_ble_eq_true rfl, Nat.le_of_ble_eq_true rfl⟩ rfl hl.1 rfl (Nat.le_of_ble_eq_true rfl) dX5_beginCalling_8 ⟨z0, z0⟩) hP hD hK hS hA (fun u137 H locs w138 hP hD hK hS => ?_)
    obtain ⟨V140, L141⟩ := u137
    obtain ⟨hMV140, ajV140, axL141, t139⟩ := w138
    have axL141 : L = L141 := Eq.symm axL141
    subst axL141
    have hP : va_P D vwCl (xw ad kk V140 L Z) H := hP
    have hD : va_D A (xw ad kk V140 L Z) := hD
    have hMV140 : rgd bX V140 := hMV140
    have ajV140 : agr [(5, 6)] [] V18 V140 := ajV140
    have agV140 : agr [(5, 6), (5, 9), (5, 11), (5, 12), (5, 13), (5, 14)] [67, 68, 69, 70, 71, 72, 73, 74, 75, 76, 77, 78, 79, 80, 81, 82, 83, 84, 85] V V140 := agV18.tr ajV140 (by decide) (by decide)
    have t139 : (V140 5 6).toInt = (V18 5 6).toInt - 1 := t139
    have r142 : 0 ≤ ((V140 5 6)).toInt ∧ ((V140 5 6)).toInt ≤ 400 := hMV140 5 6
    refine lv_goto (tgt := 80) hx hb dX5_beginCalling_11 (by decide) ?_
    have me143 : ME V V140 gf := (ME.tr (ME.tr ME.rf (ME.ag ajV18 (by decide))) (ME.ag ajV140 (by decide)))
    have pq144 : (V140 67 gf).toInt = ((V 67 gf)).toInt := congrArg Int32.toInt ((ajV140 67 gf rfl).trans (ajV18 67 gf rfl))
    have pq145 : (V140 68 gf).toInt = ((V 68 gf)).toInt := congrArg Int32.toInt ((ajV140 68 gf rfl).trans (ajV18 68 gf rfl))
    have pq146 : (V140 70 gf).toInt = ((V 70 gf)).toInt := congrArg Int32.toInt ((ajV140 70 gf rfl).trans (ajV18 70 gf rfl))
    have pq147 : (V140 71 gf).toInt = ((V 71 gf)).toInt := congrArg Int32.toInt ((ajV140 71 gf rfl).trans (ajV18 71 gf rfl))
    have pq148 : (V140 75 gf).toInt = ((V 75 gf)).toInt := congrArg Int32.toInt ((ajV140 75 gf rfl).trans (ajV18 75 gf rfl))
    have pq149 : (V140 76 gf).toInt = ((V 76 gf)).toInt := congrArg Int32.toInt ((ajV140 76 gf rfl).trans (ajV18 76 gf rfl))
    have pq150 : (V140 80 gf).toInt = ((V 80 gf)).toInt := congrArg Int32.toInt ((ajV140 80 gf rfl).trans (ajV18 80 gf rfl))
    have pq151 : (V140 84 gf).toInt = ((V 84 gf)).toInt := congrArg Int32.toInt ((ajV140 84 gf rfl).trans (ajV18 84 gf rfl))
    have pq152 : (V140 5 8).toInt = ((V 5 8)).toInt := congrArg Int32.toInt ((ajV140 5 8 rfl).trans (ajV18 5 8 rfl))
    have pq153 : (V140 5 9).toInt = ((V18 5 9)).toInt := congrArg Int32.toInt (ajV140 5 9 rfl)
    have pq154 : (V140 3 13).toInt = ((V 3 13)).toInt := congrArg Int32.toInt ((ajV140 3 13 rfl).trans (ajV18 3 13 rfl))
    have pq155 : (V140 43 (5 * b + 2)).toInt = ((V 43 (5 * b + 2))).toInt := congrArg Int32.toInt ((ajV140 43 (5 * b + 2) rfl).trans (ajV18 43 (5 * b + 2) rfl))
    have pq156 : (V140 42 b).toInt = ((V 42 b)).toInt := congrArg Int32.toInt ((ajV140 42 b rfl).trans (ajV18 42 b rfl))
    have pq157 : (V140 41 b).toInt = ((V 41 b)).toInt := congrArg Int32.toInt ((ajV140 41 b rfl).trans (ajV18 41 b rfl))
    have rp158 : MJ V140 Z b := MP.lv (MO.mp mo) me143 (by (first | exact om_5ac7632c8ef3 gd pq135 t139 | omega)) (fun _ => Or.inl (by omega))
    refine W.know (fun kr1 kr2 => ?_)
    refine W.widen (k := zcc Z) (n := zss Z) (Nat.sub_le _ _) (Nat.sub_le _ _) ?_
    exact W.vret hx hb hr (fun t ht hW => ⟨⟨(V140, L, Z), rfl, ⟨hMV140, agV140, rfl, zoZ, rp158⟩, ⟨by rw [ht]; exact hP, va_K.moved hW.alike hK, hD⟩, by rw [ht]; exact kr1, by rw [ht]; exact kr2⟩, hS.F ht⟩) hS.2.2 dX5_beginCalling_80
abbrev r_x_goOnCalling (Z : XZ) : Room := { frames := 5, cells := zcc Z, slots := zss Z, locals := 115 }
abbrev q_x_goOnCalling (D : va_G) (ks : KS) (ad : Nat → Nat) (kk : Nat → ClassId) (V : Vf) (L : Lf) (Z : XZ) (b : Nat) (gf : Nat) (A : Nat → Prop) : Array Value → State → Outcome → State → Prop := qZv D (fun (u : Vf × Lf × XZ) => rgd bX u.1 ∧ agr [(4, 5), (5, 6), (5, 9), (5, 11), (5, 12), (5, 13), (5, 14)] [33, 34, 35, 67, 68, 69, 70, 71, 72, 73, 74, 75, 76, 77, 78, 79, 80, 81, 82, 83, 84, 85] V u.1 ∧ u.2.1 = L ∧ ZL Z u.2.2 ∧ (MJ u.1 u.2.2 b)) (fun u => xw ad kk u.1 u.2.1 u.2.2) (fun u => xty kk u.2.2) (fun u => zcc Z - zcc u.2.2) (fun u => zss Z - zss u.2.2) A
set_option maxHeartbeats 4000000 in
set_option maxRecDepth 100000 in
theorem x_goOnCalling (l : Launch) (D : va_G) (ks : KS) (sz : Nat) (ad : Nat → Nat) (kk : Nat → ClassId) (V : Vf) (L : Lf) (Z : XZ) (b : Nat) (gf : Nat) (hMV : rgd bX V) (hb2 : b < 2) (hgf : gf < Z.nf) (mo : MO V Z b gf True (QN V b) (QN V b)) (gd : (gf : Int) + 1 = (V 5 6).toInt) (gk : (V 67 gf).toInt = 2)  : Met l yX5_goOnCalling (Cond.code yX5_goOnCalling cX5_goOnCalling 3 none :: GW) (r_x_goOnCalling Z) (va_Pc [.ref (ad 5), .ref (Z.fa gf)] (gp D ks (xw ad kk V L Z) (xty kk Z) sz)) (q_x_goOnCalling D ks ad kk V L Z  b gf (va_A (xw ad kk V L Z) sz)) (zcc Z) (zss Z) (va_A (xw ad kk V L Z) sz) := by
  refine g_met (q_x_goOnCalling D ks ad kk V L Z  b gf) (by decide) (Nat.le_of_ble_eq_true rfl) ?_
  intro p e s m below meth c A ls H locs hx hb hr hml hown hg hlocks hin hnw hgk hP hK hD hS hA hl
  have hown : s.vm.findClass RX5 = some m.cls := hown
  have hl : lv_has ls 3 [(0, .ref (ad 5)), (1, .ref (Z.fa gf))] := hl
  have hP : va_P D vwCl (xw ad kk V L Z) H := hP
  have hD : va_D A (xw ad kk V L Z) := hD
  have hK : va_K D vwCl (xty kk Z) s := hK
  have agV : agr [(4, 5), (5, 6), (5, 9), (5, 11), (5, 12), (5, 13), (5, 14)] [33, 34, 35, 67, 68, 69, 70, 71, 72, 73, 74, 75, 76, 77, 78, 79, 80, 81, 82, 83, 84, 85] V V := agr.rf
  have zoZ : ZL Z Z := ZL.rf
  refine W.know (fun ka kb => ?_)
  refine W.tight (k := zcc Z - zcc Z) (n := zss Z - zss Z) (by omega) (by omega) ?_
  have r1 : 0 ≤ ((V 5 6)).toInt ∧ ((V 5 6)).toInt ≤ 400 := hMV 5 6
  have kdp := i_clamp (x := V 5 6) rfl (by (first | exact om_c66f1b494bd9 gd | omega))
  have hdn : (gf : Int) + 1 ≤ (Z.nf : Int) := by (first | exact om_29efded833ec hgf | omega)
  have mup := MO.up mo
  have msz := mup.1
  have mbk := mup.2.2.2.1
  obtain ⟨xk, fk⟩ := MO.fk mo
  have r2 : (-1) ≤ ((V 71 gf)).toInt ∧ ((V 71 gf)).toInt ≤ 23 := hMV 71 gf
  have r3 : 0 ≤ ((V 75 gf)).toInt ∧ ((V 75 gf)).toInt ≤ 12 := hMV 75 gf
  have r4 : 0 ≤ ((V 80 gf)).toInt ∧ ((V 80 gf)).toInt ≤ 300 := hMV 80 gf
  have r5 : 0 ≤ ((V 84 gf)).toInt ∧ ((V 84 gf)).toInt ≤ 2147483647 := hMV 84 gf
  have r6 : 0 ≤ ((V 5 8)).toInt ∧ ((V 5 8)).toInt ≤ 300 := hMV 5 8
  have r7 : 0 ≤ ((V 5 9)).toInt ∧ ((V 5 9)).toInt ≤ 3 := hMV 5 9
  have r8 : 0 ≤ ((V 3 13)).toInt ∧ ((V 3 13)).toInt ≤ 300 := hMV 3 13
  have r9 : 0 ≤ ((V 43 (5 * b + 2))).toInt ∧ ((V 43 (5 * b + 2))).toInt ≤ ((xcap (5 * b + 2) : Nat) : Int) := hMV 43 (5 * b + 2)
  have r10 : xcap (5 * b + 2) = 24 := xcap_2
  have r11 : 0 ≤ ((V 41 b)).toInt ∧ ((V 41 b)).toInt ≤ 12 := hMV 41 b
  have r12 : 0 ≤ ((V 42 b)).toInt ∧ ((V 42 b)).toInt ≤ 8200 := hMV 42 b
  have fc := fk.1 (by omega)
  have fo : Imp ((V 68 gf).toInt ≠ 0) (0 ≤ (V 70 gf).toInt ∧ (V 70 gf).toInt < (V 3 13).toInt) := Imp.mk (fun h => fk.2.1 (by omega) (by omega))
  have fp := fk.2.2.2.2.2.2.2.1 (by omega)
  refine lv_aload_n hx hb dX5_goOnCalling_0 rfl (lv_at hl 1 rfl) ?_
  refine va_getN (D := D) (ci := 4) (v := .int (V 68 gf)) (fs := (xfFrame V gf)) (C := RX4) (T := TX4) (N := 19) hx hb hg inX4 hown hK hP (336 + gf) (xgFrame hgf) rfl 1 (by decide) (hnw.use 1190 n1190 rfl) (fun _ h9 => h9) rfl dX5_goOnCalling_1 ?_
  refine lv_if_ne (tgt := 13) hx hb dX5_goOnCalling_4 (by decide) (fun c13 => ?_) (fun c13 => ?_)
  · skip
    have f14 : ((V 68 gf)).toInt ≠ 0 := b_neq rfl (by decide) c13
    refine lv_aload_n hx hb dX5_goOnCalling_13 rfl (lv_at hl 0 rfl) ?_
    refine va_get (D := D) (ci := 5) (v := .int (V 5 9)) (fs := (xfMachine ad V L Z)) (C := RX5) (T := TX5) (N := 15) hx hb hg inX5 hown hK hP 5 xgMachine rfl 9 (by decide) (hg _ w676) (fun _ h9 => h9) rfl dX5_goOnCalling_14 ?_
    refine lv_iconst (v := 2) hx hb dX5_goOnCalling_17 (by decide) ?_
    refine lv_icmp_eq (tgt := 26) hx hb dX5_goOnCalling_18 (by decide) (fun c15 => ?_) (fun c15 => ?_)
    · skip
      have f16 : ((V 5 9)).toInt = 2 := b_eq rfl (by decide) c15
      refine lv_aload_n hx hb dX5_goOnCalling_26 rfl (lv_at hl 1 rfl) ?_
      refine va_getN (D := D) (ci := 4) (v := .int (V 68 gf)) (fs := (xfFrame V gf)) (C := RX4) (T := TX4) (N := 19) hx hb hg inX4 hown hK hP (336 + gf) (xgFrame hgf) rfl 1 (by decide) (hnw.use 1190 n1190 rfl) (fun _ h9 => h9) rfl dX5_goOnCalling_27 ?_
      refine lv_iconst (v := 1) hx hb dX5_goOnCalling_30 (by decide) ?_
      refine lv_icmp_ne (tgt := 55) hx hb dX5_goOnCalling_31 (by decide) (fun c17 => ?_) (fun c17 => ?_)
      · skip
        have f18 : ((V 68 gf)).toInt ≠ 1 := b_neq rfl (by decide) c17
        refine lv_aload_n hx hb dX5_goOnCalling_55 rfl (lv_at hl 0 rfl) ?_
        refine va_get (D := D) (ci := 5) (v := .ref (ad (38 + Int32.toNatClampNeg (V 5 5)))) (fs := (xfMachine ad V L Z)) (C := RX5) (T := TX5) (N := 15) hx hb hg inX5 hown hK hP 5 xgMachine rfl 5 (by decide) (hg _ w672) (fun _ h9 => h9) rfl dX5_goOnCalling_56 ?_
        have r19 : 0 ≤ ((V 5 5)).toInt ∧ ((V 5 5)).toInt ≤ 1 := hMV 5 5
        refine g_topv (v := .ref (ad (38 + b))) (rfP (by first | omega | ((try (have i_fo := Imp.go fo (by omega))); omega))) ?_
        refine lv_aload_n hx hb dX5_goOnCalling_59 rfl (lv_at hl 1 rfl) ?_
        refine va_getN (D := D) (ci := 4) (v := .int (V 75 gf)) (fs := (xfFrame V gf)) (C := RX4) (T := TX4) (N := 19) hx hb hg inX4 hown hK hP (336 + gf) (xgFrame hgf) rfl 8 (by decide) (hnw.use 1197 n1197 rfl) (fun _ h9 => h9) rfl dX5_goOnCalling_60 ?_
        refine lv_iconst (v := 1) hx hb dX5_goOnCalling_63 (by decide) ?_
        refine lv_isub hx hb dX5_goOnCalling_64 ?_
        refine lv_topi (fun z20 ez20 => ?_)
        have hz20 : z20.toInt = ((V 75 gf)).toInt - 1 := i_sub ez20 rfl (by decide) (by (first | exact om_450cba72217c r3.1 r3.2 | omega))
        refine lv_iconst (v := 3) hx hb dX5_goOnCalling_65 (by decide) ?_
        refine lv_aload_n hx hb dX5_goOnCalling_66 rfl (lv_at hl 1 rfl) ?_
        refine va_getN (D := D) (ci := 4) (v := .int (V 71 gf)) (fs := (xfFrame V gf)) (C := RX4) (T := TX4) (N := 19) hx hb hg inX4 hown hK hP (336 + gf) (xgFrame hgf) rfl 4 (by decide) (hnw.use 1193 n1193 rfl) (fun _ h9 => h9) rfl dX5_goOnCalling_67 ?_
        refine lv_aload_n hx hb dX5_goOnCalling_70 rfl (lv_at hl 1 rfl) ?_
        refine va_getN (D := D) (ci := 4) (v := .int (V 73 gf)) (fs := (xfFrame V gf)) (C := RX4) (T := TX4) (N := 19) hx hb hg inX4 hown hK hP (336 + gf) (xgFrame hgf) rfl 6 (by decide) (hnw.use 1195 n1195 rfl) (fun _ h9 => h9) rfl dX5_goOnCalling_71 ?_
        have r21 : 0 ≤ ((V 73 gf)).toInt ∧ ((V 73 gf)).toInt ≤ 19 := hMV 73 gf
        have r22 : Int32.toInt 3 = 3 := by decide
        refine gA_int (gA_runV (As := [.int z20, .int 3, .int (V 71 gf), .int (V 73 gf)]) (rest := []) (ci := 0) (q0 := (38 + b)) hx hb hml hown hg hP hD hK hS hA hnw hgk (x_wrapBackFrom2 l D ks H.size ad kk V L Z z20 3 (V 71 gf) (V 73 gf) (b) hMV (by first | exact om_94ad3bbe076e r3.1 r3.2 hz20 | first | omega | ((try (have i_fo := Imp.go fo (by omega))); omega)) (by first | omega | ((try (have i_fo := Imp.go fo (by omega))); omega)) (show b < 2 from by first | exact om_f940a4667dd6 hb2 | first | omega | ((try (have i_fo := Imp.go fo (by omega))); omega)) (show z20.toInt < (V 41 b).toInt from by first | omega | ((try (have i_fo := Imp.go fo (by omega))); omega))) w1392 w1393 w1394 w167 w1395 rfl (xgBook hb2) hdV_yX0_wrapBackFrom ⟨Nat.le_of_ble_eq_true rfl, Nat.le_of_ble_eq_true rfl⟩ rfl hl.1 rfl (Nat.le_of_ble_eq_true rfl) dX5_goOnCalling_74 ⟨z0, z0⟩) hP hD hK hS hA (fun z23 u24 H locs w25 hP hD hK hS => ?_)
        obtain ⟨rgz23, t26⟩ := w25
        have rgz23 : (-1) ≤ z23.toInt ∧ z23.toInt ≤ 11 := rgz23
        have t26 : Imp (0 ≤ z23.toInt) (z23.toInt < (V 41 b).toInt) := t26
        refine lv_istore_n (lv' := [(2, .int z23), (0, .ref (ad 5)), (1, .ref (Z.fa gf))]) hx hb dX5_goOnCalling_77 rfl hl (by decide) rfl (fun ls hl => ?_)
        refine lv_iload_n hx hb dX5_goOnCalling_78 rfl (lv_at hl 0 rfl) ?_
        refine lv_iconst (v := (-1)) hx hb dX5_goOnCalling_79 (by decide) ?_
        refine lv_icmp_ne (tgt := 100) hx hb dX5_goOnCalling_80 (by decide) (fun c27 => ?_) (fun c27 => ?_)
        · skip
          have f28 : z23.toInt ≠ (-1) := b_neq rfl (by decide) c27
          refine lv_aload_n hx hb dX5_goOnCalling_100 rfl (lv_at hl 2 rfl) ?_
          refine lv_iload_n hx hb dX5_goOnCalling_101 rfl (lv_at hl 0 rfl) ?_
          refine va_putN (D := D) (ci := 4) (v := .int z23) (ty := tyX4 8) (fs := (xfFrame V gf)) (C := RX4) (T := TX4) (N := 19) hx hb hg inX4 tyX4 tyX4_ok nmX4 hown hK hP hD hS (336 + gf) (xgFrame hgf) rfl 8 (by decide) (hnw.use 1197 n1197 rfl) (fun _ h9 => h9) rfl (tyX4_ok 8 (by decide)) rfl rfl (Nat.le_of_ble_eq_true rfl) dX5_goOnCalling_102 (fun H locs hP hD hS => ?_)
          obtain ⟨V29, hV29⟩ : ∃ z, z = up2 V 75 gf z23 := ⟨_, rfl⟩
          have ew30 : (xw ad kk V L Z).set (336 + gf) ((Z.fa gf), .inr (4, (xfFrame V gf).set 8 (.int z23))) = xw ad kk V29 L Z := by rw [hV29]; exact xpFrame_position hgf
          have hP : va_P D vwCl (xw ad kk V29 L Z) H := by rw [← ew30]; exact hP
          have hD : va_D A (xw ad kk V29 L Z) := by rw [← ew30]; exact hD
          have hMV29 : rgd bX V29 := hMV.put hV29 (show 0 ≤ z23.toInt ∧ z23.toInt ≤ 12 from by first | exact om_4b4bb582fde3 rgz23.1 rgz23.2 f28 | first | omega | ((try (have i_t26 := Imp.go t26 (by omega))); (try (have i_fo := Imp.go fo (by omega))); (try (have i_fo := Imp.go fo (by omega))); (try (have i_t26 := Imp.go t26 (by omega))); omega))
          have agV29 : agr [(4, 5), (5, 6), (5, 9), (5, 11), (5, 12), (5, 13), (5, 14)] [33, 34, 35, 67, 68, 69, 70, 71, 72, 73, 74, 75, 76, 77, 78, 79, 80, 81, 82, 83, 84, 85] V V29 := agV.up hV29 rfl
          refine lv_aload_n hx hb dX5_goOnCalling_105 rfl (lv_at hl 1 rfl) ?_
          refine lv_aload_n hx hb dX5_goOnCalling_106 rfl (lv_at hl 2 rfl) ?_
          refine lv_iload_n hx hb dX5_goOnCalling_107 rfl (lv_at hl 0 rfl) ?_
          refine lv_aload_n hx hb dX5_goOnCalling_108 rfl (lv_at hl 2 rfl) ?_
          refine va_getN (D := D) (ci := 4) (v := .int (V29 81 gf)) (fs := (xfFrame V29 gf)) (C := RX4) (T := TX4) (N := 19) hx hb hg inX4 hown hK hP (336 + gf) (xgFrame hgf) rfl 14 (by decide) (hnw.use 1203 n1203 rfl) (fun _ h9 => h9) rfl dX5_goOnCalling_109 ?_
          refine g_top (v := (V 81 gf)) (up2_o hV29 (by decide)) ?_
          refine lv_aload_n hx hb dX5_goOnCalling_112 rfl (lv_at hl 2 rfl) ?_
          refine va_getN (D := D) (ci := 4) (v := .int (V29 82 gf)) (fs := (xfFrame V29 gf)) (C := RX4) (T := TX4) (N := 19) hx hb hg inX4 hown hK hP (336 + gf) (xgFrame hgf) rfl 15 (by decide) (hnw.use 1204 n1204 rfl) (fun _ h9 => h9) rfl dX5_goOnCalling_113 ?_
          refine g_top (v := (V 82 gf)) (up2_o hV29 (by decide)) ?_
          refine gE_int (g_runS (As := [.int (V 81 gf), .int (V 82 gf)]) (rest := [.int z23, .ref (Z.fa gf), .ref (ad 5)]) (wc := []) (tc := []) hx hb hml hown hg gw_self hP hD hK hS hA hnw hgk [] [] (by decide) rfl rfl (x_firstKind l D ks H.size (V 81 gf) (V 82 gf) ) w1400 w1401 w171 w1402 hdS_yX5_firstKind ⟨Nat.le_of_ble_eq_true rfl, Nat.le_of_ble_eq_true rfl⟩ rfl hl.1 rfl (Nat.le_of_ble_eq_true rfl) dX5_goOnCalling_116 ⟨z0, z0⟩) hP hD hK hS hA (fun z31 u32 H locs w33 hP hD hK hS => ?_)
          have pq34 : (V29 71 gf).toInt = ((V 71 gf)).toInt := congrArg Int32.toInt (up2_o hV29 (by decide))
          have pq35 : (V29 43 (5 * b + 2)).toInt = ((V 43 (5 * b + 2))).toInt := congrArg Int32.toInt (up2_o hV29 (by decide))
          have pq36 : (V29 3 13).toInt = ((V 3 13)).toInt := congrArg Int32.toInt (up2_o hV29 (by decide))
          have pq37 : (V29 70 gf).toInt = ((V 70 gf)).toInt := congrArg Int32.toInt (up2_o hV29 (by decide))
          have pq38 : (V29 41 b).toInt = ((V 41 b)).toInt := congrArg Int32.toInt (up2_o hV29 (by decide))
          have me39 : ME V V29 gf := (ME.up ME.rf hV29 (Or.inl ⟨by decide, by decide, Nat.le_refl _⟩))
          have pq40 : (V29 67 gf).toInt = ((V 67 gf)).toInt := congrArg Int32.toInt (up2_o hV29 (by decide))
          have pq41 : (V29 68 gf).toInt = ((V 68 gf)).toInt := congrArg Int32.toInt (up2_o hV29 (by decide))
          have pq42 : (V29 75 gf).toInt = z23.toInt := congrArg Int32.toInt (up2_s hV29)
          have pq43 : (V29 76 gf).toInt = ((V 76 gf)).toInt := congrArg Int32.toInt (up2_o hV29 (by decide))
          have pq44 : (V29 80 gf).toInt = ((V 80 gf)).toInt := congrArg Int32.toInt (up2_o hV29 (by decide))
          have pq45 : (V29 84 gf).toInt = ((V 84 gf)).toInt := congrArg Int32.toInt (up2_o hV29 (by decide))
          have pq46 : (V29 5 6).toInt = ((V 5 6)).toInt := congrArg Int32.toInt (up2_o hV29 (by decide))
          have pq47 : (V29 5 8).toInt = ((V 5 8)).toInt := congrArg Int32.toInt (up2_o hV29 (by decide))
          have pq48 : (V29 5 9).toInt = ((V 5 9)).toInt := congrArg Int32.toInt (up2_o hV29 (by decide))
          have pq49 : (V29 42 b).toInt = ((V 42 b)).toInt := congrArg Int32.toInt (up2_o hV29 (by decide))
          have mo50 : MO V29 Z b gf True True True := MO.ch mo me39 (up2_o hV29 (by decide)) (up2_o hV29 (by decide)) (fun _ => Or.inl (by omega)) (fun x h => FK.k2 (by first | omega | ((try (have i_t26 := Imp.go t26 (by omega))); (try (have i_fo := Imp.go fo (by omega))); (try (have i_fo := Imp.go fo (by omega))); (try (have i_t26 := Imp.go t26 (by omega))); omega)) (by first | omega | ((try (have i_t26 := Imp.go t26 (by omega))); (try (have i_fo := Imp.go fo (by omega))); (try (have i_fo := Imp.go fo (by omega))); (try (have i_t26 := Imp.go t26 (by omega))); omega)) (by first | omega | ((try (have i_t26 := Imp.go t26 (by omega))); (try (have i_fo := Imp.go fo (by omega))); (try (have i_fo := Imp.go fo (by omega))); (try (have i_t26 := Imp.go t26 (by omega))); omega)) (by first | omega | ((try (have i_t26 := Imp.go t26 (by omega))); (try (have i_fo := Imp.go fo (by omega))); (try (have i_fo := Imp.go fo (by omega))); (try (have i_t26 := Imp.go t26 (by omega))); omega)))
          have mt51 : MT V29 Z b := MO.mt mo50 (by (first | exact om_c09d41618ed8 hgf | omega)) (by (first | exact om_82fa09255765 gd pq46 | omega))
          refine W.know (fun k53 k54 => ?_)
          obtain ⟨Hk52, hHk52⟩ : ∃ z, z = H := ⟨_, rfl⟩
          have k53 : Hk52.size ≤ s.heap.size + (zcc Z - zcc Z) := by rw [hHk52]; exact k53
          have k54 : tot Hk52 ≤ tot s.heap + (zss Z - zss Z) := by rw [hHk52]; exact k54
          refine gZ_ref (gA_runV (As := [.ref (Z.fa gf), .int z23, .int z31]) (rest := []) (ci := 5) (q0 := 5) hx hb hml hown hg hP hD hK hS hA hnw hgk (x_workWrap l D ks H.size ad kk V29 L Z z23 z31 (b) (gf) hMV29 (by first | exact om_9980c9514d38 rgz23.1 rgz23.2 f28 | first | omega | ((try (have i_t26 := Imp.go t26 (by omega))); (try (have i_fo := Imp.go fo (by omega))); (try (have i_fo := Imp.go fo (by omega))); (try (have i_t26 := Imp.go t26 (by omega))); omega)) (show b < 2 from by first | exact om_f940a4667dd6 hb2 | first | omega | ((try (have i_t26 := Imp.go t26 (by omega))); (try (have i_fo := Imp.go fo (by omega))); (try (have i_fo := Imp.go fo (by omega))); (try (have i_t26 := Imp.go t26 (by omega))); omega)) (show gf < Z.nf from by first | exact om_8c5722e49bb1 hgf | first | omega | ((try (have i_t26 := Imp.go t26 (by omega))); (try (have i_fo := Imp.go fo (by omega))); (try (have i_fo := Imp.go fo (by omega))); (try (have i_t26 := Imp.go t26 (by omega))); omega)) mt51 (show 0 ≤ (V29 71 gf).toInt ∧ (V29 71 gf).toInt < (V29 43 (5 * b + 2)).toInt from by first | omega | ((try (have i_t26 := Imp.go t26 (by omega))); (try (have i_fo := Imp.go fo (by omega))); (try (have i_fo := Imp.go fo (by omega))); (try (have i_t26 := Imp.go t26 (by omega))); omega)) (show 0 ≤ (V29 70 gf).toInt ∧ (V29 70 gf).toInt < (V29 3 13).toInt from by first | exact om_baeac38cc173 pq36 pq37 ((Imp.go fo (f14)).1) ((Imp.go fo (f14)).2) | first | omega | ((try (have i_t26 := Imp.go t26 (by omega))); (try (have i_fo := Imp.go fo (by omega))); (try (have i_fo := Imp.go fo (by omega))); (try (have i_t26 := Imp.go t26 (by omega))); omega)) (show z23.toInt < (V29 41 b).toInt from by first | exact om_f33e638bd498 pq38 ((Imp.go t26 (om_e3b1d6ac9ce8 rgz23.1 f28))) | first | omega | ((try (have i_t26 := Imp.go t26 (by omega))); (try (have i_fo := Imp.go fo (by omega))); (try (have i_fo := Imp.go fo (by omega))); (try (have i_t26 := Imp.go t26 (by omega))); omega))) w1403 w1405 w62 w171 w1406 rfl xgMachine hdV_yX5_workWrap ⟨Nat.le_of_ble_eq_true rfl, Nat.le_of_ble_eq_true rfl⟩ rfl hl.1 rfl (Nat.le_of_ble_eq_true rfl) dX5_goOnCalling_119 ⟨z1 zoZ.1, z1 zoZ.2.1⟩) hD hS hA (fun u56 H locs w57 hP hD hK hS y58 y59 => ?_)
          obtain ⟨V60, L61, Z62, f63⟩ := u56
          obtain ⟨hMV60, ajV60, axL61, zlZ62, ilf63, t64, t65, t66, t67⟩ := w57
          have axL61 : L = L61 := Eq.symm axL61
          subst axL61
          have hP : va_P D vwCl (xw ad kk V60 L Z62) H := hP
          have hD : va_D A (xw ad kk V60 L Z62) := hD
          have hK : va_K D vwCl (xty kk Z62) s := hK
          have hMV60 : rgd bX V60 := hMV60
          have ajV60 : agr [(4, 5), (5, 6), (5, 9)] [33, 34, 35, 67, 68, 69, 70, 71, 72, 73, 74, 75, 76, 77, 78, 79, 80, 81, 82, 83, 84, 85] V29 V60 := ajV60
          have agV60 : agr [(4, 5), (5, 6), (5, 9), (5, 11), (5, 12), (5, 13), (5, 14)] [33, 34, 35, 67, 68, 69, 70, 71, 72, 73, 74, 75, 76, 77, 78, 79, 80, 81, 82, 83, 84, 85] V V60 := agV29.tr ajV60 (by decide) (by decide)
          have zlZ62 : ZL Z Z62 := zlZ62
          have zoZ62 : ZL Z Z62 := ZL.tr zoZ zlZ62
          have ziZ62 := zlZ62.1
          have zjZ62 := zlZ62.2.1
          have zkZ62 := zlZ62.2.2.1
          have zmZ62 := zoZ62.1
          have znZ62 := zoZ62.2.1
          have zpZ_Z62 := zoZ.1
          have zqZ_Z62 := zoZ.2.1
          have y58 : H.size ≤ Hk52.size + (zcc Z - zcc Z62) := by rw [hHk52]; exact y58
          have y59 : tot H ≤ tot Hk52 + (zss Z - zss Z62) := by rw [hHk52]; exact y59
          refine W.tight (k := zcc Z - zcc Z62) (n := zss Z - zss Z62) (by first | exact tg9 y58 k53 zlZ62.1 zoZ.1 | omega) (by first | exact tg9 y59 k54 zlZ62.2.1 zoZ.2.1 | omega) ?_
          have hl : lv_has ls 3 [(2, .int z23), (0, .ref (ad 5)), (1, .ref (Z62.fa gf))] := by rw [zlZ62.2.2.2.2 gf hgf]; exact hl
          have ilf63 : f63 < Z62.nf := ilf63
          have t64 : MJ V60 Z62 b := t64
          have t65 : (f63 : Int) + 1 = (V60 5 6).toInt := t65
          have t66 : (V60 67 f63).toInt = 4 ∧ (V60 68 f63).toInt = 0 := t66
          have t67 : (V60 5 9).toInt = 0 := t67
          have r68 : 0 ≤ ((V60 5 6)).toInt ∧ ((V60 5 6)).toInt ≤ 400 := hMV60 5 6
          have r69 : 0 ≤ ((V60 5 9)).toInt ∧ ((V60 5 9)).toInt ≤ 3 := hMV60 5 9
          refine lv_pop hx hb dX5_goOnCalling_122 rfl ?_
          refine W.know (fun kr1 kr2 => ?_)
          refine W.widen (k := zcc Z) (n := zss Z) (Nat.sub_le _ _) (Nat.sub_le _ _) ?_
          exact W.vret hx hb hr (fun t ht hW => ⟨⟨(V60, L, Z62), rfl, ⟨hMV60, agV60, rfl, zoZ62, t64⟩, ⟨by rw [ht]; exact hP, va_K.moved hW.alike hK, hD⟩, by rw [ht]; exact kr1, by rw [ht]; exact kr2⟩, hS.F ht⟩) hS.2.2 dX5_goOnCalling_123
        · skip
          have f70 : z23.toInt = (-1) := b_eq rfl (by decide) c27
          refine lv_aload_n hx hb dX5_goOnCalling_83 rfl (lv_at hl 1 rfl) ?_
          refine lv_aload_n hx hb dX5_goOnCalling_84 rfl (lv_at hl 2 rfl) ?_
          refine va_getN (D := D) (ci := 4) (v := .int (V 81 gf)) (fs := (xfFrame V gf)) (C := RX4) (T := TX4) (N := 19) hx hb hg inX4 hown hK hP (336 + gf) (xgFrame hgf) rfl 14 (by decide) (hnw.use 1203 n1203 rfl) (fun _ h9 => h9) rfl dX5_goOnCalling_85 ?_
          refine lv_aload_n hx hb dX5_goOnCalling_88 rfl (lv_at hl 2 rfl) ?_
          refine va_getN (D := D) (ci := 4) (v := .int (V 82 gf)) (fs := (xfFrame V gf)) (C := RX4) (T := TX4) (N := 19) hx hb hg inX4 hown hK hP (336 + gf) (xgFrame hgf) rfl 15 (by decide) (hnw.use 1204 n1204 rfl) (fun _ h9 => h9) rfl dX5_goOnCalling_89 ?_
          refine gA_void (gA_runV (As := [.int (V 81 gf), .int (V 82 gf)]) (rest := []) (ci := 5) (q0 := 5) hx hb hml hown hg hP hD hK hS hA hnw hgk (x_failWith l D ks H.size ad kk V L Z (V 81 gf) (V 82 gf) hMV ) w1261 w1263 w46 w171 w1264 rfl xgMachine hdV_yX5_failWith ⟨Nat.le_of_ble_eq_true rfl, Nat.le_of_ble_eq_true rfl⟩ rfl hl.1 rfl (Nat.le_of_ble_eq_true rfl) dX5_goOnCalling_92 ⟨z0, z0⟩) hP hD hK hS hA (fun u72 H locs w73 hP hD hK hS => ?_)
          obtain ⟨V75, L76⟩ := u72
          obtain ⟨hMV75, ajV75, axL76, t74⟩ := w73
          have axL76 : L = L76 := Eq.symm axL76
          subst axL76
          have hP : va_P D vwCl (xw ad kk V75 L Z) H := hP
          have hD : va_D A (xw ad kk V75 L Z) := hD
          have hMV75 : rgd bX V75 := hMV75
          have ajV75 : agr [(5, 9), (5, 11), (5, 12)] [] V V75 := ajV75
          have agV75 : agr [(4, 5), (5, 6), (5, 9), (5, 11), (5, 12), (5, 13), (5, 14)] [33, 34, 35, 67, 68, 69, 70, 71, 72, 73, 74, 75, 76, 77, 78, 79, 80, 81, 82, 83, 84, 85] V V75 := agV.tr ajV75 (by decide) (by decide)
          have t74 : (V75 5 9).toInt = 2 := t74
          have r77 : 0 ≤ ((V75 5 9)).toInt ∧ ((V75 5 9)).toInt ≤ 3 := hMV75 5 9
          refine lv_aload_n hx hb dX5_goOnCalling_95 rfl (lv_at hl 1 rfl) ?_
          have pq78 : (V75 5 6).toInt = ((V 5 6)).toInt := congrArg Int32.toInt (ajV75 5 6 rfl)
          refine gA_void (gA_runV (As := []) (rest := []) (ci := 5) (q0 := 5) hx hb hml hown hg hP hD hK hS hA hnw hgk (x_leave l D ks H.size ad kk V75 L Z  hMV75 (show 1 ≤ (V75 5 6).toInt from by first | exact om_0cac171fa40c gd pq78 | first | omega | ((try (have i_t26 := Imp.go t26 (by omega))); (try (have i_fo := Imp.go fo (by omega))); (try (have i_fo := Imp.go fo (by omega))); (try (have i_t26 := Imp.go t26 (by omega))); omega))) w1308 w1310 w50 w171 w1311 rfl xgMachine hdV_yX5_leave ⟨Nat.le_of_ble_eq_true rfl, Nat.le_of_ble_eq_true rfl⟩ rfl hl.1 rfl (Nat.le_of_ble_eq_true rfl) dX5_goOnCalling_96 ⟨z0, z0⟩) hP hD hK hS hA (fun u80 H locs w81 hP hD hK hS => ?_)
          obtain ⟨V83, L84⟩ := u80
          obtain ⟨hMV83, ajV83, axL84, t82⟩ := w81
          have axL84 : L = L84 := Eq.symm axL84
          subst axL84
          have hP : va_P D vwCl (xw ad kk V83 L Z) H := hP
          have hD : va_D A (xw ad kk V83 L Z) := hD
          have hMV83 : rgd bX V83 := hMV83
          have ajV83 : agr [(5, 6)] [] V75 V83 := ajV83
          have agV83 : agr [(4, 5), (5, 6), (5, 9), (5, 11), (5, 12), (5, 13), (5, 14)] [33, 34, 35, 67, 68, 69, 70, 71, 72, 73, 74, 75, 76, 77, 78, 79, 80, 81, 82, 83, 84, 85] V V83 := agV75.tr ajV83 (by decide) (by decide)
          have t82 : (V83 5 6).toInt = (V75 5 6).toInt - 1 := t82
          have r85 : 0 ≤ ((V83 5 6)).toInt ∧ ((V83 5 6)).toInt ≤ 400 := hMV83 5 6
          have me86 : ME V V83 gf := (ME.tr (ME.tr ME.rf (ME.ag ajV75 (by decide))) (ME.ag ajV83 (by decide)))
          have pq87 : (V83 67 gf).toInt = ((V 67 gf)).toInt := congrArg Int32.toInt ((ajV83 67 gf rfl).trans (ajV75 67 gf rfl))
          have pq88 : (V83 68 gf).toInt = ((V 68 gf)).toInt := congrArg Int32.toInt ((ajV83 68 gf rfl).trans (ajV75 68 gf rfl))
          have pq89 : (V83 70 gf).toInt = ((V 70 gf)).toInt := congrArg Int32.toInt ((ajV83 70 gf rfl).trans (ajV75 70 gf rfl))
          have pq90 : (V83 71 gf).toInt = ((V 71 gf)).toInt := congrArg Int32.toInt ((ajV83 71 gf rfl).trans (ajV75 71 gf rfl))
          have pq91 : (V83 75 gf).toInt = ((V 75 gf)).toInt := congrArg Int32.toInt ((ajV83 75 gf rfl).trans (ajV75 75 gf rfl))
          have pq92 : (V83 76 gf).toInt = ((V 76 gf)).toInt := congrArg Int32.toInt ((ajV83 76 gf rfl).trans (ajV75 76 gf rfl))
          have pq93 : (V83 80 gf).toInt = ((V 80 gf)).toInt := congrArg Int32.toInt ((ajV83 80 gf rfl).trans (ajV75 80 gf rfl))
          have pq94 : (V83 84 gf).toInt = ((V 84 gf)).toInt := congrArg Int32.toInt ((ajV83 84 gf rfl).trans (ajV75 84 gf rfl))
          have pq95 : (V83 5 8).toInt = ((V 5 8)).toInt := congrArg Int32.toInt ((ajV83 5 8 rfl).trans (ajV75 5 8 rfl))
          have pq96 : (V83 5 9).toInt = ((V75 5 9)).toInt := congrArg Int32.toInt (ajV83 5 9 rfl)
          have pq97 : (V83 3 13).toInt = ((V 3 13)).toInt := congrArg Int32.toInt ((ajV83 3 13 rfl).trans (ajV75 3 13 rfl))
          have pq98 : (V83 43 (5 * b + 2)).toInt = ((V 43 (5 * b + 2))).toInt := congrArg Int32.toInt ((ajV83 43 (5 * b + 2) rfl).trans (ajV75 43 (5 * b + 2) rfl))
          have pq99 : (V83 42 b).toInt = ((V 42 b)).toInt := congrArg Int32.toInt ((ajV83 42 b rfl).trans (ajV75 42 b rfl))
          have pq100 : (V83 41 b).toInt = ((V 41 b)).toInt := congrArg Int32.toInt ((ajV83 41 b rfl).trans (ajV75 41 b rfl))
          have rp101 : MJ V83 Z b := MP.lv (MO.mp mo) me86 (by (first | exact om_5ac7632c8ef3 gd pq78 t82 | omega)) (fun _ => Or.inl (by omega))
          refine W.know (fun kr1 kr2 => ?_)
          refine W.widen (k := zcc Z) (n := zss Z) (Nat.sub_le _ _) (Nat.sub_le _ _) ?_
          exact W.vret hx hb hr (fun t ht hW => ⟨⟨(V83, L, Z), rfl, ⟨hMV83, agV83, rfl, zoZ, rp101⟩, ⟨by rw [ht]; exact hP, va_K.moved hW.alike hK, hD⟩, by rw [ht]; exact kr1, by rw [ht]; exact kr2⟩, hS.F ht⟩) hS.2.2 dX5_goOnCalling_99
      · skip
        have f102 : ((V 68 gf)).toInt = 1 := b_eq rfl (by decide) c17
        refine lv_aload_n hx hb dX5_goOnCalling_34 rfl (lv_at hl 0 rfl) ?_
        refine lv_aload_n hx hb dX5_goOnCalling_35 rfl (lv_at hl 1 rfl) ?_
        refine gA_void (gA_runV (As := [.ref (Z.fa gf)]) (rest := []) (ci := 5) (q0 := 5) hx hb hml hown hg hP hD hK hS hA hnw hgk (x_holdFailure2 l D ks H.size ad kk V L Z (gf) hMV (show gf < Z.nf from by first | exact om_8c5722e49bb1 hgf | first | omega | ((try (have i_fo := Imp.go fo (by omega))); omega))) w1312 w1314 w51 w171 w1315 rfl xgMachine hdV_yX5_holdFailure ⟨Nat.le_of_ble_eq_true rfl, Nat.le_of_ble_eq_true rfl⟩ rfl hl.1 rfl (Nat.le_of_ble_eq_true rfl) dX5_goOnCalling_36 ⟨z0, z0⟩) hP hD hK hS hA (fun u104 H locs w105 hP hD hK hS => ?_)
        obtain ⟨V107, L108⟩ := u104
        obtain ⟨hMV107, ajV107, axL108, t106⟩ := w105
        have axL108 : L = L108 := Eq.symm axL108
        subst axL108
        have hP : va_P D vwCl (xw ad kk V107 L Z) H := hP
        have hD : va_D A (xw ad kk V107 L Z) := hD
        have hMV107 : rgd bX V107 := hMV107
        have ajV107 : agr [] [81, 82] V V107 := ajV107
        have agV107 : agr [(4, 5), (5, 6), (5, 9), (5, 11), (5, 12), (5, 13), (5, 14)] [33, 34, 35, 67, 68, 69, 70, 71, 72, 73, 74, 75, 76, 77, 78, 79, 80, 81, 82, 83, 84, 85] V V107 := agV.tr ajV107 (by decide) (by decide)
        have t106 : ME V V107 gf := t106
        refine lv_aload_n hx hb dX5_goOnCalling_39 rfl (lv_at hl 1 rfl) ?_
        refine lv_iconst (v := 3) hx hb dX5_goOnCalling_40 (by decide) ?_
        refine va_putN (D := D) (ci := 4) (v := .int 3) (ty := tyX4 1) (fs := (xfFrame V107 gf)) (C := RX4) (T := TX4) (N := 19) hx hb hg inX4 tyX4 tyX4_ok nmX4 hown hK hP hD hS (336 + gf) (xgFrame hgf) rfl 1 (by decide) (hnw.use 1190 n1190 rfl) (fun _ h9 => h9) rfl (tyX4_ok 1 (by decide)) rfl rfl (Nat.le_of_ble_eq_true rfl) dX5_goOnCalling_41 (fun H locs hP hD hS => ?_)
        obtain ⟨V109, hV109⟩ : ∃ z, z = up2 V107 68 gf 3 := ⟨_, rfl⟩
        have ew110 : (xw ad kk V107 L Z).set (336 + gf) ((Z.fa gf), .inr (4, (xfFrame V107 gf).set 1 (.int 3))) = xw ad kk V109 L Z := by rw [hV109]; exact xpFrame_phase hgf
        have hP : va_P D vwCl (xw ad kk V109 L Z) H := by rw [← ew110]; exact hP
        have hD : va_D A (xw ad kk V109 L Z) := by rw [← ew110]; exact hD
        have hMV109 : rgd bX V109 := hMV107.put hV109 (i_full _)
        have agV109 : agr [(4, 5), (5, 6), (5, 9), (5, 11), (5, 12), (5, 13), (5, 14)] [33, 34, 35, 67, 68, 69, 70, 71, 72, 73, 74, 75, 76, 77, 78, 79, 80, 81, 82, 83, 84, 85] V V109 := agV107.up hV109 rfl
        refine lv_aload_n hx hb dX5_goOnCalling_44 rfl (lv_at hl 1 rfl) ?_
        refine lv_aload_n hx hb dX5_goOnCalling_45 rfl (lv_at hl 0 rfl) ?_
        refine va_get (D := D) (ci := 5) (v := .ref (ad (38 + Int32.toNatClampNeg (V109 5 5)))) (fs := (xfMachine ad V109 L Z)) (C := RX5) (T := TX5) (N := 15) hx hb hg inX5 hown hK hP 5 xgMachine rfl 5 (by decide) (hg _ w672) (fun _ h9 => h9) rfl dX5_goOnCalling_46 ?_
        have pq111 : (V109 5 5).toInt = ((V 5 5)).toInt := congrArg Int32.toInt ((up2_o hV109 (by decide)).trans (ajV107 5 5 rfl))
        have r112 : 0 ≤ ((V 5 5)).toInt ∧ ((V 5 5)).toInt ≤ 1 := hMV 5 5
        refine g_topv (v := .ref (ad (38 + b))) (rfP (by first | omega | ((try (have i_fo := Imp.go fo (by omega))); omega))) ?_
        refine va_getN (D := D) (ci := 0) (v := .int (V109 41 b)) (fs := (xfBook ad V109 b)) (C := RX0) (T := TX0) (N := 13) hx hb hg inX0 hown hK hP (38 + b) (xgBook hb2) rfl 11 (by decide) (hnw.use 628 n628 rfl) (fun _ h9 => h9) rfl dX5_goOnCalling_49 ?_
        refine g_top (v := (V 41 b)) ((up2_o hV109 (by decide)).trans (ajV107 41 b rfl)) ?_
        refine va_putN (D := D) (ci := 4) (v := .int (V 41 b)) (ty := tyX4 8) (fs := (xfFrame V109 gf)) (C := RX4) (T := TX4) (N := 19) hx hb hg inX4 tyX4 tyX4_ok nmX4 hown hK hP hD hS (336 + gf) (xgFrame hgf) rfl 8 (by decide) (hnw.use 1197 n1197 rfl) (fun _ h9 => h9) rfl (tyX4_ok 8 (by decide)) rfl rfl (Nat.le_of_ble_eq_true rfl) dX5_goOnCalling_52 (fun H locs hP hD hS => ?_)
        obtain ⟨V113, hV113⟩ : ∃ z, z = up2 V109 75 gf (V 41 b) := ⟨_, rfl⟩
        have ew114 : (xw ad kk V109 L Z).set (336 + gf) ((Z.fa gf), .inr (4, (xfFrame V109 gf).set 8 (.int (V 41 b)))) = xw ad kk V113 L Z := by rw [hV113]; exact xpFrame_position hgf
        have hP : va_P D vwCl (xw ad kk V113 L Z) H := by rw [← ew114]; exact hP
        have hD : va_D A (xw ad kk V113 L Z) := by rw [← ew114]; exact hD
        have hMV113 : rgd bX V113 := hMV109.put hV113 (show 0 ≤ ((V 41 b)).toInt ∧ ((V 41 b)).toInt ≤ 12 from by first | exact om_8dd06492493b r11.1 r11.2 | first | omega | ((try (have i_fo := Imp.go fo (by omega))); omega))
        have agV113 : agr [(4, 5), (5, 6), (5, 9), (5, 11), (5, 12), (5, 13), (5, 14)] [33, 34, 35, 67, 68, 69, 70, 71, 72, 73, 74, 75, 76, 77, 78, 79, 80, 81, 82, 83, 84, 85] V V113 := agV109.up hV113 rfl
        refine lv_aload_n hx hb dX5_goOnCalling_55 rfl (lv_at hl 0 rfl) ?_
        refine va_get (D := D) (ci := 5) (v := .ref (ad (38 + Int32.toNatClampNeg (V113 5 5)))) (fs := (xfMachine ad V113 L Z)) (C := RX5) (T := TX5) (N := 15) hx hb hg inX5 hown hK hP 5 xgMachine rfl 5 (by decide) (hg _ w672) (fun _ h9 => h9) rfl dX5_goOnCalling_56 ?_
        have pq115 : (V113 5 5).toInt = ((V 5 5)).toInt := congrArg Int32.toInt ((up2_o hV113 (by decide)).trans ((up2_o hV109 (by decide)).trans (ajV107 5 5 rfl)))
        refine g_topv (v := .ref (ad (38 + b))) (rfP (by first | omega | ((try (have i_fo := Imp.go fo (by omega))); omega))) ?_
        refine lv_aload_n hx hb dX5_goOnCalling_59 rfl (lv_at hl 1 rfl) ?_
        refine va_getN (D := D) (ci := 4) (v := .int (V113 75 gf)) (fs := (xfFrame V113 gf)) (C := RX4) (T := TX4) (N := 19) hx hb hg inX4 hown hK hP (336 + gf) (xgFrame hgf) rfl 8 (by decide) (hnw.use 1197 n1197 rfl) (fun _ h9 => h9) rfl dX5_goOnCalling_60 ?_
        refine g_top (v := (V 41 b)) (up2_s hV113) ?_
        refine lv_iconst (v := 1) hx hb dX5_goOnCalling_63 (by decide) ?_
        refine lv_isub hx hb dX5_goOnCalling_64 ?_
        refine lv_topi (fun z116 ez116 => ?_)
        have hz116 : z116.toInt = ((V 41 b)).toInt - 1 := i_sub ez116 rfl (by decide) (by (first | exact om_450cba72217c r11.1 r11.2 | omega))
        refine lv_iconst (v := 3) hx hb dX5_goOnCalling_65 (by decide) ?_
        refine lv_aload_n hx hb dX5_goOnCalling_66 rfl (lv_at hl 1 rfl) ?_
        refine va_getN (D := D) (ci := 4) (v := .int (V113 71 gf)) (fs := (xfFrame V113 gf)) (C := RX4) (T := TX4) (N := 19) hx hb hg inX4 hown hK hP (336 + gf) (xgFrame hgf) rfl 4 (by decide) (hnw.use 1193 n1193 rfl) (fun _ h9 => h9) rfl dX5_goOnCalling_67 ?_
        refine g_top (v := (V 71 gf)) ((up2_o hV113 (by decide)).trans ((up2_o hV109 (by decide)).trans (ajV107 71 gf rfl))) ?_
        refine lv_aload_n hx hb dX5_goOnCalling_70 rfl (lv_at hl 1 rfl) ?_
        refine va_getN (D := D) (ci := 4) (v := .int (V113 73 gf)) (fs := (xfFrame V113 gf)) (C := RX4) (T := TX4) (N := 19) hx hb hg inX4 hown hK hP (336 + gf) (xgFrame hgf) rfl 6 (by decide) (hnw.use 1195 n1195 rfl) (fun _ h9 => h9) rfl dX5_goOnCalling_71 ?_
        refine g_top (v := (V 73 gf)) ((up2_o hV113 (by decide)).trans ((up2_o hV109 (by decide)).trans (ajV107 73 gf rfl))) ?_
        have r117 : 0 ≤ ((V 73 gf)).toInt ∧ ((V 73 gf)).toInt ≤ 19 := hMV 73 gf
        have r118 : Int32.toInt 3 = 3 := by decide
        have pq119 : (V113 41 b).toInt = ((V 41 b)).toInt := congrArg Int32.toInt ((up2_o hV113 (by decide)).trans ((up2_o hV109 (by decide)).trans (ajV107 41 b rfl)))
        refine gA_int (gA_runV (As := [.int z116, .int 3, .int (V 71 gf), .int (V 73 gf)]) (rest := []) (ci := 0) (q0 := (38 + b)) hx hb hml hown hg hP hD hK hS hA hnw hgk (x_wrapBackFrom2 l D ks H.size ad kk V113 L Z z116 3 (V 71 gf) (V 73 gf) (b) hMV113 (by first | exact om_94ad3bbe076e r11.1 r11.2 hz116 | first | omega | ((try (have i_fo := Imp.go fo (by omega))); omega)) (by first | omega | ((try (have i_fo := Imp.go fo (by omega))); omega)) (show b < 2 from by first | exact om_f940a4667dd6 hb2 | first | omega | ((try (have i_fo := Imp.go fo (by omega))); omega)) (show z116.toInt < (V113 41 b).toInt from by first | exact om_a0b16e45aa2a hz116 pq119 | first | omega | ((try (have i_fo := Imp.go fo (by omega))); omega))) w1392 w1393 w1394 w167 w1395 rfl (xgBook hb2) hdV_yX0_wrapBackFrom ⟨Nat.le_of_ble_eq_true rfl, Nat.le_of_ble_eq_true rfl⟩ rfl hl.1 rfl (Nat.le_of_ble_eq_true rfl) dX5_goOnCalling_74 ⟨z0, z0⟩) hP hD hK hS hA (fun z120 u121 H locs w122 hP hD hK hS => ?_)
        obtain ⟨rgz120, t123⟩ := w122
        have rgz120 : (-1) ≤ z120.toInt ∧ z120.toInt ≤ 11 := rgz120
        have t123 : Imp (0 ≤ z120.toInt) (z120.toInt < (V113 41 b).toInt) := t123
        refine lv_istore_n (lv' := [(2, .int z120), (0, .ref (ad 5)), (1, .ref (Z.fa gf))]) hx hb dX5_goOnCalling_77 rfl hl (by decide) rfl (fun ls hl => ?_)
        refine lv_iload_n hx hb dX5_goOnCalling_78 rfl (lv_at hl 0 rfl) ?_
        refine lv_iconst (v := (-1)) hx hb dX5_goOnCalling_79 (by decide) ?_
        refine lv_icmp_ne (tgt := 100) hx hb dX5_goOnCalling_80 (by decide) (fun c124 => ?_) (fun c124 => ?_)
        · skip
          have f125 : z120.toInt ≠ (-1) := b_neq rfl (by decide) c124
          refine lv_aload_n hx hb dX5_goOnCalling_100 rfl (lv_at hl 2 rfl) ?_
          refine lv_iload_n hx hb dX5_goOnCalling_101 rfl (lv_at hl 0 rfl) ?_
          refine va_putN (D := D) (ci := 4) (v := .int z120) (ty := tyX4 8) (fs := (xfFrame V113 gf)) (C := RX4) (T := TX4) (N := 19) hx hb hg inX4 tyX4 tyX4_ok nmX4 hown hK hP hD hS (336 + gf) (xgFrame hgf) rfl 8 (by decide) (hnw.use 1197 n1197 rfl) (fun _ h9 => h9) rfl (tyX4_ok 8 (by decide)) rfl rfl (Nat.le_of_ble_eq_true rfl) dX5_goOnCalling_102 (fun H locs hP hD hS => ?_)
          obtain ⟨V126, hV126⟩ : ∃ z, z = up2 V113 75 gf z120 := ⟨_, rfl⟩
          have ew127 : (xw ad kk V113 L Z).set (336 + gf) ((Z.fa gf), .inr (4, (xfFrame V113 gf).set 8 (.int z120))) = xw ad kk V126 L Z := by rw [hV126]; exact xpFrame_position hgf
          have hP : va_P D vwCl (xw ad kk V126 L Z) H := by rw [← ew127]; exact hP
          have hD : va_D A (xw ad kk V126 L Z) := by rw [← ew127]; exact hD
          have hMV126 : rgd bX V126 := hMV113.put hV126 (show 0 ≤ z120.toInt ∧ z120.toInt ≤ 12 from by first | exact om_4b4bb582fde3 rgz120.1 rgz120.2 f125 | first | omega | ((try (have i_t123 := Imp.go t123 (by omega))); (try (have i_fo := Imp.go fo (by omega))); (try (have i_fo := Imp.go fo (by omega))); (try (have i_t123 := Imp.go t123 (by omega))); omega))
          have agV126 : agr [(4, 5), (5, 6), (5, 9), (5, 11), (5, 12), (5, 13), (5, 14)] [33, 34, 35, 67, 68, 69, 70, 71, 72, 73, 74, 75, 76, 77, 78, 79, 80, 81, 82, 83, 84, 85] V V126 := agV113.up hV126 rfl
          refine lv_aload_n hx hb dX5_goOnCalling_105 rfl (lv_at hl 1 rfl) ?_
          refine lv_aload_n hx hb dX5_goOnCalling_106 rfl (lv_at hl 2 rfl) ?_
          refine lv_iload_n hx hb dX5_goOnCalling_107 rfl (lv_at hl 0 rfl) ?_
          refine lv_aload_n hx hb dX5_goOnCalling_108 rfl (lv_at hl 2 rfl) ?_
          refine va_getN (D := D) (ci := 4) (v := .int (V126 81 gf)) (fs := (xfFrame V126 gf)) (C := RX4) (T := TX4) (N := 19) hx hb hg inX4 hown hK hP (336 + gf) (xgFrame hgf) rfl 14 (by decide) (hnw.use 1203 n1203 rfl) (fun _ h9 => h9) rfl dX5_goOnCalling_109 ?_
          refine g_top (v := (V107 81 gf)) ((up2_o hV126 (by decide)).trans ((up2_o hV113 (by decide)).trans (up2_o hV109 (by decide)))) ?_
          refine lv_aload_n hx hb dX5_goOnCalling_112 rfl (lv_at hl 2 rfl) ?_
          refine va_getN (D := D) (ci := 4) (v := .int (V126 82 gf)) (fs := (xfFrame V126 gf)) (C := RX4) (T := TX4) (N := 19) hx hb hg inX4 hown hK hP (336 + gf) (xgFrame hgf) rfl 15 (by decide) (hnw.use 1204 n1204 rfl) (fun _ h9 => h9) rfl dX5_goOnCalling_113 ?_
          refine g_top (v := (V107 82 gf)) ((up2_o hV126 (by decide)).trans ((up2_o hV113 (by decide)).trans (up2_o hV109 (by decide)))) ?_
          refine gE_int (g_runS (As := [.int (V107 81 gf), .int (V107 82 gf)]) (rest := [.int z120, .ref (Z.fa gf), .ref (ad 5)]) (wc := []) (tc := []) hx hb hml hown hg gw_self hP hD hK hS hA hnw hgk [] [] (by decide) rfl rfl (x_firstKind l D ks H.size (V107 81 gf) (V107 82 gf) ) w1400 w1401 w171 w1402 hdS_yX5_firstKind ⟨Nat.le_of_ble_eq_true rfl, Nat.le_of_ble_eq_true rfl⟩ rfl hl.1 rfl (Nat.le_of_ble_eq_true rfl) dX5_goOnCalling_116 ⟨z0, z0⟩) hP hD hK hS hA (fun z128 u129 H locs w130 hP hD hK hS => ?_)
          have pq131 : (V126 71 gf).toInt = ((V 71 gf)).toInt := congrArg Int32.toInt ((up2_o hV126 (by decide)).trans ((up2_o hV113 (by decide)).trans ((up2_o hV109 (by decide)).trans (ajV107 71 gf rfl))))
          have pq132 : (V126 43 (5 * b + 2)).toInt = ((V 43 (5 * b + 2))).toInt := congrArg Int32.toInt ((up2_o hV126 (by decide)).trans ((up2_o hV113 (by decide)).trans ((up2_o hV109 (by decide)).trans (ajV107 43 (5 * b + 2) rfl))))
          have pq133 : (V126 3 13).toInt = ((V 3 13)).toInt := congrArg Int32.toInt ((up2_o hV126 (by decide)).trans ((up2_o hV113 (by decide)).trans ((up2_o hV109 (by decide)).trans (ajV107 3 13 rfl))))
          have pq134 : (V126 70 gf).toInt = ((V 70 gf)).toInt := congrArg Int32.toInt ((up2_o hV126 (by decide)).trans ((up2_o hV113 (by decide)).trans ((up2_o hV109 (by decide)).trans (ajV107 70 gf rfl))))
          have pq135 : (V126 41 b).toInt = ((V 41 b)).toInt := congrArg Int32.toInt ((up2_o hV126 (by decide)).trans ((up2_o hV113 (by decide)).trans ((up2_o hV109 (by decide)).trans (ajV107 41 b rfl))))
          have me136 : ME V V126 gf := (ME.up (ME.up (ME.up (ME.tr ME.rf t106) hV109 (Or.inl ⟨by decide, by decide, Nat.le_refl _⟩)) hV113 (Or.inl ⟨by decide, by decide, Nat.le_refl _⟩)) hV126 (Or.inl ⟨by decide, by decide, Nat.le_refl _⟩))
          have pq137 : (V126 67 gf).toInt = ((V 67 gf)).toInt := congrArg Int32.toInt ((up2_o hV126 (by decide)).trans ((up2_o hV113 (by decide)).trans ((up2_o hV109 (by decide)).trans (ajV107 67 gf rfl))))
          have pq138 : (V126 68 gf).toInt = 3 := (congrArg Int32.toInt ((up2_o hV126 (by decide)).trans ((up2_o hV113 (by decide)).trans (up2_s hV109)))).trans (by decide)
          have pq139 : (V126 75 gf).toInt = z120.toInt := congrArg Int32.toInt (up2_s hV126)
          have pq140 : (V126 76 gf).toInt = ((V 76 gf)).toInt := congrArg Int32.toInt ((up2_o hV126 (by decide)).trans ((up2_o hV113 (by decide)).trans ((up2_o hV109 (by decide)).trans (ajV107 76 gf rfl))))
          have pq141 : (V126 80 gf).toInt = ((V 80 gf)).toInt := congrArg Int32.toInt ((up2_o hV126 (by decide)).trans ((up2_o hV113 (by decide)).trans ((up2_o hV109 (by decide)).trans (ajV107 80 gf rfl))))
          have pq142 : (V126 84 gf).toInt = ((V 84 gf)).toInt := congrArg Int32.toInt ((up2_o hV126 (by decide)).trans ((up2_o hV113 (by decide)).trans ((up2_o hV109 (by decide)).trans (ajV107 84 gf rfl))))
          have pq143 : (V126 5 6).toInt = ((V 5 6)).toInt := congrArg Int32.toInt ((up2_o hV126 (by decide)).trans ((up2_o hV113 (by decide)).trans ((up2_o hV109 (by decide)).trans (ajV107 5 6 rfl))))
          have pq144 : (V126 5 8).toInt = ((V 5 8)).toInt := congrArg Int32.toInt ((up2_o hV126 (by decide)).trans ((up2_o hV113 (by decide)).trans ((up2_o hV109 (by decide)).trans (ajV107 5 8 rfl))))
          have pq145 : (V126 5 9).toInt = ((V 5 9)).toInt := congrArg Int32.toInt ((up2_o hV126 (by decide)).trans ((up2_o hV113 (by decide)).trans ((up2_o hV109 (by decide)).trans (ajV107 5 9 rfl))))
          have pq146 : (V126 42 b).toInt = ((V 42 b)).toInt := congrArg Int32.toInt ((up2_o hV126 (by decide)).trans ((up2_o hV113 (by decide)).trans ((up2_o hV109 (by decide)).trans (ajV107 42 b rfl))))
          have mo147 : MO V126 Z b gf True True True := MO.ch mo me136 ((up2_o hV126 (by decide)).trans ((up2_o hV113 (by decide)).trans ((up2_o hV109 (by decide)).trans (ajV107 67 gf rfl)))) ((up2_o hV126 (by decide)).trans ((up2_o hV113 (by decide)).trans ((up2_o hV109 (by decide)).trans (ajV107 80 gf rfl)))) (fun _ => Or.inl (by omega)) (fun x h => FK.k2 (by first | omega | ((try (have i_t123 := Imp.go t123 (by omega))); (try (have i_fo := Imp.go fo (by omega))); (try (have i_fo := Imp.go fo (by omega))); (try (have i_t123 := Imp.go t123 (by omega))); omega)) (by first | omega | ((try (have i_t123 := Imp.go t123 (by omega))); (try (have i_fo := Imp.go fo (by omega))); (try (have i_fo := Imp.go fo (by omega))); (try (have i_t123 := Imp.go t123 (by omega))); omega)) (by first | omega | ((try (have i_t123 := Imp.go t123 (by omega))); (try (have i_fo := Imp.go fo (by omega))); (try (have i_fo := Imp.go fo (by omega))); (try (have i_t123 := Imp.go t123 (by omega))); omega)) (by first | omega | ((try (have i_t123 := Imp.go t123 (by omega))); (try (have i_fo := Imp.go fo (by omega))); (try (have i_fo := Imp.go fo (by omega))); (try (have i_t123 := Imp.go t123 (by omega))); omega)))
          have mt148 : MT V126 Z b := MO.mt mo147 (by (first | exact om_c09d41618ed8 hgf | omega)) (by (first | exact om_82fa09255765 gd pq143 | omega))
          refine W.know (fun k150 k151 => ?_)
          obtain ⟨Hk149, hHk149⟩ : ∃ z, z = H := ⟨_, rfl⟩
          have k150 : Hk149.size ≤ s.heap.size + (zcc Z - zcc Z) := by rw [hHk149]; exact k150
          have k151 : tot Hk149 ≤ tot s.heap + (zss Z - zss Z) := by rw [hHk149]; exact k151
          refine gZ_ref (gA_runV (As := [.ref (Z.fa gf), .int z120, .int z128]) (rest := []) (ci := 5) (q0 := 5) hx hb hml hown hg hP hD hK hS hA hnw hgk (x_workWrap l D ks H.size ad kk V126 L Z z120 z128 (b) (gf) hMV126 (by first | exact om_9980c9514d38 rgz120.1 rgz120.2 f125 | first | omega | ((try (have i_t123 := Imp.go t123 (by omega))); (try (have i_fo := Imp.go fo (by omega))); (try (have i_fo := Imp.go fo (by omega))); (try (have i_t123 := Imp.go t123 (by omega))); omega)) (show b < 2 from by first | exact om_f940a4667dd6 hb2 | first | omega | ((try (have i_t123 := Imp.go t123 (by omega))); (try (have i_fo := Imp.go fo (by omega))); (try (have i_fo := Imp.go fo (by omega))); (try (have i_t123 := Imp.go t123 (by omega))); omega)) (show gf < Z.nf from by first | exact om_8c5722e49bb1 hgf | first | omega | ((try (have i_t123 := Imp.go t123 (by omega))); (try (have i_fo := Imp.go fo (by omega))); (try (have i_fo := Imp.go fo (by omega))); (try (have i_t123 := Imp.go t123 (by omega))); omega)) mt148 (show 0 ≤ (V126 71 gf).toInt ∧ (V126 71 gf).toInt < (V126 43 (5 * b + 2)).toInt from by first | omega | ((try (have i_t123 := Imp.go t123 (by omega))); (try (have i_fo := Imp.go fo (by omega))); (try (have i_fo := Imp.go fo (by omega))); (try (have i_t123 := Imp.go t123 (by omega))); omega)) (show 0 ≤ (V126 70 gf).toInt ∧ (V126 70 gf).toInt < (V126 3 13).toInt from by first | exact om_baeac38cc173 pq133 pq134 ((Imp.go fo (f14)).1) ((Imp.go fo (f14)).2) | first | omega | ((try (have i_t123 := Imp.go t123 (by omega))); (try (have i_fo := Imp.go fo (by omega))); (try (have i_fo := Imp.go fo (by omega))); (try (have i_t123 := Imp.go t123 (by omega))); omega)) (show z120.toInt < (V126 41 b).toInt from by first | exact om_f41f7a35e677 pq119 pq135 ((Imp.go t123 (om_e3b1d6ac9ce8 rgz120.1 f125))) | first | omega | ((try (have i_t123 := Imp.go t123 (by omega))); (try (have i_fo := Imp.go fo (by omega))); (try (have i_fo := Imp.go fo (by omega))); (try (have i_t123 := Imp.go t123 (by omega))); omega))) w1403 w1405 w62 w171 w1406 rfl xgMachine hdV_yX5_workWrap ⟨Nat.le_of_ble_eq_true rfl, Nat.le_of_ble_eq_true rfl⟩ rfl hl.1 rfl (Nat.le_of_ble_eq_true rfl) dX5_goOnCalling_119 ⟨z1 zoZ.1, z1 zoZ.2.1⟩) hD hS hA (fun u153 H locs w154 hP hD hK hS y155 y156 => ?_)
          obtain ⟨V157, L158, Z159, f160⟩ := u153
          obtain ⟨hMV157, ajV157, axL158, zlZ159, ilf160, t161, t162, t163, t164⟩ := w154
          have axL158 : L = L158 := Eq.symm axL158
          subst axL158
          have hP : va_P D vwCl (xw ad kk V157 L Z159) H := hP
          have hD : va_D A (xw ad kk V157 L Z159) := hD
          have hK : va_K D vwCl (xty kk Z159) s := hK
          have hMV157 : rgd bX V157 := hMV157
          have ajV157 : agr [(4, 5), (5, 6), (5, 9)] [33, 34, 35, 67, 68, 69, 70, 71, 72, 73, 74, 75, 76, 77, 78, 79, 80, 81, 82, 83, 84, 85] V126 V157 := ajV157
          have agV157 : agr [(4, 5), (5, 6), (5, 9), (5, 11), (5, 12), (5, 13), (5, 14)] [33, 34, 35, 67, 68, 69, 70, 71, 72, 73, 74, 75, 76, 77, 78, 79, 80, 81, 82, 83, 84, 85] V V157 := agV126.tr ajV157 (by decide) (by decide)
          have zlZ159 : ZL Z Z159 := zlZ159
          have zoZ159 : ZL Z Z159 := ZL.tr zoZ zlZ159
          have ziZ159 := zlZ159.1
          have zjZ159 := zlZ159.2.1
          have zkZ159 := zlZ159.2.2.1
          have zmZ159 := zoZ159.1
          have znZ159 := zoZ159.2.1
          have zpZ_Z159 := zoZ.1
          have zqZ_Z159 := zoZ.2.1
          have y155 : H.size ≤ Hk149.size + (zcc Z - zcc Z159) := by rw [hHk149]; exact y155
          have y156 : tot H ≤ tot Hk149 + (zss Z - zss Z159) := by rw [hHk149]; exact y156
          refine W.tight (k := zcc Z - zcc Z159) (n := zss Z - zss Z159) (by first | exact tg9 y155 k150 zlZ159.1 zoZ.1 | omega) (by first | exact tg9 y156 k151 zlZ159.2.1 zoZ.2.1 | omega) ?_
          have hl : lv_has ls 3 [(2, .int z120), (0, .ref (ad 5)), (1, .ref (Z159.fa gf))] := by rw [zlZ159.2.2.2.2 gf hgf]; exact hl
          have ilf160 : f160 < Z159.nf := ilf160
          have t161 : MJ V157 Z159 b := t161
          have t162 : (f160 : Int) + 1 = (V157 5 6).toInt := t162
          have t163 : (V157 67 f160).toInt = 4 ∧ (V157 68 f160).toInt = 0 := t163
          have t164 : (V157 5 9).toInt = 0 := t164
          have r165 : 0 ≤ ((V157 5 6)).toInt ∧ ((V157 5 6)).toInt ≤ 400 := hMV157 5 6
          have r166 : 0 ≤ ((V157 5 9)).toInt ∧ ((V157 5 9)).toInt ≤ 3 := hMV157 5 9
          refine lv_pop hx hb dX5_goOnCalling_122 rfl ?_
          refine W.know (fun kr1 kr2 => ?_)
          refine W.widen (k := zcc Z) (n := zss Z) (Nat.sub_le _ _) (Nat.sub_le _ _) ?_
          exact W.vret hx hb hr (fun t ht hW => ⟨⟨(V157, L, Z159), rfl, ⟨hMV157, agV157, rfl, zoZ159, t161⟩, ⟨by rw [ht]; exact hP, va_K.moved hW.alike hK, hD⟩, by rw [ht]; exact kr1, by rw [ht]; exact kr2⟩, hS.F ht⟩) hS.2.2 dX5_goOnCalling_123
        · skip
          have f167 : z120.toInt = (-1) := b_eq rfl (by decide) c124
          refine lv_aload_n hx hb dX5_goOnCalling_83 rfl (lv_at hl 1 rfl) ?_
          refine lv_aload_n hx hb dX5_goOnCalling_84 rfl (lv_at hl 2 rfl) ?_
          refine va_getN (D := D) (ci := 4) (v := .int (V113 81 gf)) (fs := (xfFrame V113 gf)) (C := RX4) (T := TX4) (N := 19) hx hb hg inX4 hown hK hP (336 + gf) (xgFrame hgf) rfl 14 (by decide) (hnw.use 1203 n1203 rfl) (fun _ h9 => h9) rfl dX5_goOnCalling_85 ?_
          refine g_top (v := (V107 81 gf)) ((up2_o hV113 (by decide)).trans (up2_o hV109 (by decide))) ?_
          refine lv_aload_n hx hb dX5_goOnCalling_88 rfl (lv_at hl 2 rfl) ?_
          refine va_getN (D := D) (ci := 4) (v := .int (V113 82 gf)) (fs := (xfFrame V113 gf)) (C := RX4) (T := TX4) (N := 19) hx hb hg inX4 hown hK hP (336 + gf) (xgFrame hgf) rfl 15 (by decide) (hnw.use 1204 n1204 rfl) (fun _ h9 => h9) rfl dX5_goOnCalling_89 ?_
          refine g_top (v := (V107 82 gf)) ((up2_o hV113 (by decide)).trans (up2_o hV109 (by decide))) ?_
          refine gA_void (gA_runV (As := [.int (V107 81 gf), .int (V107 82 gf)]) (rest := []) (ci := 5) (q0 := 5) hx hb hml hown hg hP hD hK hS hA hnw hgk (x_failWith l D ks H.size ad kk V113 L Z (V107 81 gf) (V107 82 gf) hMV113 ) w1261 w1263 w46 w171 w1264 rfl xgMachine hdV_yX5_failWith ⟨Nat.le_of_ble_eq_true rfl, Nat.le_of_ble_eq_true rfl⟩ rfl hl.1 rfl (Nat.le_of_ble_eq_true rfl) dX5_goOnCalling_92 ⟨z0, z0⟩) hP hD hK hS hA (fun u169 H locs w170 hP hD hK hS => ?_)
          obtain ⟨V172, L173⟩ := u169
          obtain ⟨hMV172, ajV172, axL173, t171⟩ := w170
          have axL173 : L = L173 := Eq.symm axL173
          subst axL173
          have hP : va_P D vwCl (xw ad kk V172 L Z) H := hP
          have hD : va_D A (xw ad kk V172 L Z) := hD
          have hMV172 : rgd bX V172 := hMV172
          have ajV172 : agr [(5, 9), (5, 11), (5, 12)] [] V113 V172 := ajV172
          have agV172 : agr [(4, 5), (5, 6), (5, 9), (5, 11), (5, 12), (5, 13), (5, 14)] [33, 34, 35, 67, 68, 69, 70, 71, 72, 73, 74, 75, 76, 77, 78, 79, 80, 81, 82, 83, 84, 85] V V172 := agV113.tr ajV172 (by decide) (by decide)
          have t171 : (V172 5 9).toInt = 2 := t171
          have r174 : 0 ≤ ((V172 5 9)).toInt ∧ ((V172 5 9)).toInt ≤ 3 := hMV172 5 9
          refine lv_aload_n hx hb dX5_goOnCalling_95 rfl (lv_at hl 1 rfl) ?_
          have pq175 : (V172 5 6).toInt = ((V 5 6)).toInt := congrArg Int32.toInt ((ajV172 5 6 rfl).trans ((up2_o hV113 (by decide)).trans ((up2_o hV109 (by decide)).trans (ajV107 5 6 rfl))))
          refine gA_void (gA_runV (As := []) (rest := []) (ci := 5) (q0 := 5) hx hb hml hown hg hP hD hK hS hA hnw hgk (x_leave l D ks H.size ad kk V172 L Z  hMV172 (show 1 ≤ (V172 5 6).toInt from by first | exact om_0cac171fa40c gd pq175 | first | omega | ((try (have i_t123 := Imp.go t123 (by omega))); (try (have i_fo := Imp.go fo (by omega))); (try (have i_fo := Imp.go fo (by omega))); (try (have i_t123 := Imp.go t123 (by omega))); omega))) w1308 w1310 w50 w171 w1311 rfl xgMachine hdV_yX5_leave ⟨Nat.le_of_ble_eq_true rfl, Nat.le_of_ble_eq_true rfl⟩ rfl hl.1 rfl (Nat.le_of_ble_eq_true rfl) dX5_goOnCalling_96 ⟨z0, z0⟩) hP hD hK hS hA (fun u177 H locs w178 hP hD hK hS => ?_)
          obtain ⟨V180, L181⟩ := u177
          obtain ⟨hMV180, ajV180, axL181, t179⟩ := w178
          have axL181 : L = L181 := Eq.symm axL181
          subst axL181
          have hP : va_P D vwCl (xw ad kk V180 L Z) H := hP
          have hD : va_D A (xw ad kk V180 L Z) := hD
          have hMV180 : rgd bX V180 := hMV180
          have ajV180 : agr [(5, 6)] [] V172 V180 := ajV180
          have agV180 : agr [(4, 5), (5, 6), (5, 9), (5, 11), (5, 12), (5, 13), (5, 14)] [33, 34, 35, 67, 68, 69, 70, 71, 72, 73, 74, 75, 76, 77, 78, 79, 80, 81, 82, 83, 84, 85] V V180 := agV172.tr ajV180 (by decide) (by decide)
          have t179 : (V180 5 6).toInt = (V172 5 6).toInt - 1 := t179
          have r182 : 0 ≤ ((V180 5 6)).toInt ∧ ((V180 5 6)).toInt ≤ 400 := hMV180 5 6
          have me183 : ME V V180 gf := (ME.tr (ME.tr (ME.up (ME.up (ME.tr ME.rf t106) hV109 (Or.inl ⟨by decide, by decide, Nat.le_refl _⟩)) hV113 (Or.inl ⟨by decide, by decide, Nat.le_refl _⟩)) (ME.ag ajV172 (by decide))) (ME.ag ajV180 (by decide)))
          have pq184 : (V180 67 gf).toInt = ((V 67 gf)).toInt := congrArg Int32.toInt ((ajV180 67 gf rfl).trans ((ajV172 67 gf rfl).trans ((up2_o hV113 (by decide)).trans ((up2_o hV109 (by decide)).trans (ajV107 67 gf rfl)))))
          have pq185 : (V180 68 gf).toInt = 3 := (congrArg Int32.toInt ((ajV180 68 gf rfl).trans ((ajV172 68 gf rfl).trans ((up2_o hV113 (by decide)).trans (up2_s hV109))))).trans (by decide)
          have pq186 : (V180 70 gf).toInt = ((V 70 gf)).toInt := congrArg Int32.toInt ((ajV180 70 gf rfl).trans ((ajV172 70 gf rfl).trans ((up2_o hV113 (by decide)).trans ((up2_o hV109 (by decide)).trans (ajV107 70 gf rfl)))))
          have pq187 : (V180 71 gf).toInt = ((V 71 gf)).toInt := congrArg Int32.toInt ((ajV180 71 gf rfl).trans ((ajV172 71 gf rfl).trans ((up2_o hV113 (by decide)).trans ((up2_o hV109 (by decide)).trans (ajV107 71 gf rfl)))))
          have pq188 : (V180 75 gf).toInt = ((V 41 b)).toInt := congrArg Int32.toInt ((ajV180 75 gf rfl).trans ((ajV172 75 gf rfl).trans (up2_s hV113)))
          have pq189 : (V180 76 gf).toInt = ((V 76 gf)).toInt := congrArg Int32.toInt ((ajV180 76 gf rfl).trans ((ajV172 76 gf rfl).trans ((up2_o hV113 (by decide)).trans ((up2_o hV109 (by decide)).trans (ajV107 76 gf rfl)))))
          have pq190 : (V180 80 gf).toInt = ((V 80 gf)).toInt := congrArg Int32.toInt ((ajV180 80 gf rfl).trans ((ajV172 80 gf rfl).trans ((up2_o hV113 (by decide)).trans ((up2_o hV109 (by decide)).trans (ajV107 80 gf rfl)))))
          have pq191 : (V180 84 gf).toInt = ((V 84 gf)).toInt := congrArg Int32.toInt ((ajV180 84 gf rfl).trans ((ajV172 84 gf rfl).trans ((up2_o hV113 (by decide)).trans ((up2_o hV109 (by decide)).trans (ajV107 84 gf rfl)))))
          have pq192 : (V180 5 8).toInt = ((V 5 8)).toInt := congrArg Int32.toInt ((ajV180 5 8 rfl).trans ((ajV172 5 8 rfl).trans ((up2_o hV113 (by decide)).trans ((up2_o hV109 (by decide)).trans (ajV107 5 8 rfl)))))
          have pq193 : (V180 5 9).toInt = ((V172 5 9)).toInt := congrArg Int32.toInt (ajV180 5 9 rfl)
          have pq194 : (V180 3 13).toInt = ((V 3 13)).toInt := congrArg Int32.toInt ((ajV180 3 13 rfl).trans ((ajV172 3 13 rfl).trans ((up2_o hV113 (by decide)).trans ((up2_o hV109 (by decide)).trans (ajV107 3 13 rfl)))))
          have pq195 : (V180 43 (5 * b + 2)).toInt = ((V 43 (5 * b + 2))).toInt := congrArg Int32.toInt ((ajV180 43 (5 * b + 2) rfl).trans ((ajV172 43 (5 * b + 2) rfl).trans ((up2_o hV113 (by decide)).trans ((up2_o hV109 (by decide)).trans (ajV107 43 (5 * b + 2) rfl)))))
          have pq196 : (V180 42 b).toInt = ((V 42 b)).toInt := congrArg Int32.toInt ((ajV180 42 b rfl).trans ((ajV172 42 b rfl).trans ((up2_o hV113 (by decide)).trans ((up2_o hV109 (by decide)).trans (ajV107 42 b rfl)))))
          have pq197 : (V180 41 b).toInt = ((V 41 b)).toInt := congrArg Int32.toInt ((ajV180 41 b rfl).trans ((ajV172 41 b rfl).trans ((up2_o hV113 (by decide)).trans ((up2_o hV109 (by decide)).trans (ajV107 41 b rfl)))))
          have rp198 : MJ V180 Z b := MP.lv (MO.mp mo) me183 (by (first | exact om_5ac7632c8ef3 gd pq175 t179 | omega)) (fun _ => Or.inl (by omega))
          refine W.know (fun kr1 kr2 => ?_)
          refine W.widen (k := zcc Z) (n := zss Z) (Nat.sub_le _ _) (Nat.sub_le _ _) ?_
          exact W.vret hx hb hr (fun t ht hW => ⟨⟨(V180, L, Z), rfl, ⟨hMV180, agV180, rfl, zoZ, rp198⟩, ⟨by rw [ht]; exact hP, va_K.moved hW.alike hK, hD⟩, by rw [ht]; exact kr1, by rw [ht]; exact kr2⟩, hS.F ht⟩) hS.2.2 dX5_goOnCalling_99
    · skip
      have f199 : ((V 5 9)).toInt ≠ 2 := b_neq rfl (by decide) c15
      refine lv_aload_n hx hb dX5_goOnCalling_21 rfl (lv_at hl 0 rfl) ?_
      refine gA_void (gA_runV (As := []) (rest := []) (ci := 5) (q0 := 5) hx hb hml hown hg hP hD hK hS hA hnw hgk (x_leave l D ks H.size ad kk V L Z  hMV (show 1 ≤ (V 5 6).toInt from by first | exact om_5d8e1b1c1257 gd | first | omega | ((try (have i_fo := Imp.go fo (by omega))); omega))) w1308 w1310 w50 w171 w1311 rfl xgMachine hdV_yX5_leave ⟨Nat.le_of_ble_eq_true rfl, Nat.le_of_ble_eq_true rfl⟩ rfl hl.1 rfl (Nat.le_of_ble_eq_true rfl) dX5_goOnCalling_22 ⟨z0, z0⟩) hP hD hK hS hA (fun u201 H locs w202 hP hD hK hS => ?_)
      obtain ⟨V204, L205⟩ := u201
      obtain ⟨hMV204, ajV204, axL205, t203⟩ := w202
      have axL205 : L = L205 := Eq.symm axL205
      subst axL205
      have hP : va_P D vwCl (xw ad kk V204 L Z) H := hP
      have hD : va_D A (xw ad kk V204 L Z) := hD
      have hMV204 : rgd bX V204 := hMV204
      have ajV204 : agr [(5, 6)] [] V V204 := ajV204
      have agV204 : agr [(4, 5), (5, 6), (5, 9), (5, 11), (5, 12), (5, 13), (5, 14)] [33, 34, 35, 67, 68, 69, 70, 71, 72, 73, 74, 75, 76, 77, 78, 79, 80, 81, 82, 83, 84, 85] V V204 := agV.tr ajV204 (by decide) (by decide)
      have t203 : (V204 5 6).toInt = (V 5 6).toInt - 1 := t203
      have r206 : 0 ≤ ((V204 5 6)).toInt ∧ ((V204 5 6)).toInt ≤ 400 := hMV204 5 6
      have me207 : ME V V204 gf := (ME.tr ME.rf (ME.ag ajV204 (by decide)))
      have pq208 : (V204 67 gf).toInt = ((V 67 gf)).toInt := congrArg Int32.toInt (ajV204 67 gf rfl)
      have pq209 : (V204 68 gf).toInt = ((V 68 gf)).toInt := congrArg Int32.toInt (ajV204 68 gf rfl)
      have pq210 : (V204 70 gf).toInt = ((V 70 gf)).toInt := congrArg Int32.toInt (ajV204 70 gf rfl)
      have pq211 : (V204 71 gf).toInt = ((V 71 gf)).toInt := congrArg Int32.toInt (ajV204 71 gf rfl)
      have pq212 : (V204 75 gf).toInt = ((V 75 gf)).toInt := congrArg Int32.toInt (ajV204 75 gf rfl)
      have pq213 : (V204 76 gf).toInt = ((V 76 gf)).toInt := congrArg Int32.toInt (ajV204 76 gf rfl)
      have pq214 : (V204 80 gf).toInt = ((V 80 gf)).toInt := congrArg Int32.toInt (ajV204 80 gf rfl)
      have pq215 : (V204 84 gf).toInt = ((V 84 gf)).toInt := congrArg Int32.toInt (ajV204 84 gf rfl)
      have pq216 : (V204 5 8).toInt = ((V 5 8)).toInt := congrArg Int32.toInt (ajV204 5 8 rfl)
      have pq217 : (V204 5 9).toInt = ((V 5 9)).toInt := congrArg Int32.toInt (ajV204 5 9 rfl)
      have pq218 : (V204 3 13).toInt = ((V 3 13)).toInt := congrArg Int32.toInt (ajV204 3 13 rfl)
      have pq219 : (V204 43 (5 * b + 2)).toInt = ((V 43 (5 * b + 2))).toInt := congrArg Int32.toInt (ajV204 43 (5 * b + 2) rfl)
      have pq220 : (V204 42 b).toInt = ((V 42 b)).toInt := congrArg Int32.toInt (ajV204 42 b rfl)
      have pq221 : (V204 41 b).toInt = ((V 41 b)).toInt := congrArg Int32.toInt (ajV204 41 b rfl)
      have rp222 : MJ V204 Z b := MP.lv (MO.mp mo) me207 (by (first | exact om_671f931d9ccb gd t203 | omega)) (fun _ => Or.inl (by omega))
      refine W.know (fun kr1 kr2 => ?_)
      refine W.widen (k := zcc Z) (n := zss Z) (Nat.sub_le _ _) (Nat.sub_le _ _) ?_
      exact W.vret hx hb hr (fun t ht hW => ⟨⟨(V204, L, Z), rfl, ⟨hMV204, agV204, rfl, zoZ, rp222⟩, ⟨by rw [ht]; exact hP, va_K.moved hW.alike hK, hD⟩, by rw [ht]; exact kr1, by rw [ht]; exact kr2⟩, hS.F ht⟩) hS.2.2 dX5_goOnCalling_25
  · skip
    have f223 : ((V 68 gf)).toInt = 0 := b_eq rfl (by decide) c13
    refine lv_aload_n hx hb dX5_goOnCalling_7 rfl (lv_at hl 0 rfl) ?_
    refine lv_aload_n hx hb dX5_goOnCalling_8 rfl (lv_at hl 1 rfl) ?_
    refine W.know (fun k225 k226 => ?_)
    obtain ⟨Hk224, hHk224⟩ : ∃ z, z = H := ⟨_, rfl⟩
    have k225 : Hk224.size ≤ s.heap.size + (zcc Z - zcc Z) := by rw [hHk224]; exact k225
    have k226 : tot Hk224 ≤ tot s.heap + (zss Z - zss Z) := by rw [hHk224]; exact k226
    refine gZ_void (gA_runV (As := [.ref (Z.fa gf)]) (rest := []) (ci := 5) (q0 := 5) hx hb hml hown hg hP hD hK hS hA hnw hgk (x_beginCalling l D ks H.size ad kk V L Z (b) (gf) hMV (show b < 2 from by first | exact om_f940a4667dd6 hb2 | first | omega | ((try (have i_fo := Imp.go fo (by omega))); omega)) (show gf < Z.nf from by first | exact om_8c5722e49bb1 hgf | first | omega | ((try (have i_fo := Imp.go fo (by omega))); omega)) mo (show (gf : Int) + 1 = (V 5 6).toInt from by first | exact om_b7eb86266639 gd | first | omega | ((try (have i_fo := Imp.go fo (by omega))); omega)) (show (V 67 gf).toInt = 2 from by first | exact om_6aa5e6f8c558 gk | first | omega | ((try (have i_fo := Imp.go fo (by omega))); omega))) w1384 w1386 w59 w171 w1387 rfl xgMachine hdV_yX5_beginCalling ⟨Nat.le_of_ble_eq_true rfl, Nat.le_of_ble_eq_true rfl⟩ rfl hl.1 rfl (Nat.le_of_ble_eq_true rfl) dX5_goOnCalling_9 ⟨z1 zoZ.1, z1 zoZ.2.1⟩) hD hS hA (fun u228 H locs w229 hP hD hK hS y230 y231 => ?_)
    obtain ⟨V232, L233, Z234⟩ := u228
    obtain ⟨hMV232, ajV232, axL233, zlZ234, t236⟩ := w229
    have axL233 : L = L233 := Eq.symm axL233
    subst axL233
    have hP : va_P D vwCl (xw ad kk V232 L Z234) H := hP
    have hD : va_D A (xw ad kk V232 L Z234) := hD
    have hK : va_K D vwCl (xty kk Z234) s := hK
    have hMV232 : rgd bX V232 := hMV232
    have ajV232 : agr [(5, 6), (5, 9), (5, 11), (5, 12), (5, 13), (5, 14)] [67, 68, 69, 70, 71, 72, 73, 74, 75, 76, 77, 78, 79, 80, 81, 82, 83, 84, 85] V V232 := ajV232
    have agV232 : agr [(4, 5), (5, 6), (5, 9), (5, 11), (5, 12), (5, 13), (5, 14)] [33, 34, 35, 67, 68, 69, 70, 71, 72, 73, 74, 75, 76, 77, 78, 79, 80, 81, 82, 83, 84, 85] V V232 := agV.tr ajV232 (by decide) (by decide)
    have zlZ234 : ZL Z Z234 := zlZ234
    have zoZ234 : ZL Z Z234 := ZL.tr zoZ zlZ234
    have ziZ234 := zlZ234.1
    have zjZ234 := zlZ234.2.1
    have zkZ234 := zlZ234.2.2.1
    have zmZ234 := zoZ234.1
    have znZ234 := zoZ234.2.1
    have zpZ_Z234 := zoZ.1
    have zqZ_Z234 := zoZ.2.1
    have y230 : H.size ≤ Hk224.size + (zcc Z - zcc Z234) := by rw [hHk224]; exact y230
    have y231 : tot H ≤ tot Hk224 + (zss Z - zss Z234) := by rw [hHk224]; exact y231
    refine W.tight (k := zcc Z - zcc Z234) (n := zss Z - zss Z234) (by first | exact tg9 y230 k225 zlZ234.1 zoZ.1 | omega) (by first | exact tg9 y231 k226 zlZ234.2.1 zoZ.2.1 | omega) ?_
    have hl : lv_has ls 3 [(0, .ref (ad 5)), (1, .ref (Z234.fa gf))] := by rw [zlZ234.2.2.2.2 gf hgf]; exact hl
    have t236 : MJ V232 Z234 b := t236
    refine W.know (fun kr1 kr2 => ?_)
    refine W.widen (k := zcc Z) (n := zss Z) (Nat.sub_le _ _) (Nat.sub_le _ _) ?_
    exact W.vret hx hb hr (fun t ht hW => ⟨⟨(V232, L, Z234), rfl, ⟨hMV232, agV232, rfl, zoZ234, t236⟩, ⟨by rw [ht]; exact hP, va_K.moved hW.alike hK, hD⟩, by rw [ht]; exact kr1, by rw [ht]; exact kr2⟩, hS.F ht⟩) hS.2.2 dX5_goOnCalling_12
abbrev r_x_beginInside (Z : XZ) : Room := { frames := 5, cells := zcc Z, slots := zss Z, locals := 115 }
abbrev q_x_beginInside (D : va_G) (ks : KS) (ad : Nat → Nat) (kk : Nat → ClassId) (V : Vf) (L : Lf) (Z : XZ) (b : Nat) (gf : Nat) (A : Nat → Prop) : Array Value → State → Outcome → State → Prop := qZv D (fun (u : Vf × Lf × XZ) => rgd bX u.1 ∧ agr [(4, 5), (5, 6), (5, 9), (5, 10)] [33, 34, 35, 67, 68, 69, 70, 71, 72, 73, 74, 75, 76, 77, 78, 79, 80, 81, 82, 83, 84, 85] V u.1 ∧ u.2.1 = L ∧ ZL Z u.2.2 ∧ (MJ u.1 u.2.2 b)) (fun u => xw ad kk u.1 u.2.1 u.2.2) (fun u => xty kk u.2.2) (fun u => zcc Z - zcc u.2.2) (fun u => zss Z - zss u.2.2) A
set_option maxHeartbeats 4000000 in
set_option maxRecDepth 100000 in
theorem x_beginInside (l : Launch) (D : va_G) (ks : KS) (sz : Nat) (ad : Nat → Nat) (kk : Nat → ClassId) (V : Vf) (L : Lf) (Z : XZ) (b : Nat) (gf : Nat) (hMV : rgd bX V) (hb2 : b < 2) (hgf : gf < Z.nf) (mo : MO V Z b gf True (QN V b) (QN V b)) (gd : (gf : Int) + 1 = (V 5 6).toInt) (gk : (V 67 gf).toInt = 3)  : Met l yX5_beginInside (Cond.code yX5_beginInside cX5_beginInside 3 none :: GW) (r_x_beginInside Z) (va_Pc [.ref (ad 5), .ref (Z.fa gf)] (gp D ks (xw ad kk V L Z) (xty kk Z) sz)) (q_x_beginInside D ks ad kk V L Z  b gf (va_A (xw ad kk V L Z) sz)) (zcc Z) (zss Z) (va_A (xw ad kk V L Z) sz) := by
  refine g_met (q_x_beginInside D ks ad kk V L Z  b gf) (by decide) (Nat.le_of_ble_eq_true rfl) ?_
  intro p e s m below meth c A ls H locs hx hb hr hml hown hg hlocks hin hnw hgk hP hK hD hS hA hl
  have hown : s.vm.findClass RX5 = some m.cls := hown
  have hl : lv_has ls 3 [(0, .ref (ad 5)), (1, .ref (Z.fa gf))] := hl
  have hP : va_P D vwCl (xw ad kk V L Z) H := hP
  have hD : va_D A (xw ad kk V L Z) := hD
  have hK : va_K D vwCl (xty kk Z) s := hK
  have agV : agr [(4, 5), (5, 6), (5, 9), (5, 10)] [33, 34, 35, 67, 68, 69, 70, 71, 72, 73, 74, 75, 76, 77, 78, 79, 80, 81, 82, 83, 84, 85] V V := agr.rf
  have zoZ : ZL Z Z := ZL.rf
  refine W.know (fun ka kb => ?_)
  refine W.tight (k := zcc Z - zcc Z) (n := zss Z - zss Z) (by omega) (by omega) ?_
  have r1 : 0 ≤ ((V 5 6)).toInt ∧ ((V 5 6)).toInt ≤ 400 := hMV 5 6
  have kdp := i_clamp (x := V 5 6) rfl (by (first | exact om_c66f1b494bd9 gd | omega))
  have hdn : (gf : Int) + 1 ≤ (Z.nf : Int) := by (first | exact om_29efded833ec hgf | omega)
  have mup := MO.up mo
  have msz := mup.1
  have mbk := mup.2.2.2.1
  obtain ⟨xk, fk⟩ := MO.fk mo
  have r2 : (-1) ≤ ((V 71 gf)).toInt ∧ ((V 71 gf)).toInt ≤ 23 := hMV 71 gf
  have r3 : 0 ≤ ((V 75 gf)).toInt ∧ ((V 75 gf)).toInt ≤ 12 := hMV 75 gf
  have r4 : 0 ≤ ((V 80 gf)).toInt ∧ ((V 80 gf)).toInt ≤ 300 := hMV 80 gf
  have r5 : 0 ≤ ((V 84 gf)).toInt ∧ ((V 84 gf)).toInt ≤ 2147483647 := hMV 84 gf
  have r6 : 0 ≤ ((V 5 8)).toInt ∧ ((V 5 8)).toInt ≤ 300 := hMV 5 8
  have r7 : 0 ≤ ((V 5 9)).toInt ∧ ((V 5 9)).toInt ≤ 3 := hMV 5 9
  have r8 : 0 ≤ ((V 3 13)).toInt ∧ ((V 3 13)).toInt ≤ 300 := hMV 3 13
  have r9 : 0 ≤ ((V 43 (5 * b + 2))).toInt ∧ ((V 43 (5 * b + 2))).toInt ≤ ((xcap (5 * b + 2) : Nat) : Int) := hMV 43 (5 * b + 2)
  have r10 : xcap (5 * b + 2) = 24 := xcap_2
  have r11 : 0 ≤ ((V 41 b)).toInt ∧ ((V 41 b)).toInt ≤ 12 := hMV 41 b
  have r12 : 0 ≤ ((V 42 b)).toInt ∧ ((V 42 b)).toInt ≤ 8200 := hMV 42 b
  have fc := fk.1 (by omega)
  have fo := fk.2.1 (by omega) (by omega)
  have fp := fk.2.2.2.2.2.2.2.2.1 (by omega)
  refine lv_aload_n hx hb dX5_beginInside_0 rfl (lv_at hl 0 rfl) ?_
  refine va_get (D := D) (ci := 5) (v := .ref (ad (38 + Int32.toNatClampNeg (V 5 5)))) (fs := (xfMachine ad V L Z)) (C := RX5) (T := TX5) (N := 15) hx hb hg inX5 hown hK hP 5 xgMachine rfl 5 (by decide) (hg _ w672) (fun _ h9 => h9) rfl dX5_beginInside_1 ?_
  have r13 : 0 ≤ ((V 5 5)).toInt ∧ ((V 5 5)).toInt ≤ 1 := hMV 5 5
  refine g_topv (v := .ref (ad (38 + b))) (rfP (by omega)) ?_
  refine lv_aload_n hx hb dX5_beginInside_4 rfl (lv_at hl 1 rfl) ?_
  refine va_getN (D := D) (ci := 4) (v := .int (V 75 gf)) (fs := (xfFrame V gf)) (C := RX4) (T := TX4) (N := 19) hx hb hg inX4 hown hK hP (336 + gf) (xgFrame hgf) rfl 8 (by decide) (hnw.use 1197 n1197 rfl) (fun _ h9 => h9) rfl dX5_beginInside_5 ?_
  refine lv_iconst (v := 1) hx hb dX5_beginInside_8 (by decide) ?_
  refine lv_aload_n hx hb dX5_beginInside_9 rfl (lv_at hl 1 rfl) ?_
  refine va_getN (D := D) (ci := 4) (v := .int (V 71 gf)) (fs := (xfFrame V gf)) (C := RX4) (T := TX4) (N := 19) hx hb hg inX4 hown hK hP (336 + gf) (xgFrame hgf) rfl 4 (by decide) (hnw.use 1193 n1193 rfl) (fun _ h9 => h9) rfl dX5_beginInside_10 ?_
  refine lv_aload_n hx hb dX5_beginInside_13 rfl (lv_at hl 1 rfl) ?_
  refine va_getN (D := D) (ci := 4) (v := .int (V 73 gf)) (fs := (xfFrame V gf)) (C := RX4) (T := TX4) (N := 19) hx hb hg inX4 hown hK hP (336 + gf) (xgFrame hgf) rfl 6 (by decide) (hnw.use 1195 n1195 rfl) (fun _ h9 => h9) rfl dX5_beginInside_14 ?_
  have r14 : 0 ≤ ((V 73 gf)).toInt ∧ ((V 73 gf)).toInt ≤ 19 := hMV 73 gf
  have r15 : Int32.toInt 1 = 1 := by decide
  refine gA_int (gA_runV (As := [.int (V 75 gf), .int 1, .int (V 71 gf), .int (V 73 gf)]) (rest := []) (ci := 0) (q0 := (38 + b)) hx hb hml hown hg hP hD hK hS hA hnw hgk (x_wrapFrom2 l D ks H.size ad kk V L Z (V 75 gf) 1 (V 71 gf) (V 73 gf) (b) hMV (by (first | exact om_8dd06492493b r3.1 r3.2 | omega)) (by omega) (show b < 2 from by (first | exact om_f940a4667dd6 hb2 | omega))) w1419 w1420 w1421 w167 w1422 rfl (xgBook hb2) hdV_yX0_wrapFrom ⟨Nat.le_of_ble_eq_true rfl, Nat.le_of_ble_eq_true rfl⟩ rfl hl.1 rfl (Nat.le_of_ble_eq_true rfl) dX5_beginInside_17 ⟨z0, z0⟩) hP hD hK hS hA (fun z16 u17 H locs w18 hP hD hK hS => ?_)
  obtain ⟨rgz16, t19⟩ := w18
  have rgz16 : (-1) ≤ z16.toInt ∧ z16.toInt ≤ 11 := rgz16
  have t19 : Imp (0 ≤ z16.toInt) (z16.toInt < (V 41 b).toInt) := t19
  refine lv_istore_n (lv' := [(2, .int z16), (0, .ref (ad 5)), (1, .ref (Z.fa gf))]) hx hb dX5_beginInside_20 rfl hl (by decide) rfl (fun ls hl => ?_)
  refine lv_iload_n hx hb dX5_beginInside_21 rfl (lv_at hl 0 rfl) ?_
  refine lv_iconst (v := (-1)) hx hb dX5_beginInside_22 (by decide) ?_
  refine lv_icmp_eq (tgt := 48) hx hb dX5_beginInside_23 (by decide) (fun c20 => ?_) (fun c20 => ?_)
  · skip
    have f21 : z16.toInt = (-1) := b_eq rfl (by decide) c20
    refine lv_aload_n hx hb dX5_beginInside_48 rfl (lv_at hl 2 rfl) ?_
    refine lv_iconst (v := 4) hx hb dX5_beginInside_49 (by decide) ?_
    refine va_putN (D := D) (ci := 4) (v := .int 4) (ty := tyX4 1) (fs := (xfFrame V gf)) (C := RX4) (T := TX4) (N := 19) hx hb hg inX4 tyX4 tyX4_ok nmX4 hown hK hP hD hS (336 + gf) (xgFrame hgf) rfl 1 (by decide) (hnw.use 1190 n1190 rfl) (fun _ h9 => h9) rfl (tyX4_ok 1 (by decide)) rfl rfl (Nat.le_of_ble_eq_true rfl) dX5_beginInside_50 (fun H locs hP hD hS => ?_)
    obtain ⟨V22, hV22⟩ : ∃ z, z = up2 V 68 gf 4 := ⟨_, rfl⟩
    have ew23 : (xw ad kk V L Z).set (336 + gf) ((Z.fa gf), .inr (4, (xfFrame V gf).set 1 (.int 4))) = xw ad kk V22 L Z := by rw [hV22]; exact xpFrame_phase hgf
    have hP : va_P D vwCl (xw ad kk V22 L Z) H := by rw [← ew23]; exact hP
    have hD : va_D A (xw ad kk V22 L Z) := by rw [← ew23]; exact hD
    have hMV22 : rgd bX V22 := hMV.put hV22 (i_full _)
    have agV22 : agr [(4, 5), (5, 6), (5, 9), (5, 10)] [33, 34, 35, 67, 68, 69, 70, 71, 72, 73, 74, 75, 76, 77, 78, 79, 80, 81, 82, 83, 84, 85] V V22 := agV.up hV22 rfl
    refine lv_aload_n hx hb dX5_beginInside_53 rfl (lv_at hl 2 rfl) ?_
    refine lv_iconst (v := 0) hx hb dX5_beginInside_54 (by decide) ?_
    refine va_putN (D := D) (ci := 4) (v := .int 0) (ty := tyX4 8) (fs := (xfFrame V22 gf)) (C := RX4) (T := TX4) (N := 19) hx hb hg inX4 tyX4 tyX4_ok nmX4 hown hK hP hD hS (336 + gf) (xgFrame hgf) rfl 8 (by decide) (hnw.use 1197 n1197 rfl) (fun _ h9 => h9) rfl (tyX4_ok 8 (by decide)) rfl rfl (Nat.le_of_ble_eq_true rfl) dX5_beginInside_55 (fun H locs hP hD hS => ?_)
    obtain ⟨V24, hV24⟩ : ∃ z, z = up2 V22 75 gf 0 := ⟨_, rfl⟩
    have ew25 : (xw ad kk V22 L Z).set (336 + gf) ((Z.fa gf), .inr (4, (xfFrame V22 gf).set 8 (.int 0))) = xw ad kk V24 L Z := by rw [hV24]; exact xpFrame_position hgf
    have hP : va_P D vwCl (xw ad kk V24 L Z) H := by rw [← ew25]; exact hP
    have hD : va_D A (xw ad kk V24 L Z) := by rw [← ew25]; exact hD
    have hMV24 : rgd bX V24 := hMV22.put hV24 (show 0 ≤ Int32.toInt 0 ∧ Int32.toInt 0 ≤ 12 from by decide)
    have agV24 : agr [(4, 5), (5, 6), (5, 9), (5, 10)] [33, 34, 35, 67, 68, 69, 70, 71, 72, 73, 74, 75, 76, 77, 78, 79, 80, 81, 82, 83, 84, 85] V V24 := agV22.up hV24 rfl
    refine lv_aload_n hx hb dX5_beginInside_58 rfl (lv_at hl 1 rfl) ?_
    refine lv_aload_n hx hb dX5_beginInside_59 rfl (lv_at hl 2 rfl) ?_
    refine va_getN (D := D) (ci := 4) (v := .int (V24 74 gf)) (fs := (xfFrame V24 gf)) (C := RX4) (T := TX4) (N := 19) hx hb hg inX4 hown hK hP (336 + gf) (xgFrame hgf) rfl 7 (by decide) (hnw.use 1196 n1196 rfl) (fun _ h9 => h9) rfl dX5_beginInside_60 ?_
    refine g_top (v := (V 74 gf)) ((up2_o hV24 (by decide)).trans (up2_o hV22 (by decide))) ?_
    refine gA_void (gA_runV (As := [.int (V 74 gf)]) (rest := []) (ci := 5) (q0 := 5) hx hb hml hown hg hP hD hK hS hA hnw hgk (x_answerWith2 l D ks H.size ad kk V24 L Z (V 74 gf) hMV24 ) w1304 w1306 w49 w171 w1307 rfl xgMachine hdV_yX5_answerWith ⟨Nat.le_of_ble_eq_true rfl, Nat.le_of_ble_eq_true rfl⟩ rfl hl.1 rfl (Nat.le_of_ble_eq_true rfl) dX5_beginInside_63 ⟨z0, z0⟩) hP hD hK hS hA (fun u27 H locs w28 hP hD hK hS => ?_)
    obtain ⟨V31, L32⟩ := u27
    obtain ⟨hMV31, ajV31, axL32, t29, t30⟩ := w28
    have axL32 : L = L32 := Eq.symm axL32
    subst axL32
    have hP : va_P D vwCl (xw ad kk V31 L Z) H := hP
    have hD : va_D A (xw ad kk V31 L Z) := hD
    have hMV31 : rgd bX V31 := hMV31
    have ajV31 : agr [(5, 9), (5, 10)] [] V24 V31 := ajV31
    have agV31 : agr [(4, 5), (5, 6), (5, 9), (5, 10)] [33, 34, 35, 67, 68, 69, 70, 71, 72, 73, 74, 75, 76, 77, 78, 79, 80, 81, 82, 83, 84, 85] V V31 := agV24.tr ajV31 (by decide) (by decide)
    have t29 : (V31 5 9).toInt = 1 := t29
    have t30 : (V31 5 10).toInt = ((V 74 gf)).toInt := t30
    have r33 : 0 ≤ ((V31 5 9)).toInt ∧ ((V31 5 9)).toInt ≤ 3 := hMV31 5 9
    have me34 : ME V V31 gf := (ME.tr (ME.up (ME.up ME.rf hV22 (Or.inl ⟨by decide, by decide, Nat.le_refl _⟩)) hV24 (Or.inl ⟨by decide, by decide, Nat.le_refl _⟩)) (ME.ag ajV31 (by decide)))
    have pq35 : (V31 67 gf).toInt = ((V 67 gf)).toInt := congrArg Int32.toInt ((ajV31 67 gf rfl).trans ((up2_o hV24 (by decide)).trans (up2_o hV22 (by decide))))
    have pq36 : (V31 68 gf).toInt = 4 := (congrArg Int32.toInt ((ajV31 68 gf rfl).trans ((up2_o hV24 (by decide)).trans (up2_s hV22)))).trans (by decide)
    have pq37 : (V31 70 gf).toInt = ((V 70 gf)).toInt := congrArg Int32.toInt ((ajV31 70 gf rfl).trans ((up2_o hV24 (by decide)).trans (up2_o hV22 (by decide))))
    have pq38 : (V31 71 gf).toInt = ((V 71 gf)).toInt := congrArg Int32.toInt ((ajV31 71 gf rfl).trans ((up2_o hV24 (by decide)).trans (up2_o hV22 (by decide))))
    have pq39 : (V31 75 gf).toInt = 0 := (congrArg Int32.toInt ((ajV31 75 gf rfl).trans (up2_s hV24))).trans (by decide)
    have pq40 : (V31 76 gf).toInt = ((V 76 gf)).toInt := congrArg Int32.toInt ((ajV31 76 gf rfl).trans ((up2_o hV24 (by decide)).trans (up2_o hV22 (by decide))))
    have pq41 : (V31 80 gf).toInt = ((V 80 gf)).toInt := congrArg Int32.toInt ((ajV31 80 gf rfl).trans ((up2_o hV24 (by decide)).trans (up2_o hV22 (by decide))))
    have pq42 : (V31 84 gf).toInt = ((V 84 gf)).toInt := congrArg Int32.toInt ((ajV31 84 gf rfl).trans ((up2_o hV24 (by decide)).trans (up2_o hV22 (by decide))))
    have pq43 : (V31 5 6).toInt = ((V 5 6)).toInt := congrArg Int32.toInt ((ajV31 5 6 rfl).trans ((up2_o hV24 (by decide)).trans (up2_o hV22 (by decide))))
    have pq44 : (V31 5 8).toInt = ((V 5 8)).toInt := congrArg Int32.toInt ((ajV31 5 8 rfl).trans ((up2_o hV24 (by decide)).trans (up2_o hV22 (by decide))))
    have pq45 : (V31 3 13).toInt = ((V 3 13)).toInt := congrArg Int32.toInt ((ajV31 3 13 rfl).trans ((up2_o hV24 (by decide)).trans (up2_o hV22 (by decide))))
    have pq46 : (V31 43 (5 * b + 2)).toInt = ((V 43 (5 * b + 2))).toInt := congrArg Int32.toInt ((ajV31 43 (5 * b + 2) rfl).trans ((up2_o hV24 (by decide)).trans (up2_o hV22 (by decide))))
    have pq47 : (V31 42 b).toInt = ((V 42 b)).toInt := congrArg Int32.toInt ((ajV31 42 b rfl).trans ((up2_o hV24 (by decide)).trans (up2_o hV22 (by decide))))
    have pq48 : (V31 41 b).toInt = ((V 41 b)).toInt := congrArg Int32.toInt ((ajV31 41 b rfl).trans ((up2_o hV24 (by decide)).trans (up2_o hV22 (by decide))))
    have mo49 : MO V31 Z b gf True (QN V31 b) (QN V31 b) := MO.ch mo me34 ((ajV31 67 gf rfl).trans ((up2_o hV24 (by decide)).trans (up2_o hV22 (by decide)))) ((ajV31 80 gf rfl).trans ((up2_o hV24 (by decide)).trans (up2_o hV22 (by decide)))) (fun _ => Or.inl (by omega)) (fun x h => FK.k3 (by first | omega | ((try (have i_t19 := Imp.go t19 (by omega))); omega)) (by first | omega | ((try (have i_t19 := Imp.go t19 (by omega))); omega)) (by first | omega | ((try (have i_t19 := Imp.go t19 (by omega))); omega)) (by first | omega | ((try (have i_t19 := Imp.go t19 (by omega))); omega)))
    have rp50 : MJ V31 Z b := MO.mj mo49 (by (first | exact om_c09d41618ed8 hgf | omega)) (by (first | exact om_82fa09255765 gd pq43 | omega)) id id Or.inr
    refine W.know (fun kr1 kr2 => ?_)
    refine W.widen (k := zcc Z) (n := zss Z) (Nat.sub_le _ _) (Nat.sub_le _ _) ?_
    exact W.vret hx hb hr (fun t ht hW => ⟨⟨(V31, L, Z), rfl, ⟨hMV31, agV31, rfl, zoZ, rp50⟩, ⟨by rw [ht]; exact hP, va_K.moved hW.alike hK, hD⟩, by rw [ht]; exact kr1, by rw [ht]; exact kr2⟩, hS.F ht⟩) hS.2.2 dX5_beginInside_66
  · skip
    have f51 : z16.toInt ≠ (-1) := b_neq rfl (by decide) c20
    refine lv_aload_n hx hb dX5_beginInside_26 rfl (lv_at hl 2 rfl) ?_
    refine lv_iconst (v := 1) hx hb dX5_beginInside_27 (by decide) ?_
    refine va_putN (D := D) (ci := 4) (v := .int 1) (ty := tyX4 1) (fs := (xfFrame V gf)) (C := RX4) (T := TX4) (N := 19) hx hb hg inX4 tyX4 tyX4_ok nmX4 hown hK hP hD hS (336 + gf) (xgFrame hgf) rfl 1 (by decide) (hnw.use 1190 n1190 rfl) (fun _ h9 => h9) rfl (tyX4_ok 1 (by decide)) rfl rfl (Nat.le_of_ble_eq_true rfl) dX5_beginInside_28 (fun H locs hP hD hS => ?_)
    obtain ⟨V52, hV52⟩ : ∃ z, z = up2 V 68 gf 1 := ⟨_, rfl⟩
    have ew53 : (xw ad kk V L Z).set (336 + gf) ((Z.fa gf), .inr (4, (xfFrame V gf).set 1 (.int 1))) = xw ad kk V52 L Z := by rw [hV52]; exact xpFrame_phase hgf
    have hP : va_P D vwCl (xw ad kk V52 L Z) H := by rw [← ew53]; exact hP
    have hD : va_D A (xw ad kk V52 L Z) := by rw [← ew53]; exact hD
    have hMV52 : rgd bX V52 := hMV.put hV52 (i_full _)
    have agV52 : agr [(4, 5), (5, 6), (5, 9), (5, 10)] [33, 34, 35, 67, 68, 69, 70, 71, 72, 73, 74, 75, 76, 77, 78, 79, 80, 81, 82, 83, 84, 85] V V52 := agV.up hV52 rfl
    refine lv_aload_n hx hb dX5_beginInside_31 rfl (lv_at hl 1 rfl) ?_
    refine lv_aload_n hx hb dX5_beginInside_32 rfl (lv_at hl 2 rfl) ?_
    refine lv_iload_n hx hb dX5_beginInside_33 rfl (lv_at hl 0 rfl) ?_
    refine lv_aload_n hx hb dX5_beginInside_34 rfl (lv_at hl 2 rfl) ?_
    refine va_getN (D := D) (ci := 4) (v := .int (V52 74 gf)) (fs := (xfFrame V52 gf)) (C := RX4) (T := TX4) (N := 19) hx hb hg inX4 hown hK hP (336 + gf) (xgFrame hgf) rfl 7 (by decide) (hnw.use 1196 n1196 rfl) (fun _ h9 => h9) rfl dX5_beginInside_35 ?_
    refine g_top (v := (V 74 gf)) (up2_o hV52 (by decide)) ?_
    have pq54 : (V52 71 gf).toInt = ((V 71 gf)).toInt := congrArg Int32.toInt (up2_o hV52 (by decide))
    have pq55 : (V52 43 (5 * b + 2)).toInt = ((V 43 (5 * b + 2))).toInt := congrArg Int32.toInt (up2_o hV52 (by decide))
    have pq56 : (V52 3 13).toInt = ((V 3 13)).toInt := congrArg Int32.toInt (up2_o hV52 (by decide))
    have pq57 : (V52 70 gf).toInt = ((V 70 gf)).toInt := congrArg Int32.toInt (up2_o hV52 (by decide))
    have pq58 : (V52 41 b).toInt = ((V 41 b)).toInt := congrArg Int32.toInt (up2_o hV52 (by decide))
    have me59 : ME V V52 gf := (ME.up ME.rf hV52 (Or.inl ⟨by decide, by decide, Nat.le_refl _⟩))
    have pq60 : (V52 67 gf).toInt = ((V 67 gf)).toInt := congrArg Int32.toInt (up2_o hV52 (by decide))
    have pq61 : (V52 68 gf).toInt = 1 := (congrArg Int32.toInt (up2_s hV52)).trans (by decide)
    have pq62 : (V52 75 gf).toInt = ((V 75 gf)).toInt := congrArg Int32.toInt (up2_o hV52 (by decide))
    have pq63 : (V52 76 gf).toInt = ((V 76 gf)).toInt := congrArg Int32.toInt (up2_o hV52 (by decide))
    have pq64 : (V52 80 gf).toInt = ((V 80 gf)).toInt := congrArg Int32.toInt (up2_o hV52 (by decide))
    have pq65 : (V52 84 gf).toInt = ((V 84 gf)).toInt := congrArg Int32.toInt (up2_o hV52 (by decide))
    have pq66 : (V52 5 6).toInt = ((V 5 6)).toInt := congrArg Int32.toInt (up2_o hV52 (by decide))
    have pq67 : (V52 5 8).toInt = ((V 5 8)).toInt := congrArg Int32.toInt (up2_o hV52 (by decide))
    have pq68 : (V52 5 9).toInt = ((V 5 9)).toInt := congrArg Int32.toInt (up2_o hV52 (by decide))
    have pq69 : (V52 42 b).toInt = ((V 42 b)).toInt := congrArg Int32.toInt (up2_o hV52 (by decide))
    have mo70 : MO V52 Z b gf True True True := MO.ch mo me59 (up2_o hV52 (by decide)) (up2_o hV52 (by decide)) (fun _ => Or.inl (by omega)) (fun x h => FK.k3 (by first | omega | ((try (have i_t19 := Imp.go t19 (by omega))); omega)) (by first | omega | ((try (have i_t19 := Imp.go t19 (by omega))); omega)) (by first | omega | ((try (have i_t19 := Imp.go t19 (by omega))); omega)) (by first | omega | ((try (have i_t19 := Imp.go t19 (by omega))); omega)))
    have mt71 : MT V52 Z b := MO.mt mo70 (by (first | exact om_c09d41618ed8 hgf | omega)) (by (first | exact om_82fa09255765 gd pq66 | omega))
    refine W.know (fun k73 k74 => ?_)
    obtain ⟨Hk72, hHk72⟩ : ∃ z, z = H := ⟨_, rfl⟩
    have k73 : Hk72.size ≤ s.heap.size + (zcc Z - zcc Z) := by rw [hHk72]; exact k73
    have k74 : tot Hk72 ≤ tot s.heap + (zss Z - zss Z) := by rw [hHk72]; exact k74
    refine gZ_ref (gA_runV (As := [.ref (Z.fa gf), .int z16, .int (V 74 gf)]) (rest := []) (ci := 5) (q0 := 5) hx hb hml hown hg hP hD hK hS hA hnw hgk (x_workWrap l D ks H.size ad kk V52 L Z z16 (V 74 gf) (b) (gf) hMV52 (by first | exact om_9980c9514d38 rgz16.1 rgz16.2 f51 | first | omega | ((try (have i_t19 := Imp.go t19 (by omega))); omega)) (show b < 2 from by first | exact om_f940a4667dd6 hb2 | first | omega | ((try (have i_t19 := Imp.go t19 (by omega))); omega)) (show gf < Z.nf from by first | exact om_8c5722e49bb1 hgf | first | omega | ((try (have i_t19 := Imp.go t19 (by omega))); omega)) mt71 (show 0 ≤ (V52 71 gf).toInt ∧ (V52 71 gf).toInt < (V52 43 (5 * b + 2)).toInt from by first | omega | ((try (have i_t19 := Imp.go t19 (by omega))); omega)) (show 0 ≤ (V52 70 gf).toInt ∧ (V52 70 gf).toInt < (V52 3 13).toInt from by first | omega | ((try (have i_t19 := Imp.go t19 (by omega))); omega)) (show z16.toInt < (V52 41 b).toInt from by first | exact om_f33e638bd498 pq58 ((Imp.go t19 (om_e3b1d6ac9ce8 rgz16.1 f51))) | first | omega | ((try (have i_t19 := Imp.go t19 (by omega))); omega))) w1403 w1405 w62 w171 w1406 rfl xgMachine hdV_yX5_workWrap ⟨Nat.le_of_ble_eq_true rfl, Nat.le_of_ble_eq_true rfl⟩ rfl hl.1 rfl (Nat.le_of_ble_eq_true rfl) dX5_beginInside_38 ⟨z1 zoZ.1, z1 zoZ.2.1⟩) hD hS hA (fun u76 H locs w77 hP hD hK hS y78 y79 => ?_)
    obtain ⟨V80, L81, Z82, f83⟩ := u76
    obtain ⟨hMV80, ajV80, axL81, zlZ82, ilf83, t84, t85, t86, t87⟩ := w77
    have axL81 : L = L81 := Eq.symm axL81
    subst axL81
    have hP : va_P D vwCl (xw ad kk V80 L Z82) H := hP
    have hD : va_D A (xw ad kk V80 L Z82) := hD
    have hK : va_K D vwCl (xty kk Z82) s := hK
    have hMV80 : rgd bX V80 := hMV80
    have ajV80 : agr [(4, 5), (5, 6), (5, 9)] [33, 34, 35, 67, 68, 69, 70, 71, 72, 73, 74, 75, 76, 77, 78, 79, 80, 81, 82, 83, 84, 85] V52 V80 := ajV80
    have agV80 : agr [(4, 5), (5, 6), (5, 9), (5, 10)] [33, 34, 35, 67, 68, 69, 70, 71, 72, 73, 74, 75, 76, 77, 78, 79, 80, 81, 82, 83, 84, 85] V V80 := agV52.tr ajV80 (by decide) (by decide)
    have zlZ82 : ZL Z Z82 := zlZ82
    have zoZ82 : ZL Z Z82 := ZL.tr zoZ zlZ82
    have ziZ82 := zlZ82.1
    have zjZ82 := zlZ82.2.1
    have zkZ82 := zlZ82.2.2.1
    have zmZ82 := zoZ82.1
    have znZ82 := zoZ82.2.1
    have zpZ_Z82 := zoZ.1
    have zqZ_Z82 := zoZ.2.1
    have y78 : H.size ≤ Hk72.size + (zcc Z - zcc Z82) := by rw [hHk72]; exact y78
    have y79 : tot H ≤ tot Hk72 + (zss Z - zss Z82) := by rw [hHk72]; exact y79
    refine W.tight (k := zcc Z - zcc Z82) (n := zss Z - zss Z82) (by first | exact tg9 y78 k73 zlZ82.1 zoZ.1 | omega) (by first | exact tg9 y79 k74 zlZ82.2.1 zoZ.2.1 | omega) ?_
    have hl : lv_has ls 3 [(2, .int z16), (0, .ref (ad 5)), (1, .ref (Z82.fa gf))] := by rw [zlZ82.2.2.2.2 gf hgf]; exact hl
    have ilf83 : f83 < Z82.nf := ilf83
    have t84 : MJ V80 Z82 b := t84
    have t85 : (f83 : Int) + 1 = (V80 5 6).toInt := t85
    have t86 : (V80 67 f83).toInt = 4 ∧ (V80 68 f83).toInt = 0 := t86
    have t87 : (V80 5 9).toInt = 0 := t87
    have r88 : 0 ≤ ((V80 5 6)).toInt ∧ ((V80 5 6)).toInt ≤ 400 := hMV80 5 6
    have r89 : 0 ≤ ((V80 5 9)).toInt ∧ ((V80 5 9)).toInt ≤ 3 := hMV80 5 9
    refine lv_iload_n hx hb dX5_beginInside_41 rfl (lv_at hl 0 rfl) ?_
    refine lv_iconst (v := 1) hx hb dX5_beginInside_42 (by decide) ?_
    refine lv_iadd hx hb dX5_beginInside_43 ?_
    refine lv_topi (fun z90 ez90 => ?_)
    have hz90 : z90.toInt = z16.toInt + 1 := i_add ez90 rfl (by decide) (by (first | exact om_0567c665e199 rgz16.1 rgz16.2 f51 | omega))
    refine va_putN (D := D) (ci := 4) (v := .int z90) (ty := tyX4 8) (fs := (xfFrame V80 f83)) (C := RX4) (T := TX4) (N := 19) hx hb hg inX4 tyX4 tyX4_ok nmX4 hown hK hP hD hS (336 + f83) (xgFrame ilf83) rfl 8 (by decide) (hnw.use 1197 n1197 rfl) (fun _ h9 => h9) rfl (tyX4_ok 8 (by decide)) rfl rfl (Nat.le_of_ble_eq_true rfl) dX5_beginInside_44 (fun H locs hP hD hS => ?_)
    obtain ⟨V91, hV91⟩ : ∃ z, z = up2 V80 75 f83 z90 := ⟨_, rfl⟩
    have ew92 : (xw ad kk V80 L Z82).set (336 + f83) ((Z82.fa f83), .inr (4, (xfFrame V80 f83).set 8 (.int z90))) = xw ad kk V91 L Z82 := by rw [hV91]; exact xpFrame_position ilf83
    have hP : va_P D vwCl (xw ad kk V91 L Z82) H := by rw [← ew92]; exact hP
    have hD : va_D A (xw ad kk V91 L Z82) := by rw [← ew92]; exact hD
    have hMV91 : rgd bX V91 := hMV80.put hV91 (show 0 ≤ z90.toInt ∧ z90.toInt ≤ 12 from by first | exact om_82fd843719f0 rgz16.1 rgz16.2 f51 hz90 | first | omega | ((try (have i_t19 := Imp.go t19 (by omega))); omega))
    have agV91 : agr [(4, 5), (5, 6), (5, 9), (5, 10)] [33, 34, 35, 67, 68, 69, 70, 71, 72, 73, 74, 75, 76, 77, 78, 79, 80, 81, 82, 83, 84, 85] V V91 := agV80.up hV91 rfl
    have rp93 : MJ V91 Z82 b := MJ.pos t84 t85 (by omega) t86.1 t86.2 hV91
    refine W.know (fun kr1 kr2 => ?_)
    refine W.widen (k := zcc Z) (n := zss Z) (Nat.sub_le _ _) (Nat.sub_le _ _) ?_
    exact W.vret hx hb hr (fun t ht hW => ⟨⟨(V91, L, Z82), rfl, ⟨hMV91, agV91, rfl, zoZ82, rp93⟩, ⟨by rw [ht]; exact hP, va_K.moved hW.alike hK, hD⟩, by rw [ht]; exact kr1, by rw [ht]; exact kr2⟩, hS.F ht⟩) hS.2.2 dX5_beginInside_47
abbrev r_x_nextBefore (Z : XZ) : Room := { frames := 5, cells := zcc Z, slots := zss Z, locals := 115 }
abbrev q_x_nextBefore (D : va_G) (ks : KS) (ad : Nat → Nat) (kk : Nat → ClassId) (V : Vf) (L : Lf) (Z : XZ) (b : Nat) (gf : Nat) (A : Nat → Prop) : Array Value → State → Outcome → State → Prop := qZv D (fun (u : Vf × Lf × XZ) => rgd bX u.1 ∧ agr [(4, 5), (5, 6), (5, 9), (5, 11), (5, 12)] [33, 34, 35, 67, 68, 69, 70, 71, 72, 73, 74, 75, 76, 77, 78, 79, 80, 81, 82, 83, 84, 85] V u.1 ∧ u.2.1 = L ∧ ZL Z u.2.2 ∧ (MJ u.1 u.2.2 b)) (fun u => xw ad kk u.1 u.2.1 u.2.2) (fun u => xty kk u.2.2) (fun u => zcc Z - zcc u.2.2) (fun u => zss Z - zss u.2.2) A
set_option maxHeartbeats 4000000 in
set_option maxRecDepth 100000 in
theorem x_nextBefore (l : Launch) (D : va_G) (ks : KS) (sz : Nat) (ad : Nat → Nat) (kk : Nat → ClassId) (V : Vf) (L : Lf) (Z : XZ) (b : Nat) (gf : Nat) (hMV : rgd bX V) (hb2 : b < 2) (hgf : gf < Z.nf) (mo : MO V Z b gf True (QN V b) (QN V b)) (gd : (gf : Int) + 1 = (V 5 6).toInt) (gk : (V 67 gf).toInt = 3) (hph : (V 68 gf).toInt = 4)  : Met l yX5_nextBefore (Cond.code yX5_nextBefore cX5_nextBefore 4 none :: GW) (r_x_nextBefore Z) (va_Pc [.ref (ad 5), .ref (Z.fa gf)] (gp D ks (xw ad kk V L Z) (xty kk Z) sz)) (q_x_nextBefore D ks ad kk V L Z  b gf (va_A (xw ad kk V L Z) sz)) (zcc Z) (zss Z) (va_A (xw ad kk V L Z) sz) := by
  refine g_met (q_x_nextBefore D ks ad kk V L Z  b gf) (by decide) (Nat.le_of_ble_eq_true rfl) ?_
  intro p e s m below meth c A ls H locs hx hb hr hml hown hg hlocks hin hnw hgk hP hK hD hS hA hl
  have hown : s.vm.findClass RX5 = some m.cls := hown
  have hl : lv_has ls 4 [(0, .ref (ad 5)), (1, .ref (Z.fa gf))] := hl
  have hP : va_P D vwCl (xw ad kk V L Z) H := hP
  have hD : va_D A (xw ad kk V L Z) := hD
  have hK : va_K D vwCl (xty kk Z) s := hK
  have agV : agr [(4, 5), (5, 6), (5, 9), (5, 11), (5, 12)] [33, 34, 35, 67, 68, 69, 70, 71, 72, 73, 74, 75, 76, 77, 78, 79, 80, 81, 82, 83, 84, 85] V V := agr.rf
  have zoZ : ZL Z Z := ZL.rf
  refine W.know (fun ka kb => ?_)
  refine W.tight (k := zcc Z - zcc Z) (n := zss Z - zss Z) (by omega) (by omega) ?_
  have r1 : 0 ≤ ((V 5 6)).toInt ∧ ((V 5 6)).toInt ≤ 400 := hMV 5 6
  have kdp := i_clamp (x := V 5 6) rfl (by (first | exact om_c66f1b494bd9 gd | omega))
  have hdn : (gf : Int) + 1 ≤ (Z.nf : Int) := by (first | exact om_29efded833ec hgf | omega)
  have mup := MO.up mo
  have msz := mup.1
  have mbk := mup.2.2.2.1
  obtain ⟨xk, fk⟩ := MO.fk mo
  have r2 : (-1) ≤ ((V 71 gf)).toInt ∧ ((V 71 gf)).toInt ≤ 23 := hMV 71 gf
  have r3 : 0 ≤ ((V 75 gf)).toInt ∧ ((V 75 gf)).toInt ≤ 12 := hMV 75 gf
  have r4 : 0 ≤ ((V 80 gf)).toInt ∧ ((V 80 gf)).toInt ≤ 300 := hMV 80 gf
  have r5 : 0 ≤ ((V 84 gf)).toInt ∧ ((V 84 gf)).toInt ≤ 2147483647 := hMV 84 gf
  have r6 : 0 ≤ ((V 5 8)).toInt ∧ ((V 5 8)).toInt ≤ 300 := hMV 5 8
  have r7 : 0 ≤ ((V 5 9)).toInt ∧ ((V 5 9)).toInt ≤ 3 := hMV 5 9
  have r8 : 0 ≤ ((V 3 13)).toInt ∧ ((V 3 13)).toInt ≤ 300 := hMV 3 13
  have r9 : 0 ≤ ((V 43 (5 * b + 2))).toInt ∧ ((V 43 (5 * b + 2))).toInt ≤ ((xcap (5 * b + 2) : Nat) : Int) := hMV 43 (5 * b + 2)
  have r10 : xcap (5 * b + 2) = 24 := xcap_2
  have r11 : 0 ≤ ((V 41 b)).toInt ∧ ((V 41 b)).toInt ≤ 12 := hMV 41 b
  have r12 : 0 ≤ ((V 42 b)).toInt ∧ ((V 42 b)).toInt ≤ 8200 := hMV 42 b
  have fc := fk.1 (by omega)
  have fo := fk.2.1 (by omega) (by omega)
  have fp := fk.2.2.2.2.2.2.2.2.1 (by omega)
  refine lv_aload_n hx hb dX5_nextBefore_0 rfl (lv_at hl 0 rfl) ?_
  refine va_get (D := D) (ci := 5) (v := .ref (ad (38 + Int32.toNatClampNeg (V 5 5)))) (fs := (xfMachine ad V L Z)) (C := RX5) (T := TX5) (N := 15) hx hb hg inX5 hown hK hP 5 xgMachine rfl 5 (by decide) (hg _ w672) (fun _ h9 => h9) rfl dX5_nextBefore_1 ?_
  have r13 : 0 ≤ ((V 5 5)).toInt ∧ ((V 5 5)).toInt ≤ 1 := hMV 5 5
  refine g_topv (v := .ref (ad (38 + b))) (rfP (by omega)) ?_
  refine lv_aload_n hx hb dX5_nextBefore_4 rfl (lv_at hl 1 rfl) ?_
  refine va_getN (D := D) (ci := 4) (v := .int (V 75 gf)) (fs := (xfFrame V gf)) (C := RX4) (T := TX4) (N := 19) hx hb hg inX4 hown hK hP (336 + gf) (xgFrame hgf) rfl 8 (by decide) (hnw.use 1197 n1197 rfl) (fun _ h9 => h9) rfl dX5_nextBefore_5 ?_
  refine lv_iconst (v := 0) hx hb dX5_nextBefore_8 (by decide) ?_
  refine lv_aload_n hx hb dX5_nextBefore_9 rfl (lv_at hl 1 rfl) ?_
  refine va_getN (D := D) (ci := 4) (v := .int (V 71 gf)) (fs := (xfFrame V gf)) (C := RX4) (T := TX4) (N := 19) hx hb hg inX4 hown hK hP (336 + gf) (xgFrame hgf) rfl 4 (by decide) (hnw.use 1193 n1193 rfl) (fun _ h9 => h9) rfl dX5_nextBefore_10 ?_
  refine lv_aload_n hx hb dX5_nextBefore_13 rfl (lv_at hl 1 rfl) ?_
  refine va_getN (D := D) (ci := 4) (v := .int (V 73 gf)) (fs := (xfFrame V gf)) (C := RX4) (T := TX4) (N := 19) hx hb hg inX4 hown hK hP (336 + gf) (xgFrame hgf) rfl 6 (by decide) (hnw.use 1195 n1195 rfl) (fun _ h9 => h9) rfl dX5_nextBefore_14 ?_
  have r14 : 0 ≤ ((V 73 gf)).toInt ∧ ((V 73 gf)).toInt ≤ 19 := hMV 73 gf
  have r15 : Int32.toInt 0 = 0 := by decide
  refine gA_int (gA_runV (As := [.int (V 75 gf), .int 0, .int (V 71 gf), .int (V 73 gf)]) (rest := []) (ci := 0) (q0 := (38 + b)) hx hb hml hown hg hP hD hK hS hA hnw hgk (x_wrapFrom2 l D ks H.size ad kk V L Z (V 75 gf) 0 (V 71 gf) (V 73 gf) (b) hMV (by (first | exact om_8dd06492493b r3.1 r3.2 | omega)) (by omega) (show b < 2 from by (first | exact om_f940a4667dd6 hb2 | omega))) w1419 w1420 w1421 w167 w1422 rfl (xgBook hb2) hdV_yX0_wrapFrom ⟨Nat.le_of_ble_eq_true rfl, Nat.le_of_ble_eq_true rfl⟩ rfl hl.1 rfl (Nat.le_of_ble_eq_true rfl) dX5_nextBefore_17 ⟨z0, z0⟩) hP hD hK hS hA (fun z16 u17 H locs w18 hP hD hK hS => ?_)
  obtain ⟨rgz16, t19⟩ := w18
  have rgz16 : (-1) ≤ z16.toInt ∧ z16.toInt ≤ 11 := rgz16
  have t19 : Imp (0 ≤ z16.toInt) (z16.toInt < (V 41 b).toInt) := t19
  refine lv_istore_n (lv' := [(2, .int z16), (0, .ref (ad 5)), (1, .ref (Z.fa gf))]) hx hb dX5_nextBefore_20 rfl hl (by decide) rfl (fun ls hl => ?_)
  refine lv_iload_n hx hb dX5_nextBefore_21 rfl (lv_at hl 0 rfl) ?_
  refine lv_iconst (v := (-1)) hx hb dX5_nextBefore_22 (by decide) ?_
  refine lv_icmp_eq (tgt := 45) hx hb dX5_nextBefore_23 (by decide) (fun c20 => ?_) (fun c20 => ?_)
  · skip
    have f21 : z16.toInt = (-1) := b_eq rfl (by decide) c20
    refine lv_aload_n hx hb dX5_nextBefore_45 rfl (lv_at hl 1 rfl) ?_
    refine va_get (D := D) (ci := 5) (v := .ref (ad (38 + Int32.toNatClampNeg (V 5 5)))) (fs := (xfMachine ad V L Z)) (C := RX5) (T := TX5) (N := 15) hx hb hg inX5 hown hK hP 5 xgMachine rfl 5 (by decide) (hg _ w672) (fun _ h9 => h9) rfl dX5_nextBefore_46 ?_
    refine g_topv (v := .ref (ad (38 + b))) (rfP (by first | omega | ((try (have i_t19 := Imp.go t19 (by omega))); omega))) ?_
    refine va_getN (D := D) (ci := 0) (v := .ref (ad (64 + b))) (fs := (xfBook ad V b)) (C := RX0) (T := TX0) (N := 13) hx hb hg inX0 hown hK hP (38 + b) (xgBook hb2) rfl 7 (by decide) (hnw.use 618 n618 rfl) (fun _ h9 => h9) rfl dX5_nextBefore_49 ?_
    refine lv_aload_n hx hb dX5_nextBefore_52 rfl (lv_at hl 2 rfl) ?_
    refine va_getN (D := D) (ci := 4) (v := .int (V 71 gf)) (fs := (xfFrame V gf)) (C := RX4) (T := TX4) (N := 19) hx hb hg inX4 hown hK hP (336 + gf) (xgFrame hgf) rfl 4 (by decide) (hnw.use 1193 n1193 rfl) (fun _ h9 => h9) rfl dX5_nextBefore_53 ?_
    have il22 : b < 2 := by first | exact om_f940a4667dd6 hb2 | first | omega | ((try (have i_t19 := Imp.go t19 (by omega))); omega)
    refine va_aldq (D := D) (i := (V 71 gf)) hx hb hK hP (64 + b) (57 + b) (xgcomps il22) (xtcomps il22) (i_in (a := ((V 71 gf)).toInt) rfl (by first | omega | ((try (have i_t19 := Imp.go t19 (by omega))); omega))) dX5_nextBefore_56 ?_
    have kc23 := i_clamp (x := (V 71 gf)) rfl (by first | omega | ((try (have i_t19 := Imp.go t19 (by omega))); omega))
    refine g_topv (v := .ref (ad (72 + (24 * b + (Int32.toNatClampNeg (V 71 gf)))))) (congrArg va_rf (if_pos (by first | omega | ((try (have i_t19 := Imp.go t19 (by omega))); omega)))) ?_
    have il24 : (24 * b + (Int32.toNatClampNeg (V 71 gf))) < 48 := by first | exact om_31a61188bc78 hb2 r2.2 kc23 | first | omega | ((try (have i_t19 := Imp.go t19 (by omega))); omega)
    refine va_getN (D := D) (ci := 3) (v := .ref (ad (264 + (24 * b + (Int32.toNatClampNeg (V 71 gf)))))) (fs := (xfComp ad V (24 * b + (Int32.toNatClampNeg (V 71 gf))))) (C := RX3) (T := TX3) (N := 13) hx hb hg inX3 hown hK hP (72 + (24 * b + (Int32.toNatClampNeg (V 71 gf)))) (xgComp il24) rfl 3 (by decide) (hnw.use 509 n509 rfl) (fun _ h9 => h9) rfl dX5_nextBefore_57 ?_
    refine lv_aload_n hx hb dX5_nextBefore_60 rfl (lv_at hl 2 rfl) ?_
    refine va_getN (D := D) (ci := 4) (v := .int (V 73 gf)) (fs := (xfFrame V gf)) (C := RX4) (T := TX4) (N := 19) hx hb hg inX4 hown hK hP (336 + gf) (xgFrame hgf) rfl 6 (by decide) (hnw.use 1195 n1195 rfl) (fun _ h9 => h9) rfl dX5_nextBefore_61 ?_
    have il25 : (24 * b + (Int32.toNatClampNeg (V 71 gf))) < 48 := by first | exact om_31a61188bc78 hb2 r2.2 kc23 | first | omega | ((try (have i_t19 := Imp.go t19 (by omega))); omega)
    refine va_iald (D := D) (i := (V 73 gf)) hx hb hK hP (264 + (24 * b + (Int32.toNatClampNeg (V 71 gf)))) (257 + (24 * b + (Int32.toNatClampNeg (V 71 gf)))) (xgmethodStarts il25) (xtmethodStarts il25) (i_in (a := ((V 73 gf)).toInt) rfl (by first | omega | ((try (have i_t19 := Imp.go t19 (by omega))); omega))) dX5_nextBefore_64 ?_
    have kc26 := i_clamp (x := (V 73 gf)) rfl (by first | exact om_eafa9039069c r14.1 | first | omega | ((try (have i_t19 := Imp.go t19 (by omega))); omega))
    refine g_top (v := V 61 (20 * (24 * b + (Int32.toNatClampNeg (V 71 gf))) + (Int32.toNatClampNeg (V 73 gf)))) (if_pos (by first | omega | ((try (have i_t19 := Imp.go t19 (by omega))); omega))) ?_
    have r27 : (-1) ≤ ((V 61 (20 * (24 * b + (Int32.toNatClampNeg (V 71 gf))) + (Int32.toNatClampNeg (V 73 gf))))).toInt ∧ ((V 61 (20 * (24 * b + (Int32.toNatClampNeg (V 71 gf))) + (Int32.toNatClampNeg (V 73 gf))))).toInt ≤ 8200 := hMV 61 (20 * (24 * b + (Int32.toNatClampNeg (V 71 gf))) + (Int32.toNatClampNeg (V 73 gf)))
    refine lv_istore_n (lv' := [(3, .int (V 61 (20 * (24 * b + (Int32.toNatClampNeg (V 71 gf))) + (Int32.toNatClampNeg (V 73 gf))))), (2, .int z16), (0, .ref (ad 5)), (1, .ref (Z.fa gf))]) hx hb dX5_nextBefore_65 rfl hl (by decide) rfl (fun ls hl => ?_)
    refine lv_iload_n hx hb dX5_nextBefore_66 rfl (lv_at hl 0 rfl) ?_
    refine lv_iconst (v := (-1)) hx hb dX5_nextBefore_67 (by decide) ?_
    refine lv_icmp_ne (tgt := 83) hx hb dX5_nextBefore_68 (by decide) (fun c28 => ?_) (fun c28 => ?_)
    · skip
      have f29 : ((V 61 (20 * (24 * b + (Int32.toNatClampNeg (V 71 gf))) + (Int32.toNatClampNeg (V 73 gf))))).toInt ≠ (-1) := b_neq rfl (by decide) c28
      have kcc := i_clamp (x := V 71 gf) rfl (by (first | exact om_50dfdfbb9dc6 kc23 | omega))
      have kcq := i_clamp (x := V 73 gf) rfl (by (first | exact om_eafa9039069c r14.1 | omega))
      have htx := (mup.2.1.1 (Int32.toNatClampNeg (V 71 gf)) (by omega)).2.2 (Int32.toNatClampNeg (V 73 gf)) (by omega)
      have hgs := htx.resolve_left (by omega)
      refine lv_aload_n hx hb dX5_nextBefore_83 rfl (lv_at hl 3 rfl) ?_
      refine lv_iconst (v := 5) hx hb dX5_nextBefore_84 (by decide) ?_
      refine va_putN (D := D) (ci := 4) (v := .int 5) (ty := tyX4 1) (fs := (xfFrame V gf)) (C := RX4) (T := TX4) (N := 19) hx hb hg inX4 tyX4 tyX4_ok nmX4 hown hK hP hD hS (336 + gf) (xgFrame hgf) rfl 1 (by decide) (hnw.use 1190 n1190 rfl) (fun _ h9 => h9) rfl (tyX4_ok 1 (by decide)) rfl rfl (Nat.le_of_ble_eq_true rfl) dX5_nextBefore_85 (fun H locs hP hD hS => ?_)
      obtain ⟨V30, hV30⟩ : ∃ z, z = up2 V 68 gf 5 := ⟨_, rfl⟩
      have ew31 : (xw ad kk V L Z).set (336 + gf) ((Z.fa gf), .inr (4, (xfFrame V gf).set 1 (.int 5))) = xw ad kk V30 L Z := by rw [hV30]; exact xpFrame_phase hgf
      have hP : va_P D vwCl (xw ad kk V30 L Z) H := by rw [← ew31]; exact hP
      have hD : va_D A (xw ad kk V30 L Z) := by rw [← ew31]; exact hD
      have hMV30 : rgd bX V30 := hMV.put hV30 (i_full _)
      have agV30 : agr [(4, 5), (5, 6), (5, 9), (5, 11), (5, 12)] [33, 34, 35, 67, 68, 69, 70, 71, 72, 73, 74, 75, 76, 77, 78, 79, 80, 81, 82, 83, 84, 85] V V30 := agV.up hV30 rfl
      refine lv_aload_n hx hb dX5_nextBefore_88 rfl (lv_at hl 3 rfl) ?_
      refine lv_aload_n hx hb dX5_nextBefore_89 rfl (lv_at hl 2 rfl) ?_
      refine va_get (D := D) (ci := 5) (v := .ref (ad (38 + Int32.toNatClampNeg (V30 5 5)))) (fs := (xfMachine ad V30 L Z)) (C := RX5) (T := TX5) (N := 15) hx hb hg inX5 hown hK hP 5 xgMachine rfl 5 (by decide) (hg _ w672) (fun _ h9 => h9) rfl dX5_nextBefore_90 ?_
      have pq32 : (V30 5 5).toInt = ((V 5 5)).toInt := congrArg Int32.toInt (up2_o hV30 (by decide))
      refine g_topv (v := .ref (ad (38 + b))) (rfP (by first | omega | ((try (have i_t19 := Imp.go t19 (by omega))); omega))) ?_
      refine va_getN (D := D) (ci := 0) (v := .int (V30 41 b)) (fs := (xfBook ad V30 b)) (C := RX0) (T := TX0) (N := 13) hx hb hg inX0 hown hK hP (38 + b) (xgBook hb2) rfl 11 (by decide) (hnw.use 628 n628 rfl) (fun _ h9 => h9) rfl dX5_nextBefore_93 ?_
      refine g_top (v := (V 41 b)) (up2_o hV30 (by decide)) ?_
      refine va_putN (D := D) (ci := 4) (v := .int (V 41 b)) (ty := tyX4 8) (fs := (xfFrame V30 gf)) (C := RX4) (T := TX4) (N := 19) hx hb hg inX4 tyX4 tyX4_ok nmX4 hown hK hP hD hS (336 + gf) (xgFrame hgf) rfl 8 (by decide) (hnw.use 1197 n1197 rfl) (fun _ h9 => h9) rfl (tyX4_ok 8 (by decide)) rfl rfl (Nat.le_of_ble_eq_true rfl) dX5_nextBefore_96 (fun H locs hP hD hS => ?_)
      obtain ⟨V33, hV33⟩ : ∃ z, z = up2 V30 75 gf (V 41 b) := ⟨_, rfl⟩
      have ew34 : (xw ad kk V30 L Z).set (336 + gf) ((Z.fa gf), .inr (4, (xfFrame V30 gf).set 8 (.int (V 41 b)))) = xw ad kk V33 L Z := by rw [hV33]; exact xpFrame_position hgf
      have hP : va_P D vwCl (xw ad kk V33 L Z) H := by rw [← ew34]; exact hP
      have hD : va_D A (xw ad kk V33 L Z) := by rw [← ew34]; exact hD
      have hMV33 : rgd bX V33 := hMV30.put hV33 (show 0 ≤ ((V 41 b)).toInt ∧ ((V 41 b)).toInt ≤ 12 from by first | exact om_8dd06492493b r11.1 r11.2 | first | omega | ((try (have i_t19 := Imp.go t19 (by omega))); omega))
      have agV33 : agr [(4, 5), (5, 6), (5, 9), (5, 11), (5, 12)] [33, 34, 35, 67, 68, 69, 70, 71, 72, 73, 74, 75, 76, 77, 78, 79, 80, 81, 82, 83, 84, 85] V V33 := agV30.up hV33 rfl
      refine lv_aload_n hx hb dX5_nextBefore_99 rfl (lv_at hl 2 rfl) ?_
      refine va_get (D := D) (ci := 5) (v := .ref (ad 4)) (fs := (xfMachine ad V33 L Z)) (C := RX5) (T := TX5) (N := 15) hx hb hg inX5 hown hK hP 5 xgMachine rfl 1 (by decide) (hg _ w668) (fun _ h9 => h9) rfl dX5_nextBefore_100 ?_
      refine lv_iconst (v := 4) hx hb dX5_nextBefore_103 (by decide) ?_
      refine lv_aload_n hx hb dX5_nextBefore_104 rfl (lv_at hl 3 rfl) ?_
      refine va_getN (D := D) (ci := 4) (v := .int (V33 70 gf)) (fs := (xfFrame V33 gf)) (C := RX4) (T := TX4) (N := 19) hx hb hg inX4 hown hK hP (336 + gf) (xgFrame hgf) rfl 3 (by decide) (hnw.use 1192 n1192 rfl) (fun _ h9 => h9) rfl dX5_nextBefore_105 ?_
      refine g_top (v := (V 70 gf)) ((up2_o hV33 (by decide)).trans (up2_o hV30 (by decide))) ?_
      refine lv_aload_n hx hb dX5_nextBefore_108 rfl (lv_at hl 3 rfl) ?_
      refine va_getN (D := D) (ci := 4) (v := .int (V33 74 gf)) (fs := (xfFrame V33 gf)) (C := RX4) (T := TX4) (N := 19) hx hb hg inX4 hown hK hP (336 + gf) (xgFrame hgf) rfl 7 (by decide) (hnw.use 1196 n1196 rfl) (fun _ h9 => h9) rfl dX5_nextBefore_109 ?_
      refine g_top (v := (V 74 gf)) ((up2_o hV33 (by decide)).trans (up2_o hV30 (by decide))) ?_
      have r35 : Int32.toInt 4 = 4 := by decide
      refine gA_void (gA_runV (As := [.int 4, .int (V 70 gf), .int (V 74 gf)]) (rest := []) (ci := 7) (q0 := 4) hx hb hml hown hg hP hD hK hS hA hnw hgk (x_NnoteThing l D ks H.size ad kk V33 L Z 4 (V 70 gf) (V 74 gf) hMV33 ) w1407 w1408 w1409 w166 w1410 rfl xgNotes hdV_yX7_noteThing ⟨Nat.le_of_ble_eq_true rfl, Nat.le_of_ble_eq_true rfl⟩ rfl hl.1 rfl (Nat.le_of_ble_eq_true rfl) dX5_nextBefore_112 ⟨z0, z0⟩) hP hD hK hS hA (fun u37 H locs w38 hP hD hK hS => ?_)
      obtain ⟨V39, L40⟩ := u37
      obtain ⟨hMV39, ajV39, axL40⟩ := w38
      have axL40 : L = L40 := Eq.symm axL40
      subst axL40
      have hP : va_P D vwCl (xw ad kk V39 L Z) H := hP
      have hD : va_D A (xw ad kk V39 L Z) := hD
      have hMV39 : rgd bX V39 := hMV39
      have ajV39 : agr [(4, 5)] [33, 34, 35] V33 V39 := ajV39
      have agV39 : agr [(4, 5), (5, 6), (5, 9), (5, 11), (5, 12)] [33, 34, 35, 67, 68, 69, 70, 71, 72, 73, 74, 75, 76, 77, 78, 79, 80, 81, 82, 83, 84, 85] V V39 := agV33.tr ajV39 (by decide) (by decide)
      refine lv_aload_n hx hb dX5_nextBefore_115 rfl (lv_at hl 2 rfl) ?_
      refine lv_aload_n hx hb dX5_nextBefore_116 rfl (lv_at hl 3 rfl) ?_
      refine lv_iload_n hx hb dX5_nextBefore_117 rfl (lv_at hl 0 rfl) ?_
      refine lv_aload_n hx hb dX5_nextBefore_118 rfl (lv_at hl 3 rfl) ?_
      refine va_getN (D := D) (ci := 4) (v := .int (V39 74 gf)) (fs := (xfFrame V39 gf)) (C := RX4) (T := TX4) (N := 19) hx hb hg inX4 hown hK hP (336 + gf) (xgFrame hgf) rfl 7 (by decide) (hnw.use 1196 n1196 rfl) (fun _ h9 => h9) rfl dX5_nextBefore_119 ?_
      refine g_top (v := (V 74 gf)) ((ajV39 74 gf rfl).trans ((up2_o hV33 (by decide)).trans (up2_o hV30 (by decide)))) ?_
      have pq41 : (V39 71 gf).toInt = ((V 71 gf)).toInt := congrArg Int32.toInt ((ajV39 71 gf rfl).trans ((up2_o hV33 (by decide)).trans (up2_o hV30 (by decide))))
      have pq42 : (V39 43 (5 * b + 2)).toInt = ((V 43 (5 * b + 2))).toInt := congrArg Int32.toInt ((ajV39 43 (5 * b + 2) rfl).trans ((up2_o hV33 (by decide)).trans (up2_o hV30 (by decide))))
      have pq43 : (V39 3 13).toInt = ((V 3 13)).toInt := congrArg Int32.toInt ((ajV39 3 13 rfl).trans ((up2_o hV33 (by decide)).trans (up2_o hV30 (by decide))))
      have pq44 : (V39 70 gf).toInt = ((V 70 gf)).toInt := congrArg Int32.toInt ((ajV39 70 gf rfl).trans ((up2_o hV33 (by decide)).trans (up2_o hV30 (by decide))))
      have me45 : ME V V39 gf := (ME.tr (ME.up (ME.up ME.rf hV30 (Or.inl ⟨by decide, by decide, Nat.le_refl _⟩)) hV33 (Or.inl ⟨by decide, by decide, Nat.le_refl _⟩)) (ME.ag ajV39 (by decide)))
      have pq46 : (V39 67 gf).toInt = ((V 67 gf)).toInt := congrArg Int32.toInt ((ajV39 67 gf rfl).trans ((up2_o hV33 (by decide)).trans (up2_o hV30 (by decide))))
      have pq47 : (V39 68 gf).toInt = 5 := (congrArg Int32.toInt ((ajV39 68 gf rfl).trans ((up2_o hV33 (by decide)).trans (up2_s hV30)))).trans (by decide)
      have pq48 : (V39 75 gf).toInt = ((V 41 b)).toInt := congrArg Int32.toInt ((ajV39 75 gf rfl).trans (up2_s hV33))
      have pq49 : (V39 76 gf).toInt = ((V 76 gf)).toInt := congrArg Int32.toInt ((ajV39 76 gf rfl).trans ((up2_o hV33 (by decide)).trans (up2_o hV30 (by decide))))
      have pq50 : (V39 80 gf).toInt = ((V 80 gf)).toInt := congrArg Int32.toInt ((ajV39 80 gf rfl).trans ((up2_o hV33 (by decide)).trans (up2_o hV30 (by decide))))
      have pq51 : (V39 84 gf).toInt = ((V 84 gf)).toInt := congrArg Int32.toInt ((ajV39 84 gf rfl).trans ((up2_o hV33 (by decide)).trans (up2_o hV30 (by decide))))
      have pq52 : (V39 5 6).toInt = ((V 5 6)).toInt := congrArg Int32.toInt ((ajV39 5 6 rfl).trans ((up2_o hV33 (by decide)).trans (up2_o hV30 (by decide))))
      have pq53 : (V39 5 8).toInt = ((V 5 8)).toInt := congrArg Int32.toInt ((ajV39 5 8 rfl).trans ((up2_o hV33 (by decide)).trans (up2_o hV30 (by decide))))
      have pq54 : (V39 5 9).toInt = ((V 5 9)).toInt := congrArg Int32.toInt ((ajV39 5 9 rfl).trans ((up2_o hV33 (by decide)).trans (up2_o hV30 (by decide))))
      have pq55 : (V39 42 b).toInt = ((V 42 b)).toInt := congrArg Int32.toInt ((ajV39 42 b rfl).trans ((up2_o hV33 (by decide)).trans (up2_o hV30 (by decide))))
      have pq56 : (V39 41 b).toInt = ((V 41 b)).toInt := congrArg Int32.toInt ((ajV39 41 b rfl).trans ((up2_o hV33 (by decide)).trans (up2_o hV30 (by decide))))
      have mo57 : MO V39 Z b gf True True True := MO.ch mo me45 ((ajV39 67 gf rfl).trans ((up2_o hV33 (by decide)).trans (up2_o hV30 (by decide)))) ((ajV39 80 gf rfl).trans ((up2_o hV33 (by decide)).trans (up2_o hV30 (by decide)))) (fun _ => Or.inl (by omega)) (fun x h => FK.k3 (by first | omega | ((try (have i_t19 := Imp.go t19 (by omega))); omega)) (by first | omega | ((try (have i_t19 := Imp.go t19 (by omega))); omega)) (by first | omega | ((try (have i_t19 := Imp.go t19 (by omega))); omega)) (by first | omega | ((try (have i_t19 := Imp.go t19 (by omega))); omega)))
      have mt58 : MT V39 Z b := MO.mt mo57 (by (first | exact om_c09d41618ed8 hgf | omega)) (by (first | exact om_82fa09255765 gd pq52 | omega))
      have me59 : ME V V39 0 := (ME.tr (ME.up (ME.up ME.rf hV30 (Or.inl ⟨by decide, by decide, by first | omega | ((try (have i_t19 := Imp.go t19 (by omega))); omega)⟩)) hV33 (Or.inl ⟨by decide, by decide, by first | omega | ((try (have i_t19 := Imp.go t19 (by omega))); omega)⟩)) (ME.ag ajV39 (by decide)))
      have ha60 : (V39 42 b).toInt ≤ ((V 61 (20 * (24 * b + (Int32.toNatClampNeg (V 71 gf))) + (Int32.toNatClampNeg (V 73 gf))))).toInt ∨ (bdp V39 b (((V 61 (20 * (24 * b + (Int32.toNatClampNeg (V 71 gf))) + (Int32.toNatClampNeg (V 73 gf))))).toInt).toNat).1 = true := by rw [me59.1.bd, me59.1 42 b (by decide) (by decide)]; exact gs.fk hgs (hMV 42 b).2
      refine W.know (fun k62 k63 => ?_)
      obtain ⟨Hk61, hHk61⟩ : ∃ z, z = H := ⟨_, rfl⟩
      have k62 : Hk61.size ≤ s.heap.size + (zcc Z - zcc Z) := by rw [hHk61]; exact k62
      have k63 : tot Hk61 ≤ tot s.heap + (zss Z - zss Z) := by rw [hHk61]; exact k63
      refine gZ_ref (gA_runV (As := [.ref (Z.fa gf), .int (V 61 (20 * (24 * b + (Int32.toNatClampNeg (V 71 gf))) + (Int32.toNatClampNeg (V 73 gf)))), .int (V 74 gf)]) (rest := []) (ci := 5) (q0 := 5) hx hb hml hown hg hP hD hK hS hA hnw hgk (x_pushWork l D ks H.size ad kk V39 L Z (V 61 (20 * (24 * b + (Int32.toNatClampNeg (V 71 gf))) + (Int32.toNatClampNeg (V 73 gf)))) (V 74 gf) (b) (gf) hMV39 (by first | exact om_986471d62c0d r27.1 r27.2 f29 | first | omega | ((try (have i_t19 := Imp.go t19 (by omega))); omega)) (show b < 2 from by first | exact om_f940a4667dd6 hb2 | first | omega | ((try (have i_t19 := Imp.go t19 (by omega))); omega)) (show gf < Z.nf from by first | exact om_8c5722e49bb1 hgf | first | omega | ((try (have i_t19 := Imp.go t19 (by omega))); omega)) mt58 (show 0 ≤ (V39 71 gf).toInt ∧ (V39 71 gf).toInt < (V39 43 (5 * b + 2)).toInt from by first | omega | ((try (have i_t19 := Imp.go t19 (by omega))); omega)) (show 0 ≤ (V39 70 gf).toInt ∧ (V39 70 gf).toInt < (V39 3 13).toInt from by first | omega | ((try (have i_t19 := Imp.go t19 (by omega))); omega)) ha60) w1376 w1378 w57 w171 w1379 rfl xgMachine hdV_yX5_pushWork ⟨Nat.le_of_ble_eq_true rfl, Nat.le_of_ble_eq_true rfl⟩ rfl hl.1 rfl (Nat.le_of_ble_eq_true rfl) dX5_nextBefore_122 ⟨z1 zoZ.1, z1 zoZ.2.1⟩) hD hS hA (fun u65 H locs w66 hP hD hK hS y67 y68 => ?_)
      obtain ⟨V69, L70, Z71, f72⟩ := u65
      obtain ⟨hMV69, ajV69, axL70, zlZ71, ilf72, t73, t74, t75, t76⟩ := w66
      have axL70 : L = L70 := Eq.symm axL70
      subst axL70
      have hP : va_P D vwCl (xw ad kk V69 L Z71) H := hP
      have hD : va_D A (xw ad kk V69 L Z71) := hD
      have hK : va_K D vwCl (xty kk Z71) s := hK
      have hMV69 : rgd bX V69 := hMV69
      have ajV69 : agr [(5, 6), (5, 9)] [67, 68, 69, 70, 71, 72, 73, 74, 75, 76, 77, 78, 79, 80, 81, 82, 83, 84, 85] V39 V69 := ajV69
      have agV69 : agr [(4, 5), (5, 6), (5, 9), (5, 11), (5, 12)] [33, 34, 35, 67, 68, 69, 70, 71, 72, 73, 74, 75, 76, 77, 78, 79, 80, 81, 82, 83, 84, 85] V V69 := agV39.tr ajV69 (by decide) (by decide)
      have zlZ71 : ZL Z Z71 := zlZ71
      have zoZ71 : ZL Z Z71 := ZL.tr zoZ zlZ71
      have ziZ71 := zlZ71.1
      have zjZ71 := zlZ71.2.1
      have zkZ71 := zlZ71.2.2.1
      have zmZ71 := zoZ71.1
      have znZ71 := zoZ71.2.1
      have zpZ_Z71 := zoZ.1
      have zqZ_Z71 := zoZ.2.1
      have y67 : H.size ≤ Hk61.size + (zcc Z - zcc Z71) := by rw [hHk61]; exact y67
      have y68 : tot H ≤ tot Hk61 + (zss Z - zss Z71) := by rw [hHk61]; exact y68
      refine W.tight (k := zcc Z - zcc Z71) (n := zss Z - zss Z71) (by first | exact tg9 y67 k62 zlZ71.1 zoZ.1 | omega) (by first | exact tg9 y68 k63 zlZ71.2.1 zoZ.2.1 | omega) ?_
      have hl : lv_has ls 4 [(3, .int (V 61 (20 * (24 * b + (Int32.toNatClampNeg (V 71 gf))) + (Int32.toNatClampNeg (V 73 gf))))), (2, .int z16), (0, .ref (ad 5)), (1, .ref (Z71.fa gf))] := by rw [zlZ71.2.2.2.2 gf hgf]; exact hl
      have ilf72 : f72 < Z71.nf := ilf72
      have t73 : MJ V69 Z71 b := t73
      have t74 : (f72 : Int) + 1 = (V69 5 6).toInt := t74
      have t75 : (V69 67 f72).toInt = 4 ∧ (V69 68 f72).toInt = 0 := t75
      have t76 : (V69 5 9).toInt = 0 := t76
      have r77 : 0 ≤ ((V69 5 6)).toInt ∧ ((V69 5 6)).toInt ≤ 400 := hMV69 5 6
      have r78 : 0 ≤ ((V69 5 9)).toInt ∧ ((V69 5 9)).toInt ≤ 3 := hMV69 5 9
      refine lv_pop hx hb dX5_nextBefore_125 rfl ?_
      refine W.know (fun kr1 kr2 => ?_)
      refine W.widen (k := zcc Z) (n := zss Z) (Nat.sub_le _ _) (Nat.sub_le _ _) ?_
      exact W.vret hx hb hr (fun t ht hW => ⟨⟨(V69, L, Z71), rfl, ⟨hMV69, agV69, rfl, zoZ71, t73⟩, ⟨by rw [ht]; exact hP, va_K.moved hW.alike hK, hD⟩, by rw [ht]; exact kr1, by rw [ht]; exact kr2⟩, hS.F ht⟩) hS.2.2 dX5_nextBefore_126
    · skip
      have f79 : ((V 61 (20 * (24 * b + (Int32.toNatClampNeg (V 71 gf))) + (Int32.toNatClampNeg (V 73 gf))))).toInt = (-1) := b_eq rfl (by decide) c28
      refine lv_aload_n hx hb dX5_nextBefore_71 rfl (lv_at hl 2 rfl) ?_
      refine lv_iconst (v := 0) hx hb dX5_nextBefore_72 (by decide) ?_
      refine lv_bipush (v := 11) hx hb dX5_nextBefore_73 (by decide) ?_
      have r80 : Int32.toInt 11 = 11 := by decide
      refine gA_void (gA_runV (As := [.int 0, .int 11]) (rest := []) (ci := 5) (q0 := 5) hx hb hml hown hg hP hD hK hS hA hnw hgk (x_failWith l D ks H.size ad kk V L Z 0 11 hMV ) w1261 w1263 w46 w171 w1264 rfl xgMachine hdV_yX5_failWith ⟨Nat.le_of_ble_eq_true rfl, Nat.le_of_ble_eq_true rfl⟩ rfl hl.1 rfl (Nat.le_of_ble_eq_true rfl) dX5_nextBefore_75 ⟨z0, z0⟩) hP hD hK hS hA (fun u82 H locs w83 hP hD hK hS => ?_)
      obtain ⟨V85, L86⟩ := u82
      obtain ⟨hMV85, ajV85, axL86, t84⟩ := w83
      have axL86 : L = L86 := Eq.symm axL86
      subst axL86
      have hP : va_P D vwCl (xw ad kk V85 L Z) H := hP
      have hD : va_D A (xw ad kk V85 L Z) := hD
      have hMV85 : rgd bX V85 := hMV85
      have ajV85 : agr [(5, 9), (5, 11), (5, 12)] [] V V85 := ajV85
      have agV85 : agr [(4, 5), (5, 6), (5, 9), (5, 11), (5, 12)] [33, 34, 35, 67, 68, 69, 70, 71, 72, 73, 74, 75, 76, 77, 78, 79, 80, 81, 82, 83, 84, 85] V V85 := agV.tr ajV85 (by decide) (by decide)
      have t84 : (V85 5 9).toInt = 2 := t84
      have r87 : 0 ≤ ((V85 5 9)).toInt ∧ ((V85 5 9)).toInt ≤ 3 := hMV85 5 9
      refine lv_aload_n hx hb dX5_nextBefore_78 rfl (lv_at hl 2 rfl) ?_
      have pq88 : (V85 5 6).toInt = ((V 5 6)).toInt := congrArg Int32.toInt (ajV85 5 6 rfl)
      refine gA_void (gA_runV (As := []) (rest := []) (ci := 5) (q0 := 5) hx hb hml hown hg hP hD hK hS hA hnw hgk (x_leave l D ks H.size ad kk V85 L Z  hMV85 (show 1 ≤ (V85 5 6).toInt from by first | exact om_0cac171fa40c gd pq88 | first | omega | ((try (have i_t19 := Imp.go t19 (by omega))); omega))) w1308 w1310 w50 w171 w1311 rfl xgMachine hdV_yX5_leave ⟨Nat.le_of_ble_eq_true rfl, Nat.le_of_ble_eq_true rfl⟩ rfl hl.1 rfl (Nat.le_of_ble_eq_true rfl) dX5_nextBefore_79 ⟨z0, z0⟩) hP hD hK hS hA (fun u90 H locs w91 hP hD hK hS => ?_)
      obtain ⟨V93, L94⟩ := u90
      obtain ⟨hMV93, ajV93, axL94, t92⟩ := w91
      have axL94 : L = L94 := Eq.symm axL94
      subst axL94
      have hP : va_P D vwCl (xw ad kk V93 L Z) H := hP
      have hD : va_D A (xw ad kk V93 L Z) := hD
      have hMV93 : rgd bX V93 := hMV93
      have ajV93 : agr [(5, 6)] [] V85 V93 := ajV93
      have agV93 : agr [(4, 5), (5, 6), (5, 9), (5, 11), (5, 12)] [33, 34, 35, 67, 68, 69, 70, 71, 72, 73, 74, 75, 76, 77, 78, 79, 80, 81, 82, 83, 84, 85] V V93 := agV85.tr ajV93 (by decide) (by decide)
      have t92 : (V93 5 6).toInt = (V85 5 6).toInt - 1 := t92
      have r95 : 0 ≤ ((V93 5 6)).toInt ∧ ((V93 5 6)).toInt ≤ 400 := hMV93 5 6
      have me96 : ME V V93 gf := (ME.tr (ME.tr ME.rf (ME.ag ajV85 (by decide))) (ME.ag ajV93 (by decide)))
      have pq97 : (V93 67 gf).toInt = ((V 67 gf)).toInt := congrArg Int32.toInt ((ajV93 67 gf rfl).trans (ajV85 67 gf rfl))
      have pq98 : (V93 68 gf).toInt = ((V 68 gf)).toInt := congrArg Int32.toInt ((ajV93 68 gf rfl).trans (ajV85 68 gf rfl))
      have pq99 : (V93 70 gf).toInt = ((V 70 gf)).toInt := congrArg Int32.toInt ((ajV93 70 gf rfl).trans (ajV85 70 gf rfl))
      have pq100 : (V93 71 gf).toInt = ((V 71 gf)).toInt := congrArg Int32.toInt ((ajV93 71 gf rfl).trans (ajV85 71 gf rfl))
      have pq101 : (V93 75 gf).toInt = ((V 75 gf)).toInt := congrArg Int32.toInt ((ajV93 75 gf rfl).trans (ajV85 75 gf rfl))
      have pq102 : (V93 76 gf).toInt = ((V 76 gf)).toInt := congrArg Int32.toInt ((ajV93 76 gf rfl).trans (ajV85 76 gf rfl))
      have pq103 : (V93 80 gf).toInt = ((V 80 gf)).toInt := congrArg Int32.toInt ((ajV93 80 gf rfl).trans (ajV85 80 gf rfl))
      have pq104 : (V93 84 gf).toInt = ((V 84 gf)).toInt := congrArg Int32.toInt ((ajV93 84 gf rfl).trans (ajV85 84 gf rfl))
      have pq105 : (V93 5 8).toInt = ((V 5 8)).toInt := congrArg Int32.toInt ((ajV93 5 8 rfl).trans (ajV85 5 8 rfl))
      have pq106 : (V93 5 9).toInt = ((V85 5 9)).toInt := congrArg Int32.toInt (ajV93 5 9 rfl)
      have pq107 : (V93 3 13).toInt = ((V 3 13)).toInt := congrArg Int32.toInt ((ajV93 3 13 rfl).trans (ajV85 3 13 rfl))
      have pq108 : (V93 43 (5 * b + 2)).toInt = ((V 43 (5 * b + 2))).toInt := congrArg Int32.toInt ((ajV93 43 (5 * b + 2) rfl).trans (ajV85 43 (5 * b + 2) rfl))
      have pq109 : (V93 42 b).toInt = ((V 42 b)).toInt := congrArg Int32.toInt ((ajV93 42 b rfl).trans (ajV85 42 b rfl))
      have pq110 : (V93 41 b).toInt = ((V 41 b)).toInt := congrArg Int32.toInt ((ajV93 41 b rfl).trans (ajV85 41 b rfl))
      have rp111 : MJ V93 Z b := MP.lv (MO.mp mo) me96 (by (first | exact om_5ac7632c8ef3 gd pq88 t92 | omega)) (fun _ => Or.inl (by omega))
      refine W.know (fun kr1 kr2 => ?_)
      refine W.widen (k := zcc Z) (n := zss Z) (Nat.sub_le _ _) (Nat.sub_le _ _) ?_
      exact W.vret hx hb hr (fun t ht hW => ⟨⟨(V93, L, Z), rfl, ⟨hMV93, agV93, rfl, zoZ, rp111⟩, ⟨by rw [ht]; exact hP, va_K.moved hW.alike hK, hD⟩, by rw [ht]; exact kr1, by rw [ht]; exact kr2⟩, hS.F ht⟩) hS.2.2 dX5_nextBefore_82
  · skip
    have f112 : z16.toInt ≠ (-1) := b_neq rfl (by decide) c20
    refine lv_aload_n hx hb dX5_nextBefore_26 rfl (lv_at hl 2 rfl) ?_
    refine lv_iload_n hx hb dX5_nextBefore_27 rfl (lv_at hl 0 rfl) ?_
    refine lv_iconst (v := 1) hx hb dX5_nextBefore_28 (by decide) ?_
    refine lv_iadd hx hb dX5_nextBefore_29 ?_
    refine lv_topi (fun z113 ez113 => ?_)
    have hz113 : z113.toInt = z16.toInt + 1 := i_add ez113 rfl (by decide) (by (first | exact om_0567c665e199 rgz16.1 rgz16.2 f112 | omega))
    refine va_putN (D := D) (ci := 4) (v := .int z113) (ty := tyX4 8) (fs := (xfFrame V gf)) (C := RX4) (T := TX4) (N := 19) hx hb hg inX4 tyX4 tyX4_ok nmX4 hown hK hP hD hS (336 + gf) (xgFrame hgf) rfl 8 (by decide) (hnw.use 1197 n1197 rfl) (fun _ h9 => h9) rfl (tyX4_ok 8 (by decide)) rfl rfl (Nat.le_of_ble_eq_true rfl) dX5_nextBefore_30 (fun H locs hP hD hS => ?_)
    obtain ⟨V114, hV114⟩ : ∃ z, z = up2 V 75 gf z113 := ⟨_, rfl⟩
    have ew115 : (xw ad kk V L Z).set (336 + gf) ((Z.fa gf), .inr (4, (xfFrame V gf).set 8 (.int z113))) = xw ad kk V114 L Z := by rw [hV114]; exact xpFrame_position hgf
    have hP : va_P D vwCl (xw ad kk V114 L Z) H := by rw [← ew115]; exact hP
    have hD : va_D A (xw ad kk V114 L Z) := by rw [← ew115]; exact hD
    have hMV114 : rgd bX V114 := hMV.put hV114 (show 0 ≤ z113.toInt ∧ z113.toInt ≤ 12 from by first | exact om_82fd843719f0 rgz16.1 rgz16.2 f112 hz113 | first | omega | ((try (have i_t19 := Imp.go t19 (by omega))); omega))
    have agV114 : agr [(4, 5), (5, 6), (5, 9), (5, 11), (5, 12)] [33, 34, 35, 67, 68, 69, 70, 71, 72, 73, 74, 75, 76, 77, 78, 79, 80, 81, 82, 83, 84, 85] V V114 := agV.up hV114 rfl
    refine lv_aload_n hx hb dX5_nextBefore_33 rfl (lv_at hl 1 rfl) ?_
    refine lv_aload_n hx hb dX5_nextBefore_34 rfl (lv_at hl 2 rfl) ?_
    refine lv_iload_n hx hb dX5_nextBefore_35 rfl (lv_at hl 0 rfl) ?_
    refine lv_aload_n hx hb dX5_nextBefore_36 rfl (lv_at hl 2 rfl) ?_
    refine va_getN (D := D) (ci := 4) (v := .int (V114 74 gf)) (fs := (xfFrame V114 gf)) (C := RX4) (T := TX4) (N := 19) hx hb hg inX4 hown hK hP (336 + gf) (xgFrame hgf) rfl 7 (by decide) (hnw.use 1196 n1196 rfl) (fun _ h9 => h9) rfl dX5_nextBefore_37 ?_
    refine g_top (v := (V 74 gf)) (up2_o hV114 (by decide)) ?_
    have pq116 : (V114 71 gf).toInt = ((V 71 gf)).toInt := congrArg Int32.toInt (up2_o hV114 (by decide))
    have pq117 : (V114 43 (5 * b + 2)).toInt = ((V 43 (5 * b + 2))).toInt := congrArg Int32.toInt (up2_o hV114 (by decide))
    have pq118 : (V114 3 13).toInt = ((V 3 13)).toInt := congrArg Int32.toInt (up2_o hV114 (by decide))
    have pq119 : (V114 70 gf).toInt = ((V 70 gf)).toInt := congrArg Int32.toInt (up2_o hV114 (by decide))
    have pq120 : (V114 41 b).toInt = ((V 41 b)).toInt := congrArg Int32.toInt (up2_o hV114 (by decide))
    have me121 : ME V V114 gf := (ME.up ME.rf hV114 (Or.inl ⟨by decide, by decide, Nat.le_refl _⟩))
    have pq122 : (V114 67 gf).toInt = ((V 67 gf)).toInt := congrArg Int32.toInt (up2_o hV114 (by decide))
    have pq123 : (V114 68 gf).toInt = ((V 68 gf)).toInt := congrArg Int32.toInt (up2_o hV114 (by decide))
    have pq124 : (V114 75 gf).toInt = z113.toInt := congrArg Int32.toInt (up2_s hV114)
    have pq125 : (V114 76 gf).toInt = ((V 76 gf)).toInt := congrArg Int32.toInt (up2_o hV114 (by decide))
    have pq126 : (V114 80 gf).toInt = ((V 80 gf)).toInt := congrArg Int32.toInt (up2_o hV114 (by decide))
    have pq127 : (V114 84 gf).toInt = ((V 84 gf)).toInt := congrArg Int32.toInt (up2_o hV114 (by decide))
    have pq128 : (V114 5 6).toInt = ((V 5 6)).toInt := congrArg Int32.toInt (up2_o hV114 (by decide))
    have pq129 : (V114 5 8).toInt = ((V 5 8)).toInt := congrArg Int32.toInt (up2_o hV114 (by decide))
    have pq130 : (V114 5 9).toInt = ((V 5 9)).toInt := congrArg Int32.toInt (up2_o hV114 (by decide))
    have pq131 : (V114 42 b).toInt = ((V 42 b)).toInt := congrArg Int32.toInt (up2_o hV114 (by decide))
    have mo132 : MO V114 Z b gf True True True := MO.ch mo me121 (up2_o hV114 (by decide)) (up2_o hV114 (by decide)) (fun _ => Or.inl (by omega)) (fun x h => FK.k3 (by first | omega | ((try (have i_t19 := Imp.go t19 (by omega))); omega)) (by first | omega | ((try (have i_t19 := Imp.go t19 (by omega))); omega)) (by first | omega | ((try (have i_t19 := Imp.go t19 (by omega))); omega)) (by first | omega | ((try (have i_t19 := Imp.go t19 (by omega))); omega)))
    have mt133 : MT V114 Z b := MO.mt mo132 (by (first | exact om_c09d41618ed8 hgf | omega)) (by (first | exact om_82fa09255765 gd pq128 | omega))
    refine W.know (fun k135 k136 => ?_)
    obtain ⟨Hk134, hHk134⟩ : ∃ z, z = H := ⟨_, rfl⟩
    have k135 : Hk134.size ≤ s.heap.size + (zcc Z - zcc Z) := by rw [hHk134]; exact k135
    have k136 : tot Hk134 ≤ tot s.heap + (zss Z - zss Z) := by rw [hHk134]; exact k136
    refine gZ_ref (gA_runV (As := [.ref (Z.fa gf), .int z16, .int (V 74 gf)]) (rest := []) (ci := 5) (q0 := 5) hx hb hml hown hg hP hD hK hS hA hnw hgk (x_workWrap l D ks H.size ad kk V114 L Z z16 (V 74 gf) (b) (gf) hMV114 (by first | exact om_9980c9514d38 rgz16.1 rgz16.2 f112 | first | omega | ((try (have i_t19 := Imp.go t19 (by omega))); omega)) (show b < 2 from by first | exact om_f940a4667dd6 hb2 | first | omega | ((try (have i_t19 := Imp.go t19 (by omega))); omega)) (show gf < Z.nf from by first | exact om_8c5722e49bb1 hgf | first | omega | ((try (have i_t19 := Imp.go t19 (by omega))); omega)) mt133 (show 0 ≤ (V114 71 gf).toInt ∧ (V114 71 gf).toInt < (V114 43 (5 * b + 2)).toInt from by first | omega | ((try (have i_t19 := Imp.go t19 (by omega))); omega)) (show 0 ≤ (V114 70 gf).toInt ∧ (V114 70 gf).toInt < (V114 3 13).toInt from by first | omega | ((try (have i_t19 := Imp.go t19 (by omega))); omega)) (show z16.toInt < (V114 41 b).toInt from by first | exact om_f33e638bd498 pq120 ((Imp.go t19 (om_e3b1d6ac9ce8 rgz16.1 f112))) | first | omega | ((try (have i_t19 := Imp.go t19 (by omega))); omega))) w1403 w1405 w62 w171 w1406 rfl xgMachine hdV_yX5_workWrap ⟨Nat.le_of_ble_eq_true rfl, Nat.le_of_ble_eq_true rfl⟩ rfl hl.1 rfl (Nat.le_of_ble_eq_true rfl) dX5_nextBefore_40 ⟨z1 zoZ.1, z1 zoZ.2.1⟩) hD hS hA (fun u138 H locs w139 hP hD hK hS y140 y141 => ?_)
    obtain ⟨V142, L143, Z144, f145⟩ := u138
    obtain ⟨hMV142, ajV142, axL143, zlZ144, ilf145, t146, t147, t148, t149⟩ := w139
    have axL143 : L = L143 := Eq.symm axL143
    subst axL143
    have hP : va_P D vwCl (xw ad kk V142 L Z144) H := hP
    have hD : va_D A (xw ad kk V142 L Z144) := hD
    have hK : va_K D vwCl (xty kk Z144) s := hK
    have hMV142 : rgd bX V142 := hMV142
    have ajV142 : agr [(4, 5), (5, 6), (5, 9)] [33, 34, 35, 67, 68, 69, 70, 71, 72, 73, 74, 75, 76, 77, 78, 79, 80, 81, 82, 83, 84, 85] V114 V142 := ajV142
    have agV142 : agr [(4, 5), (5, 6), (5, 9), (5, 11), (5, 12)] [33, 34, 35, 67, 68, 69, 70, 71, 72, 73, 74, 75, 76, 77, 78, 79, 80, 81, 82, 83, 84, 85] V V142 := agV114.tr ajV142 (by decide) (by decide)
    have zlZ144 : ZL Z Z144 := zlZ144
    have zoZ144 : ZL Z Z144 := ZL.tr zoZ zlZ144
    have ziZ144 := zlZ144.1
    have zjZ144 := zlZ144.2.1
    have zkZ144 := zlZ144.2.2.1
    have zmZ144 := zoZ144.1
    have znZ144 := zoZ144.2.1
    have zpZ_Z144 := zoZ.1
    have zqZ_Z144 := zoZ.2.1
    have y140 : H.size ≤ Hk134.size + (zcc Z - zcc Z144) := by rw [hHk134]; exact y140
    have y141 : tot H ≤ tot Hk134 + (zss Z - zss Z144) := by rw [hHk134]; exact y141
    refine W.tight (k := zcc Z - zcc Z144) (n := zss Z - zss Z144) (by first | exact tg9 y140 k135 zlZ144.1 zoZ.1 | omega) (by first | exact tg9 y141 k136 zlZ144.2.1 zoZ.2.1 | omega) ?_
    have hl : lv_has ls 4 [(2, .int z16), (0, .ref (ad 5)), (1, .ref (Z144.fa gf))] := by rw [zlZ144.2.2.2.2 gf hgf]; exact hl
    have ilf145 : f145 < Z144.nf := ilf145
    have t146 : MJ V142 Z144 b := t146
    have t147 : (f145 : Int) + 1 = (V142 5 6).toInt := t147
    have t148 : (V142 67 f145).toInt = 4 ∧ (V142 68 f145).toInt = 0 := t148
    have t149 : (V142 5 9).toInt = 0 := t149
    have r150 : 0 ≤ ((V142 5 6)).toInt ∧ ((V142 5 6)).toInt ≤ 400 := hMV142 5 6
    have r151 : 0 ≤ ((V142 5 9)).toInt ∧ ((V142 5 9)).toInt ≤ 3 := hMV142 5 9
    refine lv_pop hx hb dX5_nextBefore_43 rfl ?_
    refine W.know (fun kr1 kr2 => ?_)
    refine W.widen (k := zcc Z) (n := zss Z) (Nat.sub_le _ _) (Nat.sub_le _ _) ?_
    exact W.vret hx hb hr (fun t ht hW => ⟨⟨(V142, L, Z144), rfl, ⟨hMV142, agV142, rfl, zoZ144, t146⟩, ⟨by rw [ht]; exact hP, va_K.moved hW.alike hK, hD⟩, by rw [ht]; exact kr1, by rw [ht]; exact kr2⟩, hS.F ht⟩) hS.2.2 dX5_nextBefore_44
abbrev r_x_nextAfter (Z : XZ) : Room := { frames := 5, cells := zcc Z, slots := zss Z, locals := 115 }
abbrev q_x_nextAfter (D : va_G) (ks : KS) (ad : Nat → Nat) (kk : Nat → ClassId) (V : Vf) (L : Lf) (Z : XZ) (b : Nat) (gf : Nat) (A : Nat → Prop) : Array Value → State → Outcome → State → Prop := qZv D (fun (u : Vf × Lf × XZ) => rgd bX u.1 ∧ agr [(4, 5), (5, 6), (5, 9), (5, 10)] [33, 34, 35, 67, 68, 69, 70, 71, 72, 73, 74, 75, 76, 77, 78, 79, 80, 81, 82, 83, 84, 85] V u.1 ∧ u.2.1 = L ∧ ZL Z u.2.2 ∧ (MJ u.1 u.2.2 b)) (fun u => xw ad kk u.1 u.2.1 u.2.2) (fun u => xty kk u.2.2) (fun u => zcc Z - zcc u.2.2) (fun u => zss Z - zss u.2.2) A
set_option maxHeartbeats 4000000 in
set_option maxRecDepth 100000 in
theorem x_nextAfter (l : Launch) (D : va_G) (ks : KS) (sz : Nat) (ad : Nat → Nat) (kk : Nat → ClassId) (V : Vf) (L : Lf) (Z : XZ) (b : Nat) (gf : Nat) (hMV : rgd bX V) (hb2 : b < 2) (hgf : gf < Z.nf) (mo : MO V Z b gf True (QN V b) (QN V b)) (gd : (gf : Int) + 1 = (V 5 6).toInt) (gk : (V 67 gf).toInt = 3) (hps : (V 75 gf).toInt ≤ (V 41 b).toInt) (hph : (V 68 gf).toInt ≠ 0 ∧ (V 68 gf).toInt ≠ 1)  : Met l yX5_nextAfter (Cond.code yX5_nextAfter cX5_nextAfter 3 none :: GW) (r_x_nextAfter Z) (va_Pc [.ref (ad 5), .ref (Z.fa gf)] (gp D ks (xw ad kk V L Z) (xty kk Z) sz)) (q_x_nextAfter D ks ad kk V L Z  b gf (va_A (xw ad kk V L Z) sz)) (zcc Z) (zss Z) (va_A (xw ad kk V L Z) sz) := by
  refine g_met (q_x_nextAfter D ks ad kk V L Z  b gf) (by decide) (Nat.le_of_ble_eq_true rfl) ?_
  intro p e s m below meth c A ls H locs hx hb hr hml hown hg hlocks hin hnw hgk hP hK hD hS hA hl
  have hown : s.vm.findClass RX5 = some m.cls := hown
  have hl : lv_has ls 3 [(0, .ref (ad 5)), (1, .ref (Z.fa gf))] := hl
  have hP : va_P D vwCl (xw ad kk V L Z) H := hP
  have hD : va_D A (xw ad kk V L Z) := hD
  have hK : va_K D vwCl (xty kk Z) s := hK
  have agV : agr [(4, 5), (5, 6), (5, 9), (5, 10)] [33, 34, 35, 67, 68, 69, 70, 71, 72, 73, 74, 75, 76, 77, 78, 79, 80, 81, 82, 83, 84, 85] V V := agr.rf
  have zoZ : ZL Z Z := ZL.rf
  refine W.know (fun ka kb => ?_)
  refine W.tight (k := zcc Z - zcc Z) (n := zss Z - zss Z) (by omega) (by omega) ?_
  have r1 : 0 ≤ ((V 5 6)).toInt ∧ ((V 5 6)).toInt ≤ 400 := hMV 5 6
  have r2 : 0 ≤ ((V 75 gf)).toInt ∧ ((V 75 gf)).toInt ≤ 12 := hMV 75 gf
  have r3 : 0 ≤ ((V 41 b)).toInt ∧ ((V 41 b)).toInt ≤ 12 := hMV 41 b
  have kdp := i_clamp (x := V 5 6) rfl (by (first | exact om_c66f1b494bd9 gd | omega))
  have hdn : (gf : Int) + 1 ≤ (Z.nf : Int) := by (first | exact om_29efded833ec hgf | omega)
  have mup := MO.up mo
  have msz := mup.1
  have mbk := mup.2.2.2.1
  obtain ⟨xk, fk⟩ := MO.fk mo
  have r4 : (-1) ≤ ((V 71 gf)).toInt ∧ ((V 71 gf)).toInt ≤ 23 := hMV 71 gf
  have r5 : 0 ≤ ((V 80 gf)).toInt ∧ ((V 80 gf)).toInt ≤ 300 := hMV 80 gf
  have r6 : 0 ≤ ((V 84 gf)).toInt ∧ ((V 84 gf)).toInt ≤ 2147483647 := hMV 84 gf
  have r7 : 0 ≤ ((V 5 8)).toInt ∧ ((V 5 8)).toInt ≤ 300 := hMV 5 8
  have r8 : 0 ≤ ((V 5 9)).toInt ∧ ((V 5 9)).toInt ≤ 3 := hMV 5 9
  have r9 : 0 ≤ ((V 3 13)).toInt ∧ ((V 3 13)).toInt ≤ 300 := hMV 3 13
  have r10 : 0 ≤ ((V 43 (5 * b + 2))).toInt ∧ ((V 43 (5 * b + 2))).toInt ≤ ((xcap (5 * b + 2) : Nat) : Int) := hMV 43 (5 * b + 2)
  have r11 : xcap (5 * b + 2) = 24 := xcap_2
  have r12 : 0 ≤ ((V 42 b)).toInt ∧ ((V 42 b)).toInt ≤ 8200 := hMV 42 b
  have fc := fk.1 (by omega)
  have fo := fk.2.1 (by omega) (by omega)
  have fp := fk.2.2.2.2.2.2.2.2.1 (by omega)
  refine lv_aload_n hx hb dX5_nextAfter_0 rfl (lv_at hl 0 rfl) ?_
  refine va_get (D := D) (ci := 5) (v := .ref (ad (38 + Int32.toNatClampNeg (V 5 5)))) (fs := (xfMachine ad V L Z)) (C := RX5) (T := TX5) (N := 15) hx hb hg inX5 hown hK hP 5 xgMachine rfl 5 (by decide) (hg _ w672) (fun _ h9 => h9) rfl dX5_nextAfter_1 ?_
  have r13 : 0 ≤ ((V 5 5)).toInt ∧ ((V 5 5)).toInt ≤ 1 := hMV 5 5
  refine g_topv (v := .ref (ad (38 + b))) (rfP (by omega)) ?_
  refine lv_aload_n hx hb dX5_nextAfter_4 rfl (lv_at hl 1 rfl) ?_
  refine va_getN (D := D) (ci := 4) (v := .int (V 75 gf)) (fs := (xfFrame V gf)) (C := RX4) (T := TX4) (N := 19) hx hb hg inX4 hown hK hP (336 + gf) (xgFrame hgf) rfl 8 (by decide) (hnw.use 1197 n1197 rfl) (fun _ h9 => h9) rfl dX5_nextAfter_5 ?_
  refine lv_iconst (v := 1) hx hb dX5_nextAfter_8 (by decide) ?_
  refine lv_isub hx hb dX5_nextAfter_9 ?_
  refine lv_topi (fun z14 ez14 => ?_)
  have hz14 : z14.toInt = ((V 75 gf)).toInt - 1 := i_sub ez14 rfl (by decide) (by (first | exact om_450cba72217c r2.1 r2.2 | omega))
  refine lv_iconst (v := 2) hx hb dX5_nextAfter_10 (by decide) ?_
  refine lv_aload_n hx hb dX5_nextAfter_11 rfl (lv_at hl 1 rfl) ?_
  refine va_getN (D := D) (ci := 4) (v := .int (V 71 gf)) (fs := (xfFrame V gf)) (C := RX4) (T := TX4) (N := 19) hx hb hg inX4 hown hK hP (336 + gf) (xgFrame hgf) rfl 4 (by decide) (hnw.use 1193 n1193 rfl) (fun _ h9 => h9) rfl dX5_nextAfter_12 ?_
  refine lv_aload_n hx hb dX5_nextAfter_15 rfl (lv_at hl 1 rfl) ?_
  refine va_getN (D := D) (ci := 4) (v := .int (V 73 gf)) (fs := (xfFrame V gf)) (C := RX4) (T := TX4) (N := 19) hx hb hg inX4 hown hK hP (336 + gf) (xgFrame hgf) rfl 6 (by decide) (hnw.use 1195 n1195 rfl) (fun _ h9 => h9) rfl dX5_nextAfter_16 ?_
  have r15 : 0 ≤ ((V 73 gf)).toInt ∧ ((V 73 gf)).toInt ≤ 19 := hMV 73 gf
  have r16 : Int32.toInt 2 = 2 := by decide
  refine gA_int (gA_runV (As := [.int z14, .int 2, .int (V 71 gf), .int (V 73 gf)]) (rest := []) (ci := 0) (q0 := (38 + b)) hx hb hml hown hg hP hD hK hS hA hnw hgk (x_wrapBackFrom2 l D ks H.size ad kk V L Z z14 2 (V 71 gf) (V 73 gf) (b) hMV (by (first | exact om_94ad3bbe076e r2.1 r2.2 hz14 | omega)) (by omega) (show b < 2 from by (first | exact om_f940a4667dd6 hb2 | omega)) (show z14.toInt < (V 41 b).toInt from by (first | exact om_9dc777c792ca hps hz14 | omega))) w1392 w1393 w1394 w167 w1395 rfl (xgBook hb2) hdV_yX0_wrapBackFrom ⟨Nat.le_of_ble_eq_true rfl, Nat.le_of_ble_eq_true rfl⟩ rfl hl.1 rfl (Nat.le_of_ble_eq_true rfl) dX5_nextAfter_19 ⟨z0, z0⟩) hP hD hK hS hA (fun z17 u18 H locs w19 hP hD hK hS => ?_)
  obtain ⟨rgz17, t20⟩ := w19
  have rgz17 : (-1) ≤ z17.toInt ∧ z17.toInt ≤ 11 := rgz17
  have t20 : Imp (0 ≤ z17.toInt) (z17.toInt < (V 41 b).toInt) := t20
  refine lv_istore_n (lv' := [(2, .int z17), (0, .ref (ad 5)), (1, .ref (Z.fa gf))]) hx hb dX5_nextAfter_22 rfl hl (by decide) rfl (fun ls hl => ?_)
  refine lv_iload_n hx hb dX5_nextAfter_23 rfl (lv_at hl 0 rfl) ?_
  refine lv_iconst (v := (-1)) hx hb dX5_nextAfter_24 (by decide) ?_
  refine lv_icmp_ne (tgt := 41) hx hb dX5_nextAfter_25 (by decide) (fun c21 => ?_) (fun c21 => ?_)
  · skip
    have f22 : z17.toInt ≠ (-1) := b_neq rfl (by decide) c21
    refine lv_aload_n hx hb dX5_nextAfter_41 rfl (lv_at hl 2 rfl) ?_
    refine lv_iload_n hx hb dX5_nextAfter_42 rfl (lv_at hl 0 rfl) ?_
    refine va_putN (D := D) (ci := 4) (v := .int z17) (ty := tyX4 8) (fs := (xfFrame V gf)) (C := RX4) (T := TX4) (N := 19) hx hb hg inX4 tyX4 tyX4_ok nmX4 hown hK hP hD hS (336 + gf) (xgFrame hgf) rfl 8 (by decide) (hnw.use 1197 n1197 rfl) (fun _ h9 => h9) rfl (tyX4_ok 8 (by decide)) rfl rfl (Nat.le_of_ble_eq_true rfl) dX5_nextAfter_43 (fun H locs hP hD hS => ?_)
    obtain ⟨V23, hV23⟩ : ∃ z, z = up2 V 75 gf z17 := ⟨_, rfl⟩
    have ew24 : (xw ad kk V L Z).set (336 + gf) ((Z.fa gf), .inr (4, (xfFrame V gf).set 8 (.int z17))) = xw ad kk V23 L Z := by rw [hV23]; exact xpFrame_position hgf
    have hP : va_P D vwCl (xw ad kk V23 L Z) H := by rw [← ew24]; exact hP
    have hD : va_D A (xw ad kk V23 L Z) := by rw [← ew24]; exact hD
    have hMV23 : rgd bX V23 := hMV.put hV23 (show 0 ≤ z17.toInt ∧ z17.toInt ≤ 12 from by first | exact om_4b4bb582fde3 rgz17.1 rgz17.2 f22 | first | omega | ((try (have i_t20 := Imp.go t20 (by omega))); omega))
    have agV23 : agr [(4, 5), (5, 6), (5, 9), (5, 10)] [33, 34, 35, 67, 68, 69, 70, 71, 72, 73, 74, 75, 76, 77, 78, 79, 80, 81, 82, 83, 84, 85] V V23 := agV.up hV23 rfl
    refine lv_aload_n hx hb dX5_nextAfter_46 rfl (lv_at hl 1 rfl) ?_
    refine lv_aload_n hx hb dX5_nextAfter_47 rfl (lv_at hl 2 rfl) ?_
    refine lv_iload_n hx hb dX5_nextAfter_48 rfl (lv_at hl 0 rfl) ?_
    refine lv_aload_n hx hb dX5_nextAfter_49 rfl (lv_at hl 2 rfl) ?_
    refine va_getN (D := D) (ci := 4) (v := .int (V23 74 gf)) (fs := (xfFrame V23 gf)) (C := RX4) (T := TX4) (N := 19) hx hb hg inX4 hown hK hP (336 + gf) (xgFrame hgf) rfl 7 (by decide) (hnw.use 1196 n1196 rfl) (fun _ h9 => h9) rfl dX5_nextAfter_50 ?_
    refine g_top (v := (V 74 gf)) (up2_o hV23 (by decide)) ?_
    have pq25 : (V23 71 gf).toInt = ((V 71 gf)).toInt := congrArg Int32.toInt (up2_o hV23 (by decide))
    have pq26 : (V23 43 (5 * b + 2)).toInt = ((V 43 (5 * b + 2))).toInt := congrArg Int32.toInt (up2_o hV23 (by decide))
    have pq27 : (V23 3 13).toInt = ((V 3 13)).toInt := congrArg Int32.toInt (up2_o hV23 (by decide))
    have pq28 : (V23 70 gf).toInt = ((V 70 gf)).toInt := congrArg Int32.toInt (up2_o hV23 (by decide))
    have pq29 : (V23 41 b).toInt = ((V 41 b)).toInt := congrArg Int32.toInt (up2_o hV23 (by decide))
    have me30 : ME V V23 gf := (ME.up ME.rf hV23 (Or.inl ⟨by decide, by decide, Nat.le_refl _⟩))
    have pq31 : (V23 67 gf).toInt = ((V 67 gf)).toInt := congrArg Int32.toInt (up2_o hV23 (by decide))
    have pq32 : (V23 68 gf).toInt = ((V 68 gf)).toInt := congrArg Int32.toInt (up2_o hV23 (by decide))
    have pq33 : (V23 75 gf).toInt = z17.toInt := congrArg Int32.toInt (up2_s hV23)
    have pq34 : (V23 76 gf).toInt = ((V 76 gf)).toInt := congrArg Int32.toInt (up2_o hV23 (by decide))
    have pq35 : (V23 80 gf).toInt = ((V 80 gf)).toInt := congrArg Int32.toInt (up2_o hV23 (by decide))
    have pq36 : (V23 84 gf).toInt = ((V 84 gf)).toInt := congrArg Int32.toInt (up2_o hV23 (by decide))
    have pq37 : (V23 5 6).toInt = ((V 5 6)).toInt := congrArg Int32.toInt (up2_o hV23 (by decide))
    have pq38 : (V23 5 8).toInt = ((V 5 8)).toInt := congrArg Int32.toInt (up2_o hV23 (by decide))
    have pq39 : (V23 5 9).toInt = ((V 5 9)).toInt := congrArg Int32.toInt (up2_o hV23 (by decide))
    have pq40 : (V23 42 b).toInt = ((V 42 b)).toInt := congrArg Int32.toInt (up2_o hV23 (by decide))
    have mo41 : MO V23 Z b gf True True True := MO.ch mo me30 (up2_o hV23 (by decide)) (up2_o hV23 (by decide)) (fun _ => Or.inl (by omega)) (fun x h => FK.k3 (by first | omega | ((try (have i_t20 := Imp.go t20 (by omega))); omega)) (by first | omega | ((try (have i_t20 := Imp.go t20 (by omega))); omega)) (by first | omega | ((try (have i_t20 := Imp.go t20 (by omega))); omega)) (by first | omega | ((try (have i_t20 := Imp.go t20 (by omega))); omega)))
    have mt42 : MT V23 Z b := MO.mt mo41 (by (first | exact om_c09d41618ed8 hgf | omega)) (by (first | exact om_82fa09255765 gd pq37 | omega))
    refine W.know (fun k44 k45 => ?_)
    obtain ⟨Hk43, hHk43⟩ : ∃ z, z = H := ⟨_, rfl⟩
    have k44 : Hk43.size ≤ s.heap.size + (zcc Z - zcc Z) := by rw [hHk43]; exact k44
    have k45 : tot Hk43 ≤ tot s.heap + (zss Z - zss Z) := by rw [hHk43]; exact k45
    refine gZ_ref (gA_runV (As := [.ref (Z.fa gf), .int z17, .int (V 74 gf)]) (rest := []) (ci := 5) (q0 := 5) hx hb hml hown hg hP hD hK hS hA hnw hgk (x_workWrap l D ks H.size ad kk V23 L Z z17 (V 74 gf) (b) (gf) hMV23 (by first | exact om_9980c9514d38 rgz17.1 rgz17.2 f22 | first | omega | ((try (have i_t20 := Imp.go t20 (by omega))); omega)) (show b < 2 from by first | exact om_f940a4667dd6 hb2 | first | omega | ((try (have i_t20 := Imp.go t20 (by omega))); omega)) (show gf < Z.nf from by first | exact om_8c5722e49bb1 hgf | first | omega | ((try (have i_t20 := Imp.go t20 (by omega))); omega)) mt42 (show 0 ≤ (V23 71 gf).toInt ∧ (V23 71 gf).toInt < (V23 43 (5 * b + 2)).toInt from by first | omega | ((try (have i_t20 := Imp.go t20 (by omega))); omega)) (show 0 ≤ (V23 70 gf).toInt ∧ (V23 70 gf).toInt < (V23 3 13).toInt from by first | omega | ((try (have i_t20 := Imp.go t20 (by omega))); omega)) (show z17.toInt < (V23 41 b).toInt from by first | exact om_f33e638bd498 pq29 ((Imp.go t20 (om_e3b1d6ac9ce8 rgz17.1 f22))) | first | omega | ((try (have i_t20 := Imp.go t20 (by omega))); omega))) w1403 w1405 w62 w171 w1406 rfl xgMachine hdV_yX5_workWrap ⟨Nat.le_of_ble_eq_true rfl, Nat.le_of_ble_eq_true rfl⟩ rfl hl.1 rfl (Nat.le_of_ble_eq_true rfl) dX5_nextAfter_53 ⟨z1 zoZ.1, z1 zoZ.2.1⟩) hD hS hA (fun u47 H locs w48 hP hD hK hS y49 y50 => ?_)
    obtain ⟨V51, L52, Z53, f54⟩ := u47
    obtain ⟨hMV51, ajV51, axL52, zlZ53, ilf54, t55, t56, t57, t58⟩ := w48
    have axL52 : L = L52 := Eq.symm axL52
    subst axL52
    have hP : va_P D vwCl (xw ad kk V51 L Z53) H := hP
    have hD : va_D A (xw ad kk V51 L Z53) := hD
    have hK : va_K D vwCl (xty kk Z53) s := hK
    have hMV51 : rgd bX V51 := hMV51
    have ajV51 : agr [(4, 5), (5, 6), (5, 9)] [33, 34, 35, 67, 68, 69, 70, 71, 72, 73, 74, 75, 76, 77, 78, 79, 80, 81, 82, 83, 84, 85] V23 V51 := ajV51
    have agV51 : agr [(4, 5), (5, 6), (5, 9), (5, 10)] [33, 34, 35, 67, 68, 69, 70, 71, 72, 73, 74, 75, 76, 77, 78, 79, 80, 81, 82, 83, 84, 85] V V51 := agV23.tr ajV51 (by decide) (by decide)
    have zlZ53 : ZL Z Z53 := zlZ53
    have zoZ53 : ZL Z Z53 := ZL.tr zoZ zlZ53
    have ziZ53 := zlZ53.1
    have zjZ53 := zlZ53.2.1
    have zkZ53 := zlZ53.2.2.1
    have zmZ53 := zoZ53.1
    have znZ53 := zoZ53.2.1
    have zpZ_Z53 := zoZ.1
    have zqZ_Z53 := zoZ.2.1
    have y49 : H.size ≤ Hk43.size + (zcc Z - zcc Z53) := by rw [hHk43]; exact y49
    have y50 : tot H ≤ tot Hk43 + (zss Z - zss Z53) := by rw [hHk43]; exact y50
    refine W.tight (k := zcc Z - zcc Z53) (n := zss Z - zss Z53) (by first | exact tg9 y49 k44 zlZ53.1 zoZ.1 | omega) (by first | exact tg9 y50 k45 zlZ53.2.1 zoZ.2.1 | omega) ?_
    have hl : lv_has ls 3 [(2, .int z17), (0, .ref (ad 5)), (1, .ref (Z53.fa gf))] := by rw [zlZ53.2.2.2.2 gf hgf]; exact hl
    have ilf54 : f54 < Z53.nf := ilf54
    have t55 : MJ V51 Z53 b := t55
    have t56 : (f54 : Int) + 1 = (V51 5 6).toInt := t56
    have t57 : (V51 67 f54).toInt = 4 ∧ (V51 68 f54).toInt = 0 := t57
    have t58 : (V51 5 9).toInt = 0 := t58
    have r59 : 0 ≤ ((V51 5 6)).toInt ∧ ((V51 5 6)).toInt ≤ 400 := hMV51 5 6
    have r60 : 0 ≤ ((V51 5 9)).toInt ∧ ((V51 5 9)).toInt ≤ 3 := hMV51 5 9
    refine lv_pop hx hb dX5_nextAfter_56 rfl ?_
    refine W.know (fun kr1 kr2 => ?_)
    refine W.widen (k := zcc Z) (n := zss Z) (Nat.sub_le _ _) (Nat.sub_le _ _) ?_
    exact W.vret hx hb hr (fun t ht hW => ⟨⟨(V51, L, Z53), rfl, ⟨hMV51, agV51, rfl, zoZ53, t55⟩, ⟨by rw [ht]; exact hP, va_K.moved hW.alike hK, hD⟩, by rw [ht]; exact kr1, by rw [ht]; exact kr2⟩, hS.F ht⟩) hS.2.2 dX5_nextAfter_57
  · skip
    have f61 : z17.toInt = (-1) := b_eq rfl (by decide) c21
    refine lv_aload_n hx hb dX5_nextAfter_28 rfl (lv_at hl 1 rfl) ?_
    refine lv_aload_n hx hb dX5_nextAfter_29 rfl (lv_at hl 2 rfl) ?_
    refine va_getN (D := D) (ci := 4) (v := .int (V 74 gf)) (fs := (xfFrame V gf)) (C := RX4) (T := TX4) (N := 19) hx hb hg inX4 hown hK hP (336 + gf) (xgFrame hgf) rfl 7 (by decide) (hnw.use 1196 n1196 rfl) (fun _ h9 => h9) rfl dX5_nextAfter_30 ?_
    refine gA_void (gA_runV (As := [.int (V 74 gf)]) (rest := []) (ci := 5) (q0 := 5) hx hb hml hown hg hP hD hK hS hA hnw hgk (x_answerWith2 l D ks H.size ad kk V L Z (V 74 gf) hMV ) w1304 w1306 w49 w171 w1307 rfl xgMachine hdV_yX5_answerWith ⟨Nat.le_of_ble_eq_true rfl, Nat.le_of_ble_eq_true rfl⟩ rfl hl.1 rfl (Nat.le_of_ble_eq_true rfl) dX5_nextAfter_33 ⟨z0, z0⟩) hP hD hK hS hA (fun u63 H locs w64 hP hD hK hS => ?_)
    obtain ⟨V67, L68⟩ := u63
    obtain ⟨hMV67, ajV67, axL68, t65, t66⟩ := w64
    have axL68 : L = L68 := Eq.symm axL68
    subst axL68
    have hP : va_P D vwCl (xw ad kk V67 L Z) H := hP
    have hD : va_D A (xw ad kk V67 L Z) := hD
    have hMV67 : rgd bX V67 := hMV67
    have ajV67 : agr [(5, 9), (5, 10)] [] V V67 := ajV67
    have agV67 : agr [(4, 5), (5, 6), (5, 9), (5, 10)] [33, 34, 35, 67, 68, 69, 70, 71, 72, 73, 74, 75, 76, 77, 78, 79, 80, 81, 82, 83, 84, 85] V V67 := agV.tr ajV67 (by decide) (by decide)
    have t65 : (V67 5 9).toInt = 1 := t65
    have t66 : (V67 5 10).toInt = ((V 74 gf)).toInt := t66
    have r69 : 0 ≤ ((V67 5 9)).toInt ∧ ((V67 5 9)).toInt ≤ 3 := hMV67 5 9
    refine lv_aload_n hx hb dX5_nextAfter_36 rfl (lv_at hl 1 rfl) ?_
    have pq70 : (V67 5 6).toInt = ((V 5 6)).toInt := congrArg Int32.toInt (ajV67 5 6 rfl)
    refine gA_void (gA_runV (As := []) (rest := []) (ci := 5) (q0 := 5) hx hb hml hown hg hP hD hK hS hA hnw hgk (x_leave l D ks H.size ad kk V67 L Z  hMV67 (show 1 ≤ (V67 5 6).toInt from by first | exact om_0cac171fa40c gd pq70 | first | omega | ((try (have i_t20 := Imp.go t20 (by omega))); omega))) w1308 w1310 w50 w171 w1311 rfl xgMachine hdV_yX5_leave ⟨Nat.le_of_ble_eq_true rfl, Nat.le_of_ble_eq_true rfl⟩ rfl hl.1 rfl (Nat.le_of_ble_eq_true rfl) dX5_nextAfter_37 ⟨z0, z0⟩) hP hD hK hS hA (fun u72 H locs w73 hP hD hK hS => ?_)
    obtain ⟨V75, L76⟩ := u72
    obtain ⟨hMV75, ajV75, axL76, t74⟩ := w73
    have axL76 : L = L76 := Eq.symm axL76
    subst axL76
    have hP : va_P D vwCl (xw ad kk V75 L Z) H := hP
    have hD : va_D A (xw ad kk V75 L Z) := hD
    have hMV75 : rgd bX V75 := hMV75
    have ajV75 : agr [(5, 6)] [] V67 V75 := ajV75
    have agV75 : agr [(4, 5), (5, 6), (5, 9), (5, 10)] [33, 34, 35, 67, 68, 69, 70, 71, 72, 73, 74, 75, 76, 77, 78, 79, 80, 81, 82, 83, 84, 85] V V75 := agV67.tr ajV75 (by decide) (by decide)
    have t74 : (V75 5 6).toInt = (V67 5 6).toInt - 1 := t74
    have r77 : 0 ≤ ((V75 5 6)).toInt ∧ ((V75 5 6)).toInt ≤ 400 := hMV75 5 6
    have me78 : ME V V75 gf := (ME.tr (ME.tr ME.rf (ME.ag ajV67 (by decide))) (ME.ag ajV75 (by decide)))
    have pq79 : (V75 67 gf).toInt = ((V 67 gf)).toInt := congrArg Int32.toInt ((ajV75 67 gf rfl).trans (ajV67 67 gf rfl))
    have pq80 : (V75 68 gf).toInt = ((V 68 gf)).toInt := congrArg Int32.toInt ((ajV75 68 gf rfl).trans (ajV67 68 gf rfl))
    have pq81 : (V75 70 gf).toInt = ((V 70 gf)).toInt := congrArg Int32.toInt ((ajV75 70 gf rfl).trans (ajV67 70 gf rfl))
    have pq82 : (V75 71 gf).toInt = ((V 71 gf)).toInt := congrArg Int32.toInt ((ajV75 71 gf rfl).trans (ajV67 71 gf rfl))
    have pq83 : (V75 75 gf).toInt = ((V 75 gf)).toInt := congrArg Int32.toInt ((ajV75 75 gf rfl).trans (ajV67 75 gf rfl))
    have pq84 : (V75 76 gf).toInt = ((V 76 gf)).toInt := congrArg Int32.toInt ((ajV75 76 gf rfl).trans (ajV67 76 gf rfl))
    have pq85 : (V75 80 gf).toInt = ((V 80 gf)).toInt := congrArg Int32.toInt ((ajV75 80 gf rfl).trans (ajV67 80 gf rfl))
    have pq86 : (V75 84 gf).toInt = ((V 84 gf)).toInt := congrArg Int32.toInt ((ajV75 84 gf rfl).trans (ajV67 84 gf rfl))
    have pq87 : (V75 5 8).toInt = ((V 5 8)).toInt := congrArg Int32.toInt ((ajV75 5 8 rfl).trans (ajV67 5 8 rfl))
    have pq88 : (V75 5 9).toInt = ((V67 5 9)).toInt := congrArg Int32.toInt (ajV75 5 9 rfl)
    have pq89 : (V75 3 13).toInt = ((V 3 13)).toInt := congrArg Int32.toInt ((ajV75 3 13 rfl).trans (ajV67 3 13 rfl))
    have pq90 : (V75 43 (5 * b + 2)).toInt = ((V 43 (5 * b + 2))).toInt := congrArg Int32.toInt ((ajV75 43 (5 * b + 2) rfl).trans (ajV67 43 (5 * b + 2) rfl))
    have pq91 : (V75 42 b).toInt = ((V 42 b)).toInt := congrArg Int32.toInt ((ajV75 42 b rfl).trans (ajV67 42 b rfl))
    have pq92 : (V75 41 b).toInt = ((V 41 b)).toInt := congrArg Int32.toInt ((ajV75 41 b rfl).trans (ajV67 41 b rfl))
    have rp93 : MJ V75 Z b := MP.lv (MO.mp mo) me78 (by (first | exact om_5ac7632c8ef3 gd pq70 t74 | omega)) (fun _ => Or.inl (by omega))
    refine W.know (fun kr1 kr2 => ?_)
    refine W.widen (k := zcc Z) (n := zss Z) (Nat.sub_le _ _) (Nat.sub_le _ _) ?_
    exact W.vret hx hb hr (fun t ht hW => ⟨⟨(V75, L, Z), rfl, ⟨hMV75, agV75, rfl, zoZ, rp93⟩, ⟨by rw [ht]; exact hP, va_K.moved hW.alike hK, hD⟩, by rw [ht]; exact kr1, by rw [ht]; exact kr2⟩, hS.F ht⟩) hS.2.2 dX5_nextAfter_40
abbrev r_x_goOnInside (Z : XZ) : Room := { frames := 6, cells := zcc Z, slots := zss Z, locals := 138 }
abbrev q_x_goOnInside (D : va_G) (ks : KS) (ad : Nat → Nat) (kk : Nat → ClassId) (V : Vf) (L : Lf) (Z : XZ) (b : Nat) (gf : Nat) (A : Nat → Prop) : Array Value → State → Outcome → State → Prop := qZv D (fun (u : Vf × Lf × XZ) => rgd bX u.1 ∧ agr [(4, 5), (5, 6), (5, 9), (5, 10), (5, 11), (5, 12)] [33, 34, 35, 67, 68, 69, 70, 71, 72, 73, 74, 75, 76, 77, 78, 79, 80, 81, 82, 83, 84, 85] V u.1 ∧ u.2.1 = L ∧ ZL Z u.2.2 ∧ (MJ u.1 u.2.2 b)) (fun u => xw ad kk u.1 u.2.1 u.2.2) (fun u => xty kk u.2.2) (fun u => zcc Z - zcc u.2.2) (fun u => zss Z - zss u.2.2) A
set_option maxHeartbeats 4000000 in
set_option maxRecDepth 100000 in
theorem x_goOnInside (l : Launch) (D : va_G) (ks : KS) (sz : Nat) (ad : Nat → Nat) (kk : Nat → ClassId) (V : Vf) (L : Lf) (Z : XZ) (b : Nat) (gf : Nat) (hMV : rgd bX V) (hb2 : b < 2) (hgf : gf < Z.nf) (mo : MO V Z b gf True (QN V b) (QN V b)) (gd : (gf : Int) + 1 = (V 5 6).toInt) (gk : (V 67 gf).toInt = 3)  : Met l yX5_goOnInside (Cond.code yX5_goOnInside cX5_goOnInside 2 none :: GW) (r_x_goOnInside Z) (va_Pc [.ref (ad 5), .ref (Z.fa gf)] (gp D ks (xw ad kk V L Z) (xty kk Z) sz)) (q_x_goOnInside D ks ad kk V L Z  b gf (va_A (xw ad kk V L Z) sz)) (zcc Z) (zss Z) (va_A (xw ad kk V L Z) sz) := by
  refine g_met (q_x_goOnInside D ks ad kk V L Z  b gf) (by decide) (Nat.le_of_ble_eq_true rfl) ?_
  intro p e s m below meth c A ls H locs hx hb hr hml hown hg hlocks hin hnw hgk hP hK hD hS hA hl
  have hown : s.vm.findClass RX5 = some m.cls := hown
  have hl : lv_has ls 2 [(0, .ref (ad 5)), (1, .ref (Z.fa gf))] := hl
  have hP : va_P D vwCl (xw ad kk V L Z) H := hP
  have hD : va_D A (xw ad kk V L Z) := hD
  have hK : va_K D vwCl (xty kk Z) s := hK
  have agV : agr [(4, 5), (5, 6), (5, 9), (5, 10), (5, 11), (5, 12)] [33, 34, 35, 67, 68, 69, 70, 71, 72, 73, 74, 75, 76, 77, 78, 79, 80, 81, 82, 83, 84, 85] V V := agr.rf
  have zoZ : ZL Z Z := ZL.rf
  refine W.know (fun ka kb => ?_)
  refine W.tight (k := zcc Z - zcc Z) (n := zss Z - zss Z) (by omega) (by omega) ?_
  have r1 : 0 ≤ ((V 5 6)).toInt ∧ ((V 5 6)).toInt ≤ 400 := hMV 5 6
  have kdp := i_clamp (x := V 5 6) rfl (by (first | exact om_c66f1b494bd9 gd | omega))
  have hdn : (gf : Int) + 1 ≤ (Z.nf : Int) := by (first | exact om_29efded833ec hgf | omega)
  have mup := MO.up mo
  have msz := mup.1
  have mbk := mup.2.2.2.1
  obtain ⟨xk, fk⟩ := MO.fk mo
  have r2 : (-1) ≤ ((V 71 gf)).toInt ∧ ((V 71 gf)).toInt ≤ 23 := hMV 71 gf
  have r3 : 0 ≤ ((V 75 gf)).toInt ∧ ((V 75 gf)).toInt ≤ 12 := hMV 75 gf
  have r4 : 0 ≤ ((V 80 gf)).toInt ∧ ((V 80 gf)).toInt ≤ 300 := hMV 80 gf
  have r5 : 0 ≤ ((V 84 gf)).toInt ∧ ((V 84 gf)).toInt ≤ 2147483647 := hMV 84 gf
  have r6 : 0 ≤ ((V 5 8)).toInt ∧ ((V 5 8)).toInt ≤ 300 := hMV 5 8
  have r7 : 0 ≤ ((V 5 9)).toInt ∧ ((V 5 9)).toInt ≤ 3 := hMV 5 9
  have r8 : 0 ≤ ((V 3 13)).toInt ∧ ((V 3 13)).toInt ≤ 300 := hMV 3 13
  have r9 : 0 ≤ ((V 43 (5 * b + 2))).toInt ∧ ((V 43 (5 * b + 2))).toInt ≤ ((xcap (5 * b + 2) : Nat) : Int) := hMV 43 (5 * b + 2)
  have r10 : xcap (5 * b + 2) = 24 := xcap_2
  have r11 : 0 ≤ ((V 41 b)).toInt ∧ ((V 41 b)).toInt ≤ 12 := hMV 41 b
  have r12 : 0 ≤ ((V 42 b)).toInt ∧ ((V 42 b)).toInt ≤ 8200 := hMV 42 b
  have fc := fk.1 (by omega)
  have fo := fk.2.1 (by omega) (by omega)
  have fp := fk.2.2.2.2.2.2.2.2.1 (by omega)
  refine lv_aload_n hx hb dX5_goOnInside_0 rfl (lv_at hl 1 rfl) ?_
  refine va_getN (D := D) (ci := 4) (v := .int (V 68 gf)) (fs := (xfFrame V gf)) (C := RX4) (T := TX4) (N := 19) hx hb hg inX4 hown hK hP (336 + gf) (xgFrame hgf) rfl 1 (by decide) (hnw.use 1190 n1190 rfl) (fun _ h9 => h9) rfl dX5_goOnInside_1 ?_
  refine lv_if_ne (tgt := 13) hx hb dX5_goOnInside_4 (by decide) (fun c13 => ?_) (fun c13 => ?_)
  · skip
    have f14 : ((V 68 gf)).toInt ≠ 0 := b_neq rfl (by decide) c13
    refine lv_aload_n hx hb dX5_goOnInside_13 rfl (lv_at hl 0 rfl) ?_
    refine va_get (D := D) (ci := 5) (v := .int (V 5 9)) (fs := (xfMachine ad V L Z)) (C := RX5) (T := TX5) (N := 15) hx hb hg inX5 hown hK hP 5 xgMachine rfl 9 (by decide) (hg _ w676) (fun _ h9 => h9) rfl dX5_goOnInside_14 ?_
    refine lv_iconst (v := 1) hx hb dX5_goOnInside_17 (by decide) ?_
    refine lv_icmp_ne (tgt := 29) hx hb dX5_goOnInside_18 (by decide) (fun c15 => ?_) (fun c15 => ?_)
    · skip
      have f16 : ((V 5 9)).toInt ≠ 1 := b_neq rfl (by decide) c15
      refine lv_aload_n hx hb dX5_goOnInside_29 rfl (lv_at hl 0 rfl) ?_
      refine gA_void (gA_runV (As := []) (rest := []) (ci := 5) (q0 := 5) hx hb hml hown hg hP hD hK hS hA hnw hgk (x_leave l D ks H.size ad kk V L Z  hMV (show 1 ≤ (V 5 6).toInt from by (first | exact om_5d8e1b1c1257 gd | omega))) w1308 w1310 w50 w171 w1311 rfl xgMachine hdV_yX5_leave ⟨Nat.le_of_ble_eq_true rfl, Nat.le_of_ble_eq_true rfl⟩ rfl hl.1 rfl (Nat.le_of_ble_eq_true rfl) dX5_goOnInside_30 ⟨z0, z0⟩) hP hD hK hS hA (fun u18 H locs w19 hP hD hK hS => ?_)
      obtain ⟨V21, L22⟩ := u18
      obtain ⟨hMV21, ajV21, axL22, t20⟩ := w19
      have axL22 : L = L22 := Eq.symm axL22
      subst axL22
      have hP : va_P D vwCl (xw ad kk V21 L Z) H := hP
      have hD : va_D A (xw ad kk V21 L Z) := hD
      have hMV21 : rgd bX V21 := hMV21
      have ajV21 : agr [(5, 6)] [] V V21 := ajV21
      have agV21 : agr [(4, 5), (5, 6), (5, 9), (5, 10), (5, 11), (5, 12)] [33, 34, 35, 67, 68, 69, 70, 71, 72, 73, 74, 75, 76, 77, 78, 79, 80, 81, 82, 83, 84, 85] V V21 := agV.tr ajV21 (by decide) (by decide)
      have t20 : (V21 5 6).toInt = (V 5 6).toInt - 1 := t20
      have r23 : 0 ≤ ((V21 5 6)).toInt ∧ ((V21 5 6)).toInt ≤ 400 := hMV21 5 6
      have me24 : ME V V21 gf := (ME.tr ME.rf (ME.ag ajV21 (by decide)))
      have pq25 : (V21 67 gf).toInt = ((V 67 gf)).toInt := congrArg Int32.toInt (ajV21 67 gf rfl)
      have pq26 : (V21 68 gf).toInt = ((V 68 gf)).toInt := congrArg Int32.toInt (ajV21 68 gf rfl)
      have pq27 : (V21 70 gf).toInt = ((V 70 gf)).toInt := congrArg Int32.toInt (ajV21 70 gf rfl)
      have pq28 : (V21 71 gf).toInt = ((V 71 gf)).toInt := congrArg Int32.toInt (ajV21 71 gf rfl)
      have pq29 : (V21 75 gf).toInt = ((V 75 gf)).toInt := congrArg Int32.toInt (ajV21 75 gf rfl)
      have pq30 : (V21 76 gf).toInt = ((V 76 gf)).toInt := congrArg Int32.toInt (ajV21 76 gf rfl)
      have pq31 : (V21 80 gf).toInt = ((V 80 gf)).toInt := congrArg Int32.toInt (ajV21 80 gf rfl)
      have pq32 : (V21 84 gf).toInt = ((V 84 gf)).toInt := congrArg Int32.toInt (ajV21 84 gf rfl)
      have pq33 : (V21 5 8).toInt = ((V 5 8)).toInt := congrArg Int32.toInt (ajV21 5 8 rfl)
      have pq34 : (V21 5 9).toInt = ((V 5 9)).toInt := congrArg Int32.toInt (ajV21 5 9 rfl)
      have pq35 : (V21 3 13).toInt = ((V 3 13)).toInt := congrArg Int32.toInt (ajV21 3 13 rfl)
      have pq36 : (V21 43 (5 * b + 2)).toInt = ((V 43 (5 * b + 2))).toInt := congrArg Int32.toInt (ajV21 43 (5 * b + 2) rfl)
      have pq37 : (V21 42 b).toInt = ((V 42 b)).toInt := congrArg Int32.toInt (ajV21 42 b rfl)
      have pq38 : (V21 41 b).toInt = ((V 41 b)).toInt := congrArg Int32.toInt (ajV21 41 b rfl)
      have rp39 : MJ V21 Z b := MP.lv (MO.mp mo) me24 (by (first | exact om_671f931d9ccb gd t20 | omega)) (fun _ => Or.inl (by omega))
      refine W.know (fun kr1 kr2 => ?_)
      refine W.widen (k := zcc Z) (n := zss Z) (Nat.sub_le _ _) (Nat.sub_le _ _) ?_
      exact W.vret hx hb hr (fun t ht hW => ⟨⟨(V21, L, Z), rfl, ⟨hMV21, agV21, rfl, zoZ, rp39⟩, ⟨by rw [ht]; exact hP, va_K.moved hW.alike hK, hD⟩, by rw [ht]; exact kr1, by rw [ht]; exact kr2⟩, hS.F ht⟩) hS.2.2 dX5_goOnInside_33
    · skip
      have f40 : ((V 5 9)).toInt = 1 := b_eq rfl (by decide) c15
      refine lv_aload_n hx hb dX5_goOnInside_21 rfl (lv_at hl 1 rfl) ?_
      refine va_getN (D := D) (ci := 4) (v := .int (V 68 gf)) (fs := (xfFrame V gf)) (C := RX4) (T := TX4) (N := 19) hx hb hg inX4 hown hK hP (336 + gf) (xgFrame hgf) rfl 1 (by decide) (hnw.use 1190 n1190 rfl) (fun _ h9 => h9) rfl dX5_goOnInside_22 ?_
      refine lv_iconst (v := 1) hx hb dX5_goOnInside_25 (by decide) ?_
      refine lv_icmp_ne (tgt := 34) hx hb dX5_goOnInside_26 (by decide) (fun c41 => ?_) (fun c41 => ?_)
      · skip
        have f42 : ((V 68 gf)).toInt ≠ 1 := b_neq rfl (by decide) c41
        refine lv_aload_n hx hb dX5_goOnInside_34 rfl (lv_at hl 1 rfl) ?_
        refine lv_aload_n hx hb dX5_goOnInside_35 rfl (lv_at hl 0 rfl) ?_
        refine va_get (D := D) (ci := 5) (v := .int (V 5 10)) (fs := (xfMachine ad V L Z)) (C := RX5) (T := TX5) (N := 15) hx hb hg inX5 hown hK hP 5 xgMachine rfl 10 (by decide) (hg _ w677) (fun _ h9 => h9) rfl dX5_goOnInside_36 ?_
        refine va_putN (D := D) (ci := 4) (v := .int (V 5 10)) (ty := tyX4 7) (fs := (xfFrame V gf)) (C := RX4) (T := TX4) (N := 19) hx hb hg inX4 tyX4 tyX4_ok nmX4 hown hK hP hD hS (336 + gf) (xgFrame hgf) rfl 7 (by decide) (hnw.use 1196 n1196 rfl) (fun _ h9 => h9) rfl (tyX4_ok 7 (by decide)) rfl rfl (Nat.le_of_ble_eq_true rfl) dX5_goOnInside_39 (fun H locs hP hD hS => ?_)
        obtain ⟨V43, hV43⟩ : ∃ z, z = up2 V 74 gf (V 5 10) := ⟨_, rfl⟩
        have ew44 : (xw ad kk V L Z).set (336 + gf) ((Z.fa gf), .inr (4, (xfFrame V gf).set 7 (.int (V 5 10)))) = xw ad kk V43 L Z := by rw [hV43]; exact xpFrame_arg hgf
        have hP : va_P D vwCl (xw ad kk V43 L Z) H := by rw [← ew44]; exact hP
        have hD : va_D A (xw ad kk V43 L Z) := by rw [← ew44]; exact hD
        have hMV43 : rgd bX V43 := hMV.put hV43 (i_full _)
        have agV43 : agr [(4, 5), (5, 6), (5, 9), (5, 10), (5, 11), (5, 12)] [33, 34, 35, 67, 68, 69, 70, 71, 72, 73, 74, 75, 76, 77, 78, 79, 80, 81, 82, 83, 84, 85] V V43 := agV.up hV43 rfl
        refine lv_aload_n hx hb dX5_goOnInside_42 rfl (lv_at hl 1 rfl) ?_
        refine va_getN (D := D) (ci := 4) (v := .int (V43 68 gf)) (fs := (xfFrame V43 gf)) (C := RX4) (T := TX4) (N := 19) hx hb hg inX4 hown hK hP (336 + gf) (xgFrame hgf) rfl 1 (by decide) (hnw.use 1190 n1190 rfl) (fun _ h9 => h9) rfl dX5_goOnInside_43 ?_
        refine g_top (v := (V 68 gf)) (up2_o hV43 (by decide)) ?_
        refine lv_iconst (v := 4) hx hb dX5_goOnInside_46 (by decide) ?_
        refine lv_icmp_ne (tgt := 58) hx hb dX5_goOnInside_47 (by decide) (fun c45 => ?_) (fun c45 => ?_)
        · skip
          have f46 : ((V 68 gf)).toInt ≠ 4 := b_neq rfl (by decide) c45
          refine lv_aload_n hx hb dX5_goOnInside_58 rfl (lv_at hl 0 rfl) ?_
          refine lv_aload_n hx hb dX5_goOnInside_59 rfl (lv_at hl 1 rfl) ?_
          have pq47 : (V43 5 6).toInt = ((V 5 6)).toInt := congrArg Int32.toInt (up2_o hV43 (by decide))
          have pq48 : (V43 67 gf).toInt = ((V 67 gf)).toInt := congrArg Int32.toInt (up2_o hV43 (by decide))
          have pq49 : (V43 75 gf).toInt = ((V 75 gf)).toInt := congrArg Int32.toInt (up2_o hV43 (by decide))
          have pq50 : (V43 41 b).toInt = ((V 41 b)).toInt := congrArg Int32.toInt (up2_o hV43 (by decide))
          have pq51 : (V43 68 gf).toInt = ((V 68 gf)).toInt := congrArg Int32.toInt (up2_o hV43 (by decide))
          have me52 : ME V V43 gf := (ME.up ME.rf hV43 (Or.inl ⟨by decide, by decide, Nat.le_refl _⟩))
          have pq53 : (V43 70 gf).toInt = ((V 70 gf)).toInt := congrArg Int32.toInt (up2_o hV43 (by decide))
          have pq54 : (V43 71 gf).toInt = ((V 71 gf)).toInt := congrArg Int32.toInt (up2_o hV43 (by decide))
          have pq55 : (V43 76 gf).toInt = ((V 76 gf)).toInt := congrArg Int32.toInt (up2_o hV43 (by decide))
          have pq56 : (V43 80 gf).toInt = ((V 80 gf)).toInt := congrArg Int32.toInt (up2_o hV43 (by decide))
          have pq57 : (V43 84 gf).toInt = ((V 84 gf)).toInt := congrArg Int32.toInt (up2_o hV43 (by decide))
          have pq58 : (V43 5 8).toInt = ((V 5 8)).toInt := congrArg Int32.toInt (up2_o hV43 (by decide))
          have pq59 : (V43 5 9).toInt = ((V 5 9)).toInt := congrArg Int32.toInt (up2_o hV43 (by decide))
          have pq60 : (V43 3 13).toInt = ((V 3 13)).toInt := congrArg Int32.toInt (up2_o hV43 (by decide))
          have pq61 : (V43 43 (5 * b + 2)).toInt = ((V 43 (5 * b + 2))).toInt := congrArg Int32.toInt (up2_o hV43 (by decide))
          have pq62 : (V43 42 b).toInt = ((V 42 b)).toInt := congrArg Int32.toInt (up2_o hV43 (by decide))
          have mo63 : MO V43 Z b gf True (QN V43 b) (QN V43 b) := MO.ch mo me52 (up2_o hV43 (by decide)) (up2_o hV43 (by decide)) (fun _ => Or.inl (by omega)) (fun x h => FK.k3 (by omega) (by omega) (by omega) (by omega))
          refine W.know (fun k65 k66 => ?_)
          obtain ⟨Hk64, hHk64⟩ : ∃ z, z = H := ⟨_, rfl⟩
          have k65 : Hk64.size ≤ s.heap.size + (zcc Z - zcc Z) := by rw [hHk64]; exact k65
          have k66 : tot Hk64 ≤ tot s.heap + (zss Z - zss Z) := by rw [hHk64]; exact k66
          refine gZ_void (gA_runV (As := [.ref (Z.fa gf)]) (rest := []) (ci := 5) (q0 := 5) hx hb hml hown hg hP hD hK hS hA hnw hgk (x_nextAfter l D ks H.size ad kk V43 L Z (b) (gf) hMV43 (show b < 2 from by (first | exact om_f940a4667dd6 hb2 | omega)) (show gf < Z.nf from by (first | exact om_8c5722e49bb1 hgf | omega)) mo63 (show (gf : Int) + 1 = (V43 5 6).toInt from by (first | exact om_6e5bbaaa0e03 gd pq47 | omega)) (show (V43 67 gf).toInt = 3 from by (first | exact om_1a346c87806a gk pq48 | omega)) (show (V43 75 gf).toInt ≤ (V43 41 b).toInt from by omega) (show (V43 68 gf).toInt ≠ 0 ∧ (V43 68 gf).toInt ≠ 1 from by omega)) w1427 w1429 w66 w171 w1430 rfl xgMachine hdV_yX5_nextAfter ⟨Nat.le_of_ble_eq_true rfl, Nat.le_of_ble_eq_true rfl⟩ rfl hl.1 rfl (Nat.le_of_ble_eq_true rfl) dX5_goOnInside_60 ⟨z1 zoZ.1, z1 zoZ.2.1⟩) hD hS hA (fun u68 H locs w69 hP hD hK hS y70 y71 => ?_)
          obtain ⟨V72, L73, Z74⟩ := u68
          obtain ⟨hMV72, ajV72, axL73, zlZ74, t76⟩ := w69
          have axL73 : L = L73 := Eq.symm axL73
          subst axL73
          have hP : va_P D vwCl (xw ad kk V72 L Z74) H := hP
          have hD : va_D A (xw ad kk V72 L Z74) := hD
          have hK : va_K D vwCl (xty kk Z74) s := hK
          have hMV72 : rgd bX V72 := hMV72
          have ajV72 : agr [(4, 5), (5, 6), (5, 9), (5, 10)] [33, 34, 35, 67, 68, 69, 70, 71, 72, 73, 74, 75, 76, 77, 78, 79, 80, 81, 82, 83, 84, 85] V43 V72 := ajV72
          have agV72 : agr [(4, 5), (5, 6), (5, 9), (5, 10), (5, 11), (5, 12)] [33, 34, 35, 67, 68, 69, 70, 71, 72, 73, 74, 75, 76, 77, 78, 79, 80, 81, 82, 83, 84, 85] V V72 := agV43.tr ajV72 (by decide) (by decide)
          have zlZ74 : ZL Z Z74 := zlZ74
          have zoZ74 : ZL Z Z74 := ZL.tr zoZ zlZ74
          have ziZ74 := zlZ74.1
          have zjZ74 := zlZ74.2.1
          have zkZ74 := zlZ74.2.2.1
          have zmZ74 := zoZ74.1
          have znZ74 := zoZ74.2.1
          have zpZ_Z74 := zoZ.1
          have zqZ_Z74 := zoZ.2.1
          have y70 : H.size ≤ Hk64.size + (zcc Z - zcc Z74) := by rw [hHk64]; exact y70
          have y71 : tot H ≤ tot Hk64 + (zss Z - zss Z74) := by rw [hHk64]; exact y71
          refine W.tight (k := zcc Z - zcc Z74) (n := zss Z - zss Z74) (by first | exact tg9 y70 k65 zlZ74.1 zoZ.1 | omega) (by first | exact tg9 y71 k66 zlZ74.2.1 zoZ.2.1 | omega) ?_
          have hl : lv_has ls 2 [(0, .ref (ad 5)), (1, .ref (Z74.fa gf))] := by rw [zlZ74.2.2.2.2 gf hgf]; exact hl
          have t76 : MJ V72 Z74 b := t76
          refine W.know (fun kr1 kr2 => ?_)
          refine W.widen (k := zcc Z) (n := zss Z) (Nat.sub_le _ _) (Nat.sub_le _ _) ?_
          exact W.vret hx hb hr (fun t ht hW => ⟨⟨(V72, L, Z74), rfl, ⟨hMV72, agV72, rfl, zoZ74, t76⟩, ⟨by rw [ht]; exact hP, va_K.moved hW.alike hK, hD⟩, by rw [ht]; exact kr1, by rw [ht]; exact kr2⟩, hS.F ht⟩) hS.2.2 dX5_goOnInside_63
        · skip
          have f77 : ((V 68 gf)).toInt = 4 := b_eq rfl (by decide) c45
          refine lv_aload_n hx hb dX5_goOnInside_50 rfl (lv_at hl 0 rfl) ?_
          refine lv_aload_n hx hb dX5_goOnInside_51 rfl (lv_at hl 1 rfl) ?_
          have pq78 : (V43 5 6).toInt = ((V 5 6)).toInt := congrArg Int32.toInt (up2_o hV43 (by decide))
          have pq79 : (V43 67 gf).toInt = ((V 67 gf)).toInt := congrArg Int32.toInt (up2_o hV43 (by decide))
          have pq80 : (V43 68 gf).toInt = ((V 68 gf)).toInt := congrArg Int32.toInt (up2_o hV43 (by decide))
          have me81 : ME V V43 gf := (ME.up ME.rf hV43 (Or.inl ⟨by decide, by decide, Nat.le_refl _⟩))
          have pq82 : (V43 70 gf).toInt = ((V 70 gf)).toInt := congrArg Int32.toInt (up2_o hV43 (by decide))
          have pq83 : (V43 71 gf).toInt = ((V 71 gf)).toInt := congrArg Int32.toInt (up2_o hV43 (by decide))
          have pq84 : (V43 75 gf).toInt = ((V 75 gf)).toInt := congrArg Int32.toInt (up2_o hV43 (by decide))
          have pq85 : (V43 76 gf).toInt = ((V 76 gf)).toInt := congrArg Int32.toInt (up2_o hV43 (by decide))
          have pq86 : (V43 80 gf).toInt = ((V 80 gf)).toInt := congrArg Int32.toInt (up2_o hV43 (by decide))
          have pq87 : (V43 84 gf).toInt = ((V 84 gf)).toInt := congrArg Int32.toInt (up2_o hV43 (by decide))
          have pq88 : (V43 5 8).toInt = ((V 5 8)).toInt := congrArg Int32.toInt (up2_o hV43 (by decide))
          have pq89 : (V43 5 9).toInt = ((V 5 9)).toInt := congrArg Int32.toInt (up2_o hV43 (by decide))
          have pq90 : (V43 3 13).toInt = ((V 3 13)).toInt := congrArg Int32.toInt (up2_o hV43 (by decide))
          have pq91 : (V43 43 (5 * b + 2)).toInt = ((V 43 (5 * b + 2))).toInt := congrArg Int32.toInt (up2_o hV43 (by decide))
          have pq92 : (V43 42 b).toInt = ((V 42 b)).toInt := congrArg Int32.toInt (up2_o hV43 (by decide))
          have pq93 : (V43 41 b).toInt = ((V 41 b)).toInt := congrArg Int32.toInt (up2_o hV43 (by decide))
          have mo94 : MO V43 Z b gf True (QN V43 b) (QN V43 b) := MO.ch mo me81 (up2_o hV43 (by decide)) (up2_o hV43 (by decide)) (fun _ => Or.inl (by omega)) (fun x h => FK.k3 (by omega) (by omega) (by omega) (by omega))
          refine W.know (fun k96 k97 => ?_)
          obtain ⟨Hk95, hHk95⟩ : ∃ z, z = H := ⟨_, rfl⟩
          have k96 : Hk95.size ≤ s.heap.size + (zcc Z - zcc Z) := by rw [hHk95]; exact k96
          have k97 : tot Hk95 ≤ tot s.heap + (zss Z - zss Z) := by rw [hHk95]; exact k97
          refine gZ_void (gA_runV (As := [.ref (Z.fa gf)]) (rest := []) (ci := 5) (q0 := 5) hx hb hml hown hg hP hD hK hS hA hnw hgk (x_nextBefore l D ks H.size ad kk V43 L Z (b) (gf) hMV43 (show b < 2 from by (first | exact om_f940a4667dd6 hb2 | omega)) (show gf < Z.nf from by (first | exact om_8c5722e49bb1 hgf | omega)) mo94 (show (gf : Int) + 1 = (V43 5 6).toInt from by (first | exact om_6e5bbaaa0e03 gd pq78 | omega)) (show (V43 67 gf).toInt = 3 from by (first | exact om_1a346c87806a gk pq79 | omega)) (show (V43 68 gf).toInt = 4 from by (first | exact om_ac6651f4ff0c f77 pq80 | omega))) w1423 w1425 w65 w171 w1426 rfl xgMachine hdV_yX5_nextBefore ⟨Nat.le_of_ble_eq_true rfl, Nat.le_of_ble_eq_true rfl⟩ rfl hl.1 rfl (Nat.le_of_ble_eq_true rfl) dX5_goOnInside_52 ⟨z1 zoZ.1, z1 zoZ.2.1⟩) hD hS hA (fun u99 H locs w100 hP hD hK hS y101 y102 => ?_)
          obtain ⟨V103, L104, Z105⟩ := u99
          obtain ⟨hMV103, ajV103, axL104, zlZ105, t107⟩ := w100
          have axL104 : L = L104 := Eq.symm axL104
          subst axL104
          have hP : va_P D vwCl (xw ad kk V103 L Z105) H := hP
          have hD : va_D A (xw ad kk V103 L Z105) := hD
          have hK : va_K D vwCl (xty kk Z105) s := hK
          have hMV103 : rgd bX V103 := hMV103
          have ajV103 : agr [(4, 5), (5, 6), (5, 9), (5, 11), (5, 12)] [33, 34, 35, 67, 68, 69, 70, 71, 72, 73, 74, 75, 76, 77, 78, 79, 80, 81, 82, 83, 84, 85] V43 V103 := ajV103
          have agV103 : agr [(4, 5), (5, 6), (5, 9), (5, 10), (5, 11), (5, 12)] [33, 34, 35, 67, 68, 69, 70, 71, 72, 73, 74, 75, 76, 77, 78, 79, 80, 81, 82, 83, 84, 85] V V103 := agV43.tr ajV103 (by decide) (by decide)
          have zlZ105 : ZL Z Z105 := zlZ105
          have zoZ105 : ZL Z Z105 := ZL.tr zoZ zlZ105
          have ziZ105 := zlZ105.1
          have zjZ105 := zlZ105.2.1
          have zkZ105 := zlZ105.2.2.1
          have zmZ105 := zoZ105.1
          have znZ105 := zoZ105.2.1
          have zpZ_Z105 := zoZ.1
          have zqZ_Z105 := zoZ.2.1
          have y101 : H.size ≤ Hk95.size + (zcc Z - zcc Z105) := by rw [hHk95]; exact y101
          have y102 : tot H ≤ tot Hk95 + (zss Z - zss Z105) := by rw [hHk95]; exact y102
          refine W.tight (k := zcc Z - zcc Z105) (n := zss Z - zss Z105) (by first | exact tg9 y101 k96 zlZ105.1 zoZ.1 | omega) (by first | exact tg9 y102 k97 zlZ105.2.1 zoZ.2.1 | omega) ?_
          have hl : lv_has ls 2 [(0, .ref (ad 5)), (1, .ref (Z105.fa gf))] := by rw [zlZ105.2.2.2.2 gf hgf]; exact hl
          have t107 : MJ V103 Z105 b := t107
          refine lv_goto (tgt := 63) hx hb dX5_goOnInside_55 (by decide) ?_
          refine W.know (fun kr1 kr2 => ?_)
          refine W.widen (k := zcc Z) (n := zss Z) (Nat.sub_le _ _) (Nat.sub_le _ _) ?_
          exact W.vret hx hb hr (fun t ht hW => ⟨⟨(V103, L, Z105), rfl, ⟨hMV103, agV103, rfl, zoZ105, t107⟩, ⟨by rw [ht]; exact hP, va_K.moved hW.alike hK, hD⟩, by rw [ht]; exact kr1, by rw [ht]; exact kr2⟩, hS.F ht⟩) hS.2.2 dX5_goOnInside_63
      · skip
        have f108 : ((V 68 gf)).toInt = 1 := b_eq rfl (by decide) c41
        refine lv_aload_n hx hb dX5_goOnInside_29 rfl (lv_at hl 0 rfl) ?_
        refine gA_void (gA_runV (As := []) (rest := []) (ci := 5) (q0 := 5) hx hb hml hown hg hP hD hK hS hA hnw hgk (x_leave l D ks H.size ad kk V L Z  hMV (show 1 ≤ (V 5 6).toInt from by (first | exact om_5d8e1b1c1257 gd | omega))) w1308 w1310 w50 w171 w1311 rfl xgMachine hdV_yX5_leave ⟨Nat.le_of_ble_eq_true rfl, Nat.le_of_ble_eq_true rfl⟩ rfl hl.1 rfl (Nat.le_of_ble_eq_true rfl) dX5_goOnInside_30 ⟨z0, z0⟩) hP hD hK hS hA (fun u110 H locs w111 hP hD hK hS => ?_)
        obtain ⟨V113, L114⟩ := u110
        obtain ⟨hMV113, ajV113, axL114, t112⟩ := w111
        have axL114 : L = L114 := Eq.symm axL114
        subst axL114
        have hP : va_P D vwCl (xw ad kk V113 L Z) H := hP
        have hD : va_D A (xw ad kk V113 L Z) := hD
        have hMV113 : rgd bX V113 := hMV113
        have ajV113 : agr [(5, 6)] [] V V113 := ajV113
        have agV113 : agr [(4, 5), (5, 6), (5, 9), (5, 10), (5, 11), (5, 12)] [33, 34, 35, 67, 68, 69, 70, 71, 72, 73, 74, 75, 76, 77, 78, 79, 80, 81, 82, 83, 84, 85] V V113 := agV.tr ajV113 (by decide) (by decide)
        have t112 : (V113 5 6).toInt = (V 5 6).toInt - 1 := t112
        have r115 : 0 ≤ ((V113 5 6)).toInt ∧ ((V113 5 6)).toInt ≤ 400 := hMV113 5 6
        have me116 : ME V V113 gf := (ME.tr ME.rf (ME.ag ajV113 (by decide)))
        have pq117 : (V113 67 gf).toInt = ((V 67 gf)).toInt := congrArg Int32.toInt (ajV113 67 gf rfl)
        have pq118 : (V113 68 gf).toInt = ((V 68 gf)).toInt := congrArg Int32.toInt (ajV113 68 gf rfl)
        have pq119 : (V113 70 gf).toInt = ((V 70 gf)).toInt := congrArg Int32.toInt (ajV113 70 gf rfl)
        have pq120 : (V113 71 gf).toInt = ((V 71 gf)).toInt := congrArg Int32.toInt (ajV113 71 gf rfl)
        have pq121 : (V113 75 gf).toInt = ((V 75 gf)).toInt := congrArg Int32.toInt (ajV113 75 gf rfl)
        have pq122 : (V113 76 gf).toInt = ((V 76 gf)).toInt := congrArg Int32.toInt (ajV113 76 gf rfl)
        have pq123 : (V113 80 gf).toInt = ((V 80 gf)).toInt := congrArg Int32.toInt (ajV113 80 gf rfl)
        have pq124 : (V113 84 gf).toInt = ((V 84 gf)).toInt := congrArg Int32.toInt (ajV113 84 gf rfl)
        have pq125 : (V113 5 8).toInt = ((V 5 8)).toInt := congrArg Int32.toInt (ajV113 5 8 rfl)
        have pq126 : (V113 5 9).toInt = ((V 5 9)).toInt := congrArg Int32.toInt (ajV113 5 9 rfl)
        have pq127 : (V113 3 13).toInt = ((V 3 13)).toInt := congrArg Int32.toInt (ajV113 3 13 rfl)
        have pq128 : (V113 43 (5 * b + 2)).toInt = ((V 43 (5 * b + 2))).toInt := congrArg Int32.toInt (ajV113 43 (5 * b + 2) rfl)
        have pq129 : (V113 42 b).toInt = ((V 42 b)).toInt := congrArg Int32.toInt (ajV113 42 b rfl)
        have pq130 : (V113 41 b).toInt = ((V 41 b)).toInt := congrArg Int32.toInt (ajV113 41 b rfl)
        have rp131 : MJ V113 Z b := MP.lv (MO.mp mo) me116 (by (first | exact om_671f931d9ccb gd t112 | omega)) (fun _ => Or.inl (by omega))
        refine W.know (fun kr1 kr2 => ?_)
        refine W.widen (k := zcc Z) (n := zss Z) (Nat.sub_le _ _) (Nat.sub_le _ _) ?_
        exact W.vret hx hb hr (fun t ht hW => ⟨⟨(V113, L, Z), rfl, ⟨hMV113, agV113, rfl, zoZ, rp131⟩, ⟨by rw [ht]; exact hP, va_K.moved hW.alike hK, hD⟩, by rw [ht]; exact kr1, by rw [ht]; exact kr2⟩, hS.F ht⟩) hS.2.2 dX5_goOnInside_33
  · skip
    have f132 : ((V 68 gf)).toInt = 0 := b_eq rfl (by decide) c13
    refine lv_aload_n hx hb dX5_goOnInside_7 rfl (lv_at hl 0 rfl) ?_
    refine lv_aload_n hx hb dX5_goOnInside_8 rfl (lv_at hl 1 rfl) ?_
    refine W.know (fun k134 k135 => ?_)
    obtain ⟨Hk133, hHk133⟩ : ∃ z, z = H := ⟨_, rfl⟩
    have k134 : Hk133.size ≤ s.heap.size + (zcc Z - zcc Z) := by rw [hHk133]; exact k134
    have k135 : tot Hk133 ≤ tot s.heap + (zss Z - zss Z) := by rw [hHk133]; exact k135
    refine gZ_void (gA_runV (As := [.ref (Z.fa gf)]) (rest := []) (ci := 5) (q0 := 5) hx hb hml hown hg hP hD hK hS hA hnw hgk (x_beginInside l D ks H.size ad kk V L Z (b) (gf) hMV (show b < 2 from by (first | exact om_f940a4667dd6 hb2 | omega)) (show gf < Z.nf from by (first | exact om_8c5722e49bb1 hgf | omega)) mo (show (gf : Int) + 1 = (V 5 6).toInt from by (first | exact om_b7eb86266639 gd | omega)) (show (V 67 gf).toInt = 3 from by (first | exact om_395e3da5ee0d gk | omega))) w1415 w1417 w64 w171 w1418 rfl xgMachine hdV_yX5_beginInside ⟨Nat.le_of_ble_eq_true rfl, Nat.le_of_ble_eq_true rfl⟩ rfl hl.1 rfl (Nat.le_of_ble_eq_true rfl) dX5_goOnInside_9 ⟨z1 zoZ.1, z1 zoZ.2.1⟩) hD hS hA (fun u137 H locs w138 hP hD hK hS y139 y140 => ?_)
    obtain ⟨V141, L142, Z143⟩ := u137
    obtain ⟨hMV141, ajV141, axL142, zlZ143, t145⟩ := w138
    have axL142 : L = L142 := Eq.symm axL142
    subst axL142
    have hP : va_P D vwCl (xw ad kk V141 L Z143) H := hP
    have hD : va_D A (xw ad kk V141 L Z143) := hD
    have hK : va_K D vwCl (xty kk Z143) s := hK
    have hMV141 : rgd bX V141 := hMV141
    have ajV141 : agr [(4, 5), (5, 6), (5, 9), (5, 10)] [33, 34, 35, 67, 68, 69, 70, 71, 72, 73, 74, 75, 76, 77, 78, 79, 80, 81, 82, 83, 84, 85] V V141 := ajV141
    have agV141 : agr [(4, 5), (5, 6), (5, 9), (5, 10), (5, 11), (5, 12)] [33, 34, 35, 67, 68, 69, 70, 71, 72, 73, 74, 75, 76, 77, 78, 79, 80, 81, 82, 83, 84, 85] V V141 := agV.tr ajV141 (by decide) (by decide)
    have zlZ143 : ZL Z Z143 := zlZ143
    have zoZ143 : ZL Z Z143 := ZL.tr zoZ zlZ143
    have ziZ143 := zlZ143.1
    have zjZ143 := zlZ143.2.1
    have zkZ143 := zlZ143.2.2.1
    have zmZ143 := zoZ143.1
    have znZ143 := zoZ143.2.1
    have zpZ_Z143 := zoZ.1
    have zqZ_Z143 := zoZ.2.1
    have y139 : H.size ≤ Hk133.size + (zcc Z - zcc Z143) := by rw [hHk133]; exact y139
    have y140 : tot H ≤ tot Hk133 + (zss Z - zss Z143) := by rw [hHk133]; exact y140
    refine W.tight (k := zcc Z - zcc Z143) (n := zss Z - zss Z143) (by first | exact tg9 y139 k134 zlZ143.1 zoZ.1 | omega) (by first | exact tg9 y140 k135 zlZ143.2.1 zoZ.2.1 | omega) ?_
    have hl : lv_has ls 2 [(0, .ref (ad 5)), (1, .ref (Z143.fa gf))] := by rw [zlZ143.2.2.2.2 gf hgf]; exact hl
    have t145 : MJ V141 Z143 b := t145
    refine W.know (fun kr1 kr2 => ?_)
    refine W.widen (k := zcc Z) (n := zss Z) (Nat.sub_le _ _) (Nat.sub_le _ _) ?_
    exact W.vret hx hb hr (fun t ht hW => ⟨⟨(V141, L, Z143), rfl, ⟨hMV141, agV141, rfl, zoZ143, t145⟩, ⟨by rw [ht]; exact hP, va_K.moved hW.alike hK, hD⟩, by rw [ht]; exact kr1, by rw [ht]; exact kr2⟩, hS.F ht⟩) hS.2.2 dX5_goOnInside_12
end
section
/-! WORKING frames -/
theorem idiv_l {x y z : Int32} {n : Int} (e : z = x / y) (hy : y.toInt = n) (h0 : 0 ≤ x.toInt) (hn : 0 < n) : z.toInt = x.toInt / n := by
  rw [e, lg_idiv_nonneg h0 (by omega), hy]
theorem irem_l {x y z : Int32} {n : Int} (e : z = x - x / y * y) (hy : y.toInt = n) (h0 : 0 ≤ x.toInt) (hn : 0 < n) : 0 ≤ z.toInt ∧ z.toInt < n := by
  have d : (x / y).toInt = x.toInt / n := idiv_l rfl hy h0 hn
  have f := i_full x
  have q1 : 0 ≤ x.toInt / n * n := Int.mul_nonneg (Int.ediv_nonneg h0 (Int.le_of_lt hn)) (Int.le_of_lt hn)
  have q2 : x.toInt / n * n ≤ x.toInt := Int.ediv_mul_le _ (by omega)
  have m : (x / y * y).toInt = x.toInt / n * n := i_mul rfl d hy ⟨by omega, by omega⟩
  have s : z.toInt = x.toInt - x.toInt / n * n := i_sub e rfl m ⟨by omega, by omega⟩
  have e2 : x.toInt - x.toInt / n * n = x.toInt % n := by rw [Int.emod_def, Int.mul_comm]
  rw [s, e2]
  exact ⟨Int.emod_nonneg _ (by omega), Int.emod_lt_of_pos _ hn⟩
theorem up2_back {V : Vf} {c k : Nat} {x : Int32} : up2 (up2 V c k x) c k (V c k) = V := by
  funext c' k'
  by_cases h : c' = c ∧ k' = k
  · rw [h.1, h.2]
    exact up2_ss
  · rw [up2_pl h, up2_pl h]
theorem up2_twice {V : Vf} {c k : Nat} {x y : Int32} : up2 (up2 V c k x) c k y = up2 V c k y := by
  funext c' k'
  by_cases h : c' = c ∧ k' = k
  · rw [h.1, h.2, up2_ss, up2_ss]
  · rw [up2_pl h, up2_pl h, up2_pl h]
/-- as MO, but for the frame's place in the code -/
def MOa (V : Vf) (Z : XZ) (b d : Nat) : Prop := MO (up2 V 84 d 2147483647) Z b d True True True
theorem MO.a {V : Vf} {Z : XZ} {b d : Nat} (h : MO V Z b d True True True) (k4 : (V 67 d).toInt = 4) (h8 : (V 42 b).toInt ≤ 8200) : MOa V Z b d := by
  have o : ∀ c k, c ≠ 84 → up2 V 84 d 2147483647 c k = V c k := fun c k q => up2_pl (fun a => q a.1)
  refine MO.ch h (ME.up ME.rf rfl (Or.inl ⟨by decide, by decide, Nat.le_refl _⟩)) (o _ _ (by decide)) (o _ _ (by decide)) Or.inr (fun x g => ?_)
  refine FK.k4 (by rw [o 67 d (by decide)]; exact k4) ?_ ?_ (Or.inl ?_) ?_ ?_
  · rw [o 71 d (by decide), o 43 _ (by decide)]
    exact g.1 (by omega)
  · rw [o 70 d (by decide), o 3 13 (by decide)]
    exact g.2.1 (by omega) (by omega)
  · rw [o 42 b (by decide), up2_ss]
    have : Int32.toInt 2147483647 = 2147483647 := by decide
    omega
  · rw [o 68 d (by decide), o 75 d (by decide)]
    exact g.2.2.2.1 k4
  · rw [o 68 d (by decide)]
    exact g.2.2.2.2.2.2.2.2.2 k4
theorem MOa.up {V W : Vf} {Z : XZ} {b d : Nat} {y : Int32} (h : MOa V Z b d) (e : W = up2 V 84 d y) : MOa W Z b d := by
  unfold MOa
  rw [e, up2_twice]
  exact h
theorem MO.upm {V W : Vf} {Z : XZ} {b d : Nat} {w v u : Prop} (h : MO V Z b d w v u) (m : ME V W d) : 0 < (W 43 (5 * b + 2)).toInt ∧ TX W b ∧ CD W b ∧ (W 5 5).toInt = (b : Int) ∧ SL W Z ∧ (∀ o : Nat, (o : Int) < (W 3 13).toInt → (W 26 o).toInt < (W 43 (5 * b + 2)).toInt) ∧ (∀ i : Nat, (i : Int) < (W 5 8).toInt → (W 40 i).toInt < (W 3 13).toInt) ∧ PT W ∧ (W 3 15).toInt ≤ 250000 ∧ LN Z.ln := by
  obtain ⟨g, r, x, h, _⟩ := h
  exact (h.me m).up
theorem cd_lo {V : Vf} {b a : Nat} (h1 : (bdp V b a).1 = true) (h : (V 48 (8200 * b + a)).toInt < 10) : (bdp V b (a + 1)).1 = true := by
  rw [bdp_s]
  show (((bdp V b a).1 && decide ((V 48 (8200 * b + a)).toInt < 10)) || (bdp V b a).2) = true
  rw [h1, decide_eq_true h]
  rfl
theorem cd_op {V W : Vf} {b a0 : Nat} (cd : CD V b) (be : BE V W) (h1 : (bdp V b a0).1 = true) {o : Int} (ho : (V 48 (8200 * b + a0)).toInt = o) (h10 : 10 ≤ o) (a : Nat) (ha : (a : Int) = (a0 : Int) + 1) (hl : (a : Int) < (W 42 b).toInt) : okO W b o (W 48 (8200 * b + a)).toInt ∧ (bdp W b (a + 1)).1 = true := by
  have ea : a = a0 + 1 := by (first | exact om_6a3c06e010e8 ha | omega)
  subst ea
  have e42 := be 42 b (by decide) (by decide)
  rw [e42] at hl
  have h2 : (bdp V b (a0 + 1)).2 = true := by
    rw [bdp_s]
    show ((bdp V b a0).1 && decide (10 ≤ (V 48 (8200 * b + a0)).toInt)) = true
    rw [h1, decide_eq_true (by omega)]
    rfl
  have k := cd.1.2 a0 (by omega) h2
  rw [ho] at k
  refine ⟨?_, ?_⟩
  · unfold okO at k ⊢
    rw [e42, be 48 _ (by decide) (by decide)]
    refine ⟨k.1, k.2.1, fun z => ?_⟩
    rw [be.bd]
    exact k.2.2 z
  · rw [be.bd, bdp_s]
    show (_ || (bdp V b (a0 + 1)).2) = true
    rw [h2, Bool.or_true]

theorem n631 : lw_tbl[631]? = some (Cond.fieldLinkNest RX5 320 "WiringHouse$Book" "codeLength" "I" "WiringHouse") := la9 (n := 155) (i := 476) lz9 (la9 (n := 240) (i := 236) ln9_1 (lb9 (i := 236) (by decide +kernel)))
theorem w1469 : Cond.code yX5_put cX5_put 2 none ∈ GW := gw_k tk9_6 114 (rfl) rfl
theorem w1466 : Cond.methodLink RX5 338 yX5_put ∈ GW := gw_k tk9_6 111 (by decide +kernel) rfl
theorem w1468 : Cond.instanceMethod yX5_put ∈ GW := gw_k tk9_6 113 (by decide +kernel) rfl
theorem w72 : Cond.selects RX5 yX5_put yX5_put ∈ GW := gw_mem 72 (by decide +kernel) rfl
theorem hdV_yX5_put : yX5_put.cls = RX5 ∧ yX5_put.cls ≠ "java/lang/invoke/MethodHandle" ∧ yX5_put.cls ≠ "java/lang/invoke/VarHandle" ∧ (parseMethodDescriptor yX5_put.desc).map (fun d => d.parameters.length) = some 1 := by decide +kernel
theorem n613 : lw_tbl[613]? = some (Cond.fieldLinkNest RX5 344 "WiringHouse$Book" "settingValues" "[I" "WiringHouse") := la9 (n := 155) (i := 458) lz9 (la9 (n := 240) (i := 218) ln9_1 (lb9 (i := 218) (by decide +kernel)))
theorem w1461 : Cond.code yX5_endWork cX5_endWork 2 none ∈ GW := gw_k tk9_6 106 (rfl) rfl
theorem w1458 : Cond.methodLink RX5 310 yX5_endWork ∈ GW := gw_k tk9_6 103 (by decide +kernel) rfl
theorem w1460 : Cond.instanceMethod yX5_endWork ∈ GW := gw_k tk9_6 105 (by decide +kernel) rfl
theorem w70 : Cond.selects RX5 yX5_endWork yX5_endWork ∈ GW := gw_mem 70 (by decide +kernel) rfl
theorem hdV_yX5_endWork : yX5_endWork.cls = RX5 ∧ yX5_endWork.cls ≠ "java/lang/invoke/MethodHandle" ∧ yX5_endWork.cls ≠ "java/lang/invoke/VarHandle" ∧ (parseMethodDescriptor yX5_endWork.desc).map (fun d => d.parameters.length) = some 1 := by decide +kernel
theorem w1485 : Cond.code yX5_pull cX5_pull 1 (some .int) ∈ GW := gw_k tk9_6 130 (rfl) rfl
theorem w1482 : Cond.methodLink RX5 330 yX5_pull ∈ GW := gw_k tk9_6 127 (by decide +kernel) rfl
theorem w1484 : Cond.instanceMethod yX5_pull ∈ GW := gw_k tk9_6 129 (by decide +kernel) rfl
theorem w76 : Cond.selects RX5 yX5_pull yX5_pull ∈ GW := gw_mem 76 (by decide +kernel) rfl
theorem hdV_yX5_pull : yX5_pull.cls = RX5 ∧ yX5_pull.cls ≠ "java/lang/invoke/MethodHandle" ∧ yX5_pull.cls ≠ "java/lang/invoke/VarHandle" ∧ (parseMethodDescriptor yX5_pull.desc).map (fun d => d.parameters.length) = some 0 := by decide +kernel
theorem n1199 : lw_tbl[1199]? = some (Cond.fieldLinkNest RX5 347 "WiringHouse$Frame" "target" "I" "WiringHouse") := la9 (n := 155) (i := 1044) lz9 (la9 (n := 240) (i := 804) ln9_1 (la9 (n := 240) (i := 564) ln9_2 (la9 (n := 240) (i := 324) ln9_3 (la9 (n := 240) (i := 84) ln9_4 (lb9 (i := 84) (by decide +kernel))))))
theorem n1200 : lw_tbl[1200]? = some (Cond.fieldLinkNest RX5 350 "WiringHouse$Frame" "given" "I" "WiringHouse") := la9 (n := 155) (i := 1045) lz9 (la9 (n := 240) (i := 805) ln9_1 (la9 (n := 240) (i := 565) ln9_2 (la9 (n := 240) (i := 325) ln9_3 (la9 (n := 240) (i := 85) ln9_4 (lb9 (i := 85) (by decide +kernel))))))
theorem n624 : lw_tbl[624]? = some (Cond.fieldLinkNest RX5 323 "WiringHouse$Book" "code" "[I" "WiringHouse") := la9 (n := 155) (i := 469) lz9 (la9 (n := 240) (i := 229) ln9_1 (lb9 (i := 229) (by decide +kernel)))
theorem dk9_dX5_worksWith_0_0 : dOk cX5_worksWith [(0, .aload_n 1, 1), (1, .getfield 141, 3), (4, .aload_n 0, 1), (5, .getfield 24, 3), (8, .getfield 320, 3), (11, .if_icmp .ge 18, 3), (29, .iconst 0, 1), (30, .istore_n 3, 1), (31, .aload_n 1, 1), (32, .dup, 1), (33, .getfield 141, 3), (36, .iconst 1, 1), (37, .iadd, 1), (38, .putfield 141, 3), (41, .iload_n 2, 1), (42, .tableswitch 97 10 14 #[34, 41, 84, 63, 56], 34), (76, .aload_n 0, 1), (77, .iload_n 3, 1), (78, .invokevirtual 338, 3), (81, .iconst 1, 1), (82, .ireturn, 1), (83, .aload_n 0, 1), (84, .aload_n 0, 1), (85, .getfield 24, 3)] = true ∧ dOk cX5_worksWith [(88, .getfield 344, 3), (91, .iload_n 3, 1), (92, .iaload, 1), (93, .invokevirtual 338, 3), (96, .iconst 1, 1), (97, .ireturn, 1), (126, .aload_n 0, 1), (127, .iconst 0, 1), (128, .iload_n 3, 1), (129, .invokevirtual 169, 3), (132, .aload_n 0, 1), (133, .aload_n 1, 1), (134, .invokevirtual 310, 3), (137, .iconst 0, 1), (138, .ireturn, 1), (105, .aload_n 1, 1), (106, .aload_n 0, 1), (107, .invokevirtual 330, 3), (110, .ifCond .ne 7, 3), (117, .aload_n 1, 1), (118, .getfield 141, 3), (121, .putfield 141, 3), (124, .iconst 1, 1), (125, .ireturn, 1)] = true ∧ dOk cX5_worksWith [(113, .iload_n 3, 1), (114, .goto 7, 3), (98, .aload_n 1, 1), (99, .iload_n 3, 1), (100, .putfield 141, 3), (103, .iconst 1, 1), (104, .ireturn, 1), (139, .aload_n 1, 1), (140, .iload_n 3, 1), (141, .bipush 20, 2), (143, .idiv, 1), (144, .putfield 109, 3), (147, .aload_n 1, 1), (148, .iload_n 3, 1), (149, .bipush 20, 2), (151, .irem, 1), (152, .putfield 347, 3), (155, .aload_n 1, 1), (156, .aload_n 0, 1), (157, .invokevirtual 330, 3), (160, .putfield 350, 3), (163, .aload_n 1, 1), (164, .bipush 6, 2), (166, .putfield 94, 3)] = true ∧ dOk cX5_worksWith [(169, .iconst 0, 1), (170, .ireturn, 1), (14, .aload_n 0, 1), (15, .getfield 24, 3), (18, .getfield 323, 3), (21, .aload_n 1, 1), (22, .getfield 141, 3), (25, .iaload, 1), (26, .goto 4, 3)] = true := by decide +kernel
theorem dX5_worksWith_0 : decode cX5_worksWith 0 = .ok (.aload_n 1, 1) := dr9 dk9_dX5_worksWith_0_0.1 0 (0, .aload_n 1, 1) rfl
theorem dX5_worksWith_1 : decode cX5_worksWith 1 = .ok (.getfield 141, 3) := dr9 dk9_dX5_worksWith_0_0.1 1 (1, .getfield 141, 3) rfl
theorem dX5_worksWith_4 : decode cX5_worksWith 4 = .ok (.aload_n 0, 1) := dr9 dk9_dX5_worksWith_0_0.1 2 (4, .aload_n 0, 1) rfl
theorem dX5_worksWith_5 : decode cX5_worksWith 5 = .ok (.getfield 24, 3) := dr9 dk9_dX5_worksWith_0_0.1 3 (5, .getfield 24, 3) rfl
theorem dX5_worksWith_8 : decode cX5_worksWith 8 = .ok (.getfield 320, 3) := dr9 dk9_dX5_worksWith_0_0.1 4 (8, .getfield 320, 3) rfl
theorem dX5_worksWith_11 : decode cX5_worksWith 11 = .ok (.if_icmp .ge 18, 3) := dr9 dk9_dX5_worksWith_0_0.1 5 (11, .if_icmp .ge 18, 3) rfl
theorem dX5_worksWith_29 : decode cX5_worksWith 29 = .ok (.iconst 0, 1) := dr9 dk9_dX5_worksWith_0_0.1 6 (29, .iconst 0, 1) rfl
theorem dX5_worksWith_30 : decode cX5_worksWith 30 = .ok (.istore_n 3, 1) := dr9 dk9_dX5_worksWith_0_0.1 7 (30, .istore_n 3, 1) rfl
theorem dX5_worksWith_31 : decode cX5_worksWith 31 = .ok (.aload_n 1, 1) := dr9 dk9_dX5_worksWith_0_0.1 8 (31, .aload_n 1, 1) rfl
theorem dX5_worksWith_32 : decode cX5_worksWith 32 = .ok (.dup, 1) := dr9 dk9_dX5_worksWith_0_0.1 9 (32, .dup, 1) rfl
theorem dX5_worksWith_33 : decode cX5_worksWith 33 = .ok (.getfield 141, 3) := dr9 dk9_dX5_worksWith_0_0.1 10 (33, .getfield 141, 3) rfl
theorem dX5_worksWith_36 : decode cX5_worksWith 36 = .ok (.iconst 1, 1) := dr9 dk9_dX5_worksWith_0_0.1 11 (36, .iconst 1, 1) rfl
theorem dX5_worksWith_37 : decode cX5_worksWith 37 = .ok (.iadd, 1) := dr9 dk9_dX5_worksWith_0_0.1 12 (37, .iadd, 1) rfl
theorem dX5_worksWith_38 : decode cX5_worksWith 38 = .ok (.putfield 141, 3) := dr9 dk9_dX5_worksWith_0_0.1 13 (38, .putfield 141, 3) rfl
theorem dX5_worksWith_41 : decode cX5_worksWith 41 = .ok (.iload_n 2, 1) := dr9 dk9_dX5_worksWith_0_0.1 14 (41, .iload_n 2, 1) rfl
theorem dX5_worksWith_42 : decode cX5_worksWith 42 = .ok (.tableswitch 97 10 14 #[34, 41, 84, 63, 56], 34) := dr9 dk9_dX5_worksWith_0_0.1 15 (42, .tableswitch 97 10 14 #[34, 41, 84, 63, 56], 34) rfl
theorem dX5_worksWith_76 : decode cX5_worksWith 76 = .ok (.aload_n 0, 1) := dr9 dk9_dX5_worksWith_0_0.1 16 (76, .aload_n 0, 1) rfl
theorem dX5_worksWith_77 : decode cX5_worksWith 77 = .ok (.iload_n 3, 1) := dr9 dk9_dX5_worksWith_0_0.1 17 (77, .iload_n 3, 1) rfl
theorem dX5_worksWith_78 : decode cX5_worksWith 78 = .ok (.invokevirtual 338, 3) := dr9 dk9_dX5_worksWith_0_0.1 18 (78, .invokevirtual 338, 3) rfl
theorem dX5_worksWith_81 : decode cX5_worksWith 81 = .ok (.iconst 1, 1) := dr9 dk9_dX5_worksWith_0_0.1 19 (81, .iconst 1, 1) rfl
theorem dX5_worksWith_82 : decode cX5_worksWith 82 = .ok (.ireturn, 1) := dr9 dk9_dX5_worksWith_0_0.1 20 (82, .ireturn, 1) rfl
theorem dX5_worksWith_83 : decode cX5_worksWith 83 = .ok (.aload_n 0, 1) := dr9 dk9_dX5_worksWith_0_0.1 21 (83, .aload_n 0, 1) rfl
theorem dX5_worksWith_84 : decode cX5_worksWith 84 = .ok (.aload_n 0, 1) := dr9 dk9_dX5_worksWith_0_0.1 22 (84, .aload_n 0, 1) rfl
theorem dX5_worksWith_85 : decode cX5_worksWith 85 = .ok (.getfield 24, 3) := dr9 dk9_dX5_worksWith_0_0.1 23 (85, .getfield 24, 3) rfl
theorem dX5_worksWith_88 : decode cX5_worksWith 88 = .ok (.getfield 344, 3) := dr9 dk9_dX5_worksWith_0_0.2.1 0 (88, .getfield 344, 3) rfl
theorem dX5_worksWith_91 : decode cX5_worksWith 91 = .ok (.iload_n 3, 1) := dr9 dk9_dX5_worksWith_0_0.2.1 1 (91, .iload_n 3, 1) rfl
theorem dX5_worksWith_92 : decode cX5_worksWith 92 = .ok (.iaload, 1) := dr9 dk9_dX5_worksWith_0_0.2.1 2 (92, .iaload, 1) rfl
theorem dX5_worksWith_93 : decode cX5_worksWith 93 = .ok (.invokevirtual 338, 3) := dr9 dk9_dX5_worksWith_0_0.2.1 3 (93, .invokevirtual 338, 3) rfl
theorem dX5_worksWith_96 : decode cX5_worksWith 96 = .ok (.iconst 1, 1) := dr9 dk9_dX5_worksWith_0_0.2.1 4 (96, .iconst 1, 1) rfl
theorem dX5_worksWith_97 : decode cX5_worksWith 97 = .ok (.ireturn, 1) := dr9 dk9_dX5_worksWith_0_0.2.1 5 (97, .ireturn, 1) rfl
theorem dX5_worksWith_126 : decode cX5_worksWith 126 = .ok (.aload_n 0, 1) := dr9 dk9_dX5_worksWith_0_0.2.1 6 (126, .aload_n 0, 1) rfl
theorem dX5_worksWith_127 : decode cX5_worksWith 127 = .ok (.iconst 0, 1) := dr9 dk9_dX5_worksWith_0_0.2.1 7 (127, .iconst 0, 1) rfl
theorem dX5_worksWith_128 : decode cX5_worksWith 128 = .ok (.iload_n 3, 1) := dr9 dk9_dX5_worksWith_0_0.2.1 8 (128, .iload_n 3, 1) rfl
theorem dX5_worksWith_129 : decode cX5_worksWith 129 = .ok (.invokevirtual 169, 3) := dr9 dk9_dX5_worksWith_0_0.2.1 9 (129, .invokevirtual 169, 3) rfl
theorem dX5_worksWith_132 : decode cX5_worksWith 132 = .ok (.aload_n 0, 1) := dr9 dk9_dX5_worksWith_0_0.2.1 10 (132, .aload_n 0, 1) rfl
theorem dX5_worksWith_133 : decode cX5_worksWith 133 = .ok (.aload_n 1, 1) := dr9 dk9_dX5_worksWith_0_0.2.1 11 (133, .aload_n 1, 1) rfl
theorem dX5_worksWith_134 : decode cX5_worksWith 134 = .ok (.invokevirtual 310, 3) := dr9 dk9_dX5_worksWith_0_0.2.1 12 (134, .invokevirtual 310, 3) rfl
theorem dX5_worksWith_137 : decode cX5_worksWith 137 = .ok (.iconst 0, 1) := dr9 dk9_dX5_worksWith_0_0.2.1 13 (137, .iconst 0, 1) rfl
theorem dX5_worksWith_138 : decode cX5_worksWith 138 = .ok (.ireturn, 1) := dr9 dk9_dX5_worksWith_0_0.2.1 14 (138, .ireturn, 1) rfl
theorem dX5_worksWith_105 : decode cX5_worksWith 105 = .ok (.aload_n 1, 1) := dr9 dk9_dX5_worksWith_0_0.2.1 15 (105, .aload_n 1, 1) rfl
theorem dX5_worksWith_106 : decode cX5_worksWith 106 = .ok (.aload_n 0, 1) := dr9 dk9_dX5_worksWith_0_0.2.1 16 (106, .aload_n 0, 1) rfl
theorem dX5_worksWith_107 : decode cX5_worksWith 107 = .ok (.invokevirtual 330, 3) := dr9 dk9_dX5_worksWith_0_0.2.1 17 (107, .invokevirtual 330, 3) rfl
theorem dX5_worksWith_110 : decode cX5_worksWith 110 = .ok (.ifCond .ne 7, 3) := dr9 dk9_dX5_worksWith_0_0.2.1 18 (110, .ifCond .ne 7, 3) rfl
theorem dX5_worksWith_117 : decode cX5_worksWith 117 = .ok (.aload_n 1, 1) := dr9 dk9_dX5_worksWith_0_0.2.1 19 (117, .aload_n 1, 1) rfl
theorem dX5_worksWith_118 : decode cX5_worksWith 118 = .ok (.getfield 141, 3) := dr9 dk9_dX5_worksWith_0_0.2.1 20 (118, .getfield 141, 3) rfl
theorem dX5_worksWith_121 : decode cX5_worksWith 121 = .ok (.putfield 141, 3) := dr9 dk9_dX5_worksWith_0_0.2.1 21 (121, .putfield 141, 3) rfl
theorem dX5_worksWith_124 : decode cX5_worksWith 124 = .ok (.iconst 1, 1) := dr9 dk9_dX5_worksWith_0_0.2.1 22 (124, .iconst 1, 1) rfl
theorem dX5_worksWith_125 : decode cX5_worksWith 125 = .ok (.ireturn, 1) := dr9 dk9_dX5_worksWith_0_0.2.1 23 (125, .ireturn, 1) rfl
theorem dX5_worksWith_113 : decode cX5_worksWith 113 = .ok (.iload_n 3, 1) := dr9 dk9_dX5_worksWith_0_0.2.2.1 0 (113, .iload_n 3, 1) rfl
theorem dX5_worksWith_114 : decode cX5_worksWith 114 = .ok (.goto 7, 3) := dr9 dk9_dX5_worksWith_0_0.2.2.1 1 (114, .goto 7, 3) rfl
theorem dX5_worksWith_98 : decode cX5_worksWith 98 = .ok (.aload_n 1, 1) := dr9 dk9_dX5_worksWith_0_0.2.2.1 2 (98, .aload_n 1, 1) rfl
theorem dX5_worksWith_99 : decode cX5_worksWith 99 = .ok (.iload_n 3, 1) := dr9 dk9_dX5_worksWith_0_0.2.2.1 3 (99, .iload_n 3, 1) rfl
theorem dX5_worksWith_100 : decode cX5_worksWith 100 = .ok (.putfield 141, 3) := dr9 dk9_dX5_worksWith_0_0.2.2.1 4 (100, .putfield 141, 3) rfl
theorem dX5_worksWith_103 : decode cX5_worksWith 103 = .ok (.iconst 1, 1) := dr9 dk9_dX5_worksWith_0_0.2.2.1 5 (103, .iconst 1, 1) rfl
theorem dX5_worksWith_104 : decode cX5_worksWith 104 = .ok (.ireturn, 1) := dr9 dk9_dX5_worksWith_0_0.2.2.1 6 (104, .ireturn, 1) rfl
theorem dX5_worksWith_139 : decode cX5_worksWith 139 = .ok (.aload_n 1, 1) := dr9 dk9_dX5_worksWith_0_0.2.2.1 7 (139, .aload_n 1, 1) rfl
theorem dX5_worksWith_140 : decode cX5_worksWith 140 = .ok (.iload_n 3, 1) := dr9 dk9_dX5_worksWith_0_0.2.2.1 8 (140, .iload_n 3, 1) rfl
theorem dX5_worksWith_141 : decode cX5_worksWith 141 = .ok (.bipush 20, 2) := dr9 dk9_dX5_worksWith_0_0.2.2.1 9 (141, .bipush 20, 2) rfl
theorem dX5_worksWith_143 : decode cX5_worksWith 143 = .ok (.idiv, 1) := dr9 dk9_dX5_worksWith_0_0.2.2.1 10 (143, .idiv, 1) rfl
theorem dX5_worksWith_144 : decode cX5_worksWith 144 = .ok (.putfield 109, 3) := dr9 dk9_dX5_worksWith_0_0.2.2.1 11 (144, .putfield 109, 3) rfl
theorem dX5_worksWith_147 : decode cX5_worksWith 147 = .ok (.aload_n 1, 1) := dr9 dk9_dX5_worksWith_0_0.2.2.1 12 (147, .aload_n 1, 1) rfl
theorem dX5_worksWith_148 : decode cX5_worksWith 148 = .ok (.iload_n 3, 1) := dr9 dk9_dX5_worksWith_0_0.2.2.1 13 (148, .iload_n 3, 1) rfl
theorem dX5_worksWith_149 : decode cX5_worksWith 149 = .ok (.bipush 20, 2) := dr9 dk9_dX5_worksWith_0_0.2.2.1 14 (149, .bipush 20, 2) rfl
theorem dX5_worksWith_151 : decode cX5_worksWith 151 = .ok (.irem, 1) := dr9 dk9_dX5_worksWith_0_0.2.2.1 15 (151, .irem, 1) rfl
theorem dX5_worksWith_152 : decode cX5_worksWith 152 = .ok (.putfield 347, 3) := dr9 dk9_dX5_worksWith_0_0.2.2.1 16 (152, .putfield 347, 3) rfl
theorem dX5_worksWith_155 : decode cX5_worksWith 155 = .ok (.aload_n 1, 1) := dr9 dk9_dX5_worksWith_0_0.2.2.1 17 (155, .aload_n 1, 1) rfl
theorem dX5_worksWith_156 : decode cX5_worksWith 156 = .ok (.aload_n 0, 1) := dr9 dk9_dX5_worksWith_0_0.2.2.1 18 (156, .aload_n 0, 1) rfl
theorem dX5_worksWith_157 : decode cX5_worksWith 157 = .ok (.invokevirtual 330, 3) := dr9 dk9_dX5_worksWith_0_0.2.2.1 19 (157, .invokevirtual 330, 3) rfl
theorem dX5_worksWith_160 : decode cX5_worksWith 160 = .ok (.putfield 350, 3) := dr9 dk9_dX5_worksWith_0_0.2.2.1 20 (160, .putfield 350, 3) rfl
theorem dX5_worksWith_163 : decode cX5_worksWith 163 = .ok (.aload_n 1, 1) := dr9 dk9_dX5_worksWith_0_0.2.2.1 21 (163, .aload_n 1, 1) rfl
theorem dX5_worksWith_164 : decode cX5_worksWith 164 = .ok (.bipush 6, 2) := dr9 dk9_dX5_worksWith_0_0.2.2.1 22 (164, .bipush 6, 2) rfl
theorem dX5_worksWith_166 : decode cX5_worksWith 166 = .ok (.putfield 94, 3) := dr9 dk9_dX5_worksWith_0_0.2.2.1 23 (166, .putfield 94, 3) rfl
theorem dX5_worksWith_169 : decode cX5_worksWith 169 = .ok (.iconst 0, 1) := dr9 dk9_dX5_worksWith_0_0.2.2.2 0 (169, .iconst 0, 1) rfl
theorem dX5_worksWith_170 : decode cX5_worksWith 170 = .ok (.ireturn, 1) := dr9 dk9_dX5_worksWith_0_0.2.2.2 1 (170, .ireturn, 1) rfl
theorem dX5_worksWith_14 : decode cX5_worksWith 14 = .ok (.aload_n 0, 1) := dr9 dk9_dX5_worksWith_0_0.2.2.2 2 (14, .aload_n 0, 1) rfl
theorem dX5_worksWith_15 : decode cX5_worksWith 15 = .ok (.getfield 24, 3) := dr9 dk9_dX5_worksWith_0_0.2.2.2 3 (15, .getfield 24, 3) rfl
theorem dX5_worksWith_18 : decode cX5_worksWith 18 = .ok (.getfield 323, 3) := dr9 dk9_dX5_worksWith_0_0.2.2.2 4 (18, .getfield 323, 3) rfl
theorem dX5_worksWith_21 : decode cX5_worksWith 21 = .ok (.aload_n 1, 1) := dr9 dk9_dX5_worksWith_0_0.2.2.2 5 (21, .aload_n 1, 1) rfl
theorem dX5_worksWith_22 : decode cX5_worksWith 22 = .ok (.getfield 141, 3) := dr9 dk9_dX5_worksWith_0_0.2.2.2 6 (22, .getfield 141, 3) rfl
theorem dX5_worksWith_25 : decode cX5_worksWith 25 = .ok (.iaload, 1) := dr9 dk9_dX5_worksWith_0_0.2.2.2 7 (25, .iaload, 1) rfl
theorem dX5_worksWith_26 : decode cX5_worksWith 26 = .ok (.goto 4, 3) := dr9 dk9_dX5_worksWith_0_0.2.2.2 8 (26, .goto 4, 3) rfl
abbrev r_x_endWork2 : Room := { frames := 1, cells := 0, slots := 0, locals := 20 }
abbrev q_x_endWork2 (D : va_G) (ks : KS) (ad : Nat → Nat) (kk : Nat → ClassId) (V : Vf) (L : Lf) (Z : XZ) (b : Nat) (gf : Nat) (A : Nat → Prop) : Array Value → State → Outcome → State → Prop := va_Qv (fun (u : Vf × Lf) => rgd bX u.1 ∧ agr [(5, 6), (5, 7)] [] V u.1 ∧ u.2 = L ∧ (MJ u.1 Z b)) (fun u t => gq D A (xw ad kk u.1 u.2 Z) (xty kk Z) t) A
set_option maxHeartbeats 4000000 in
set_option maxRecDepth 100000 in
theorem x_endWork2 (l : Launch) (D : va_G) (ks : KS) (sz : Nat) (ad : Nat → Nat) (kk : Nat → ClassId) (V : Vf) (L : Lf) (Z : XZ) (b : Nat) (gf : Nat) (hMV : rgd bX V) (hb2 : b < 2) (hgf : gf < Z.nf) (mo : MO V Z b gf True False True) (gd : (gf : Int) + 1 = (V 5 6).toInt) (gk : (V 67 gf).toInt = 4)  : Met l yX5_endWork (Cond.code yX5_endWork cX5_endWork 2 none :: GW) r_x_endWork2 (va_Pc [.ref (ad 5), .ref (Z.fa gf)] (gp D ks (xw ad kk V L Z) (xty kk Z) sz)) (q_x_endWork2 D ks ad kk V L Z  b gf (va_A (xw ad kk V L Z) sz)) 0 0 (va_A (xw ad kk V L Z) sz) := by
  refine g_met (q_x_endWork2 D ks ad kk V L Z  b gf) (by decide) (Nat.le_of_ble_eq_true rfl) ?_
  intro p e s m below meth c A ls H locs hx hb hr hml hown hg hlocks hin hnw hgk hP hK hD hS hA hl
  have hown : s.vm.findClass RX5 = some m.cls := hown
  have hl : lv_has ls 2 [(0, .ref (ad 5)), (1, .ref (Z.fa gf))] := hl
  have hP : va_P D vwCl (xw ad kk V L Z) H := hP
  have hD : va_D A (xw ad kk V L Z) := hD
  have hK : va_K D vwCl (xty kk Z) s := hK
  have agV : agr [(5, 6), (5, 7)] [] V V := agr.rf
  have r1 : 0 ≤ ((V 5 6)).toInt ∧ ((V 5 6)).toInt ≤ 400 := hMV 5 6
  have kdp := i_clamp (x := V 5 6) rfl (by (first | exact om_c66f1b494bd9 gd | omega))
  have hdn : (gf : Int) + 1 ≤ (Z.nf : Int) := by (first | exact om_29efded833ec hgf | omega)
  have mup := MO.up mo
  have msz := mup.1
  have mbk := mup.2.2.2.1
  obtain ⟨xk, fk⟩ := MO.fk mo
  have r2 : (-1) ≤ ((V 71 gf)).toInt ∧ ((V 71 gf)).toInt ≤ 23 := hMV 71 gf
  have r3 : 0 ≤ ((V 75 gf)).toInt ∧ ((V 75 gf)).toInt ≤ 12 := hMV 75 gf
  have r4 : 0 ≤ ((V 80 gf)).toInt ∧ ((V 80 gf)).toInt ≤ 300 := hMV 80 gf
  have r5 : 0 ≤ ((V 84 gf)).toInt ∧ ((V 84 gf)).toInt ≤ 2147483647 := hMV 84 gf
  have r6 : 0 ≤ ((V 5 8)).toInt ∧ ((V 5 8)).toInt ≤ 300 := hMV 5 8
  have r7 : 0 ≤ ((V 5 9)).toInt ∧ ((V 5 9)).toInt ≤ 3 := hMV 5 9
  have r8 : 0 ≤ ((V 3 13)).toInt ∧ ((V 3 13)).toInt ≤ 300 := hMV 3 13
  have r9 : 0 ≤ ((V 43 (5 * b + 2))).toInt ∧ ((V 43 (5 * b + 2))).toInt ≤ ((xcap (5 * b + 2) : Nat) : Int) := hMV 43 (5 * b + 2)
  have r10 : xcap (5 * b + 2) = 24 := xcap_2
  have r11 : 0 ≤ ((V 41 b)).toInt ∧ ((V 41 b)).toInt ≤ 12 := hMV 41 b
  have r12 : 0 ≤ ((V 42 b)).toInt ∧ ((V 42 b)).toInt ≤ 8200 := hMV 42 b
  have fc := fk.1 (by omega)
  have fo := fk.2.1 (by omega) (by omega)
  have ft := fk.2.2.1 (by omega)
  have fq := fk.2.2.2.1 (by omega)
  refine lv_aload_n hx hb dX5_endWork_0 rfl (lv_at hl 0 rfl) ?_
  refine lv_aload_n hx hb dX5_endWork_1 rfl (lv_at hl 1 rfl) ?_
  refine va_getN (D := D) (ci := 4) (v := .int (V 85 gf)) (fs := (xfFrame V gf)) (C := RX4) (T := TX4) (N := 19) hx hb hg inX4 hown hK hP (336 + gf) (xgFrame hgf) rfl 18 (by decide) (hnw.use 1207 n1207 rfl) (fun _ h9 => h9) rfl dX5_endWork_2 ?_
  have r13 : 0 ≤ ((V 85 gf)).toInt ∧ ((V 85 gf)).toInt ≤ 2048 := hMV 85 gf
  refine va_put (D := D) (ci := 5) (v := .int (V 85 gf)) (ty := tyX5 7) (fs := (xfMachine ad V L Z)) (C := RX5) (T := TX5) (N := 15) hx hb hg inX5 tyX5 tyX5_ok nmX5 hown hK hP hD hS 5 xgMachine rfl 7 (by decide) (hg _ w674) (fun _ h9 => h9) rfl (tyX5_ok 7 (by decide)) rfl rfl (Nat.le_of_ble_eq_true rfl) dX5_endWork_5 (fun H locs hP hD hS => ?_)
  obtain ⟨V14, hV14⟩ : ∃ z, z = up2 V 5 7 (V 85 gf) := ⟨_, rfl⟩
  have ew15 : (xw ad kk V L Z).set 5 ((ad 5), .inr (5, (xfMachine ad V L Z).set 7 (.int (V 85 gf)))) = xw ad kk V14 L Z := by rw [hV14]; exact xw_ss (by decide) rfl (xb_si (by decide))
  have hP : va_P D vwCl (xw ad kk V14 L Z) H := by rw [← ew15]; exact hP
  have hD : va_D A (xw ad kk V14 L Z) := by rw [← ew15]; exact hD
  have hMV14 : rgd bX V14 := hMV.put hV14 (show 0 ≤ ((V 85 gf)).toInt ∧ ((V 85 gf)).toInt ≤ 2048 from by first | exact om_01b7a0d43c7e r13.1 r13.2 | first | omega | ((try (have i_mo := Imp.go mo (by omega))); omega))
  have agV14 : agr [(5, 6), (5, 7)] [] V V14 := agV.up hV14 rfl
  refine lv_aload_n hx hb dX5_endWork_8 rfl (lv_at hl 0 rfl) ?_
  have pq16 : (V14 5 6).toInt = ((V 5 6)).toInt := congrArg Int32.toInt (up2_k hV14 (by decide))
  refine gA_void (gA_runV (As := []) (rest := []) (ci := 5) (q0 := 5) hx hb hml hown hg hP hD hK hS hA hnw hgk (x_leave l D ks H.size ad kk V14 L Z  hMV14 (show 1 ≤ (V14 5 6).toInt from by first | exact om_0cac171fa40c gd pq16 | first | omega | ((try (have i_mo := Imp.go mo (by omega))); omega))) w1308 w1310 w50 w171 w1311 rfl xgMachine hdV_yX5_leave ⟨Nat.le_of_ble_eq_true rfl, Nat.le_of_ble_eq_true rfl⟩ rfl hl.1 rfl (Nat.le_of_ble_eq_true rfl) dX5_endWork_9 ⟨Nat.le_of_ble_eq_true rfl, Nat.le_of_ble_eq_true rfl⟩) hP hD hK hS hA (fun u18 H locs w19 hP hD hK hS => ?_)
  obtain ⟨V21, L22⟩ := u18
  obtain ⟨hMV21, ajV21, axL22, t20⟩ := w19
  have axL22 : L = L22 := Eq.symm axL22
  subst axL22
  have hP : va_P D vwCl (xw ad kk V21 L Z) H := hP
  have hD : va_D A (xw ad kk V21 L Z) := hD
  have hMV21 : rgd bX V21 := hMV21
  have ajV21 : agr [(5, 6)] [] V14 V21 := ajV21
  have agV21 : agr [(5, 6), (5, 7)] [] V V21 := agV14.tr ajV21 (by decide) (by decide)
  have t20 : (V21 5 6).toInt = (V14 5 6).toInt - 1 := t20
  have r23 : 0 ≤ ((V21 5 6)).toInt ∧ ((V21 5 6)).toInt ≤ 400 := hMV21 5 6
  have me24 : ME V V21 gf := (ME.tr (ME.up ME.rf hV14 (Or.inr (by omega))) (ME.ag ajV21 (by decide)))
  have pq25 : (V21 67 gf).toInt = ((V 67 gf)).toInt := congrArg Int32.toInt ((ajV21 67 gf rfl).trans (up2_o hV14 (by decide)))
  have pq26 : (V21 68 gf).toInt = ((V 68 gf)).toInt := congrArg Int32.toInt ((ajV21 68 gf rfl).trans (up2_o hV14 (by decide)))
  have pq27 : (V21 70 gf).toInt = ((V 70 gf)).toInt := congrArg Int32.toInt ((ajV21 70 gf rfl).trans (up2_o hV14 (by decide)))
  have pq28 : (V21 71 gf).toInt = ((V 71 gf)).toInt := congrArg Int32.toInt ((ajV21 71 gf rfl).trans (up2_o hV14 (by decide)))
  have pq29 : (V21 75 gf).toInt = ((V 75 gf)).toInt := congrArg Int32.toInt ((ajV21 75 gf rfl).trans (up2_o hV14 (by decide)))
  have pq30 : (V21 76 gf).toInt = ((V 76 gf)).toInt := congrArg Int32.toInt ((ajV21 76 gf rfl).trans (up2_o hV14 (by decide)))
  have pq31 : (V21 80 gf).toInt = ((V 80 gf)).toInt := congrArg Int32.toInt ((ajV21 80 gf rfl).trans (up2_o hV14 (by decide)))
  have pq32 : (V21 84 gf).toInt = ((V 84 gf)).toInt := congrArg Int32.toInt ((ajV21 84 gf rfl).trans (up2_o hV14 (by decide)))
  have pq33 : (V21 5 8).toInt = ((V 5 8)).toInt := congrArg Int32.toInt ((ajV21 5 8 rfl).trans (up2_k hV14 (by decide)))
  have pq34 : (V21 5 9).toInt = ((V 5 9)).toInt := congrArg Int32.toInt ((ajV21 5 9 rfl).trans (up2_k hV14 (by decide)))
  have pq35 : (V21 3 13).toInt = ((V 3 13)).toInt := congrArg Int32.toInt ((ajV21 3 13 rfl).trans (up2_o hV14 (by decide)))
  have pq36 : (V21 43 (5 * b + 2)).toInt = ((V 43 (5 * b + 2))).toInt := congrArg Int32.toInt ((ajV21 43 (5 * b + 2) rfl).trans (up2_o hV14 (by decide)))
  have pq37 : (V21 42 b).toInt = ((V 42 b)).toInt := congrArg Int32.toInt ((ajV21 42 b rfl).trans (up2_o hV14 (by decide)))
  have pq38 : (V21 41 b).toInt = ((V 41 b)).toInt := congrArg Int32.toInt ((ajV21 41 b rfl).trans (up2_o hV14 (by decide)))
  have rp39 : MJ V21 Z b := MP.lv (MO.mp mo) me24 (by (first | exact om_5ac7632c8ef3 gd pq16 t20 | omega)) (fun _ => Or.inl (by omega))
  exact W.vret hx hb hr (fun t ht hW => ⟨⟨(V21, L), rfl, ⟨hMV21, agV21, rfl, rp39⟩, by rw [ht]; exact hP, va_K.moved hW.alike hK, hD⟩, hS.F ht⟩) hS.2.2 dX5_endWork_12
abbrev r_x_worksWith : Room := { frames := 2, cells := 0, slots := 0, locals := 41 }
abbrev q_x_worksWith (D : va_G) (ks : KS) (ad : Nat → Nat) (kk : Nat → ClassId) (V : Vf) (L : Lf) (Z : XZ) (p1 : Int32) (b : Nat) (gf : Nat) (A : Nat → Prop) : Array Value → State → Outcome → State → Prop := va_Qi (fun (r : Int32) (u : Vf × Lf) => rgd bX u.1 ∧ agr [(5, 6), (5, 7), (5, 9), (5, 11), (5, 12)] [39, 68, 75, 77, 78, 84] V u.1 ∧ u.2 = L ∧ (0 ≤ r.toInt ∧ r.toInt ≤ 1) ∧ (Imp (r.toInt = 1) (MO u.1 Z b gf True True True)) ∧ (Imp (r.toInt = 0) (MJ u.1 Z b)) ∧ (Imp (r.toInt = 1) ((u.1 5 6).toInt = (V 5 6).toInt ∧ (u.1 67 gf).toInt = 4 ∧ (u.1 68 gf).toInt = 0))) (fun u t => gq D A (xw ad kk u.1 u.2 Z) (xty kk Z) t) A
set_option maxHeartbeats 4000000 in
set_option maxRecDepth 100000 in
theorem x_worksWith (l : Launch) (D : va_G) (ks : KS) (sz : Nat) (ad : Nat → Nat) (kk : Nat → ClassId) (V : Vf) (L : Lf) (Z : XZ) (p1 : Int32) (b : Nat) (gf : Nat) (hMV : rgd bX V) (rg_p1 : 10 ≤ p1.toInt ∧ p1.toInt ≤ 15) (hb2 : b < 2) (hgf : gf < Z.nf) (moa : MOa V Z b gf) (gd : (gf : Int) + 1 = (V 5 6).toInt) (gk : (V 67 gf).toInt = 4) (gph : (V 68 gf).toInt = 0) (hal : (V 84 gf).toInt ≤ 8200) (hop : ∀ a : Nat, (a : Int) = (V 84 gf).toInt → (a : Int) < (V 42 b).toInt → okO V b p1.toInt (V 48 (8200 * b + a)).toInt ∧ (bdp V b (a + 1)).1 = true)  : Met l yX5_worksWith (Cond.code yX5_worksWith cX5_worksWith 4 (some .boolean) :: GW) r_x_worksWith (va_Pc [.ref (ad 5), .ref (Z.fa gf), .int p1] (gp D ks (xw ad kk V L Z) (xty kk Z) sz)) (q_x_worksWith D ks ad kk V L Z p1 b gf (va_A (xw ad kk V L Z) sz)) 0 0 (va_A (xw ad kk V L Z) sz) := by
  refine g_met (q_x_worksWith D ks ad kk V L Z p1 b gf) (by decide) (Nat.le_of_ble_eq_true rfl) ?_
  intro p e s m below meth c A ls H locs hx hb hr hml hown hg hlocks hin hnw hgk hP hK hD hS hA hl
  have hown : s.vm.findClass RX5 = some m.cls := hown
  have hl : lv_has ls 4 [(0, .ref (ad 5)), (1, .ref (Z.fa gf)), (2, .int p1)] := hl
  have hP : va_P D vwCl (xw ad kk V L Z) H := hP
  have hD : va_D A (xw ad kk V L Z) := hD
  have hK : va_K D vwCl (xty kk Z) s := hK
  have agV : agr [(5, 6), (5, 7), (5, 9), (5, 11), (5, 12)] [39, 68, 75, 77, 78, 84] V V := agr.rf
  have r1 : 0 ≤ ((V 5 6)).toInt ∧ ((V 5 6)).toInt ≤ 400 := hMV 5 6
  have r2 : 0 ≤ ((V 84 gf)).toInt ∧ ((V 84 gf)).toInt ≤ 2147483647 := hMV 84 gf
  have kdp := i_clamp (x := V 5 6) rfl (by (first | exact om_c66f1b494bd9 gd | omega))
  have hdn : (gf : Int) + 1 ≤ (Z.nf : Int) := by (first | exact om_29efded833ec hgf | omega)
  obtain ⟨Va, hVa⟩ : ∃ z, z = up2 V 84 gf 2147483647 := ⟨_, rfl⟩
  have mo : MO Va Z b gf True True True := by rw [hVa]; exact moa
  have hVV : V = up2 Va 84 gf (V 84 gf) := by rw [hVa]; exact up2_back.symm
  have mV : ME Va V gf := ME.up ME.rf hVV (Or.inl ⟨by decide, by decide, Nat.le_refl _⟩)
  have ea67 : Va 67 gf = V 67 gf := by rw [hVa]; exact up2_pl (by omega)
  have eb67 := congrArg Int32.toInt ea67
  have ea68 : Va 68 gf = V 68 gf := by rw [hVa]; exact up2_pl (by omega)
  have eb68 := congrArg Int32.toInt ea68
  have ea70 : Va 70 gf = V 70 gf := by rw [hVa]; exact up2_pl (by omega)
  have eb70 := congrArg Int32.toInt ea70
  have ea71 : Va 71 gf = V 71 gf := by rw [hVa]; exact up2_pl (by omega)
  have eb71 := congrArg Int32.toInt ea71
  have ea75 : Va 75 gf = V 75 gf := by rw [hVa]; exact up2_pl (by omega)
  have eb75 := congrArg Int32.toInt ea75
  have ea76 : Va 76 gf = V 76 gf := by rw [hVa]; exact up2_pl (by omega)
  have eb76 := congrArg Int32.toInt ea76
  have ea80 : Va 80 gf = V 80 gf := by rw [hVa]; exact up2_pl (by omega)
  have eb80 := congrArg Int32.toInt ea80
  have ea43 : Va 43 (5 * b + 2) = V 43 (5 * b + 2) := by rw [hVa]; exact up2_pl (by omega)
  have eb43 := congrArg Int32.toInt ea43
  have ea42 : Va 42 b = V 42 b := by rw [hVa]; exact up2_pl (by omega)
  have eb42 := congrArg Int32.toInt ea42
  have ea41 : Va 41 b = V 41 b := by rw [hVa]; exact up2_pl (by omega)
  have eb41 := congrArg Int32.toInt ea41
  have ea3 : Va 3 13 = V 3 13 := by rw [hVa]; exact up2_pl (by omega)
  have eb3 := congrArg Int32.toInt ea3
  have ea5 : Va 5 8 = V 5 8 := by rw [hVa]; exact up2_pl (by omega)
  have eb5 := congrArg Int32.toInt ea5
  have mup := MO.upm mo mV
  have msz := mup.1
  have mbk := mup.2.2.2.1
  obtain ⟨xk, fk⟩ := MO.fk mo
  have r3 : (-1) ≤ ((V 71 gf)).toInt ∧ ((V 71 gf)).toInt ≤ 23 := hMV 71 gf
  have r4 : 0 ≤ ((V 75 gf)).toInt ∧ ((V 75 gf)).toInt ≤ 12 := hMV 75 gf
  have r5 : 0 ≤ ((V 80 gf)).toInt ∧ ((V 80 gf)).toInt ≤ 300 := hMV 80 gf
  have r6 : 0 ≤ ((V 5 8)).toInt ∧ ((V 5 8)).toInt ≤ 300 := hMV 5 8
  have r7 : 0 ≤ ((V 5 9)).toInt ∧ ((V 5 9)).toInt ≤ 3 := hMV 5 9
  have r8 : 0 ≤ ((V 3 13)).toInt ∧ ((V 3 13)).toInt ≤ 300 := hMV 3 13
  have r9 : 0 ≤ ((V 43 (5 * b + 2))).toInt ∧ ((V 43 (5 * b + 2))).toInt ≤ ((xcap (5 * b + 2) : Nat) : Int) := hMV 43 (5 * b + 2)
  have r10 : xcap (5 * b + 2) = 24 := xcap_2
  have r11 : 0 ≤ ((V 41 b)).toInt ∧ ((V 41 b)).toInt ≤ 12 := hMV 41 b
  have r12 : 0 ≤ ((V 42 b)).toInt ∧ ((V 42 b)).toInt ≤ 8200 := hMV 42 b
  have fc := fk.1 (by omega)
  have fo := fk.2.1 (by omega) (by omega)
  refine lv_aload_n hx hb dX5_worksWith_0 rfl (lv_at hl 1 rfl) ?_
  refine va_getN (D := D) (ci := 4) (v := .int (V 84 gf)) (fs := (xfFrame V gf)) (C := RX4) (T := TX4) (N := 19) hx hb hg inX4 hown hK hP (336 + gf) (xgFrame hgf) rfl 17 (by decide) (hnw.use 1206 n1206 rfl) (fun _ h9 => h9) rfl dX5_worksWith_1 ?_
  refine lv_aload_n hx hb dX5_worksWith_4 rfl (lv_at hl 0 rfl) ?_
  refine va_get (D := D) (ci := 5) (v := .ref (ad (38 + Int32.toNatClampNeg (V 5 5)))) (fs := (xfMachine ad V L Z)) (C := RX5) (T := TX5) (N := 15) hx hb hg inX5 hown hK hP 5 xgMachine rfl 5 (by decide) (hg _ w672) (fun _ h9 => h9) rfl dX5_worksWith_5 ?_
  have r13 : 0 ≤ ((V 5 5)).toInt ∧ ((V 5 5)).toInt ≤ 1 := hMV 5 5
  refine g_topv (v := .ref (ad (38 + b))) (rfP (by first | omega | ((try (have i_hop := Imp.go hop (by omega))); (try (have i_moa := Imp.go moa (by omega))); (try (have i_moa := Imp.go moa (by omega))); (try (have i_hop := Imp.go hop (by omega))); omega))) ?_
  refine va_getN (D := D) (ci := 0) (v := .int (V 42 b)) (fs := (xfBook ad V b)) (C := RX0) (T := TX0) (N := 13) hx hb hg inX0 hown hK hP (38 + b) (xgBook hb2) rfl 12 (by decide) (hnw.use 631 n631 rfl) (fun _ h9 => h9) rfl dX5_worksWith_8 ?_
  refine lv_icmp_ge (tgt := 29) hx hb dX5_worksWith_11 (by decide) (fun c14 => ?_) (fun c14 => ?_)
  · skip
    have f15 : ((V 42 b)).toInt ≤ ((V 84 gf)).toInt := b_le rfl rfl c14
    refine lv_iconst (v := 0) hx hb dX5_worksWith_29 (by decide) ?_
    refine lv_istore_n (lv' := [(3, .int 0), (0, .ref (ad 5)), (1, .ref (Z.fa gf)), (2, .int p1)]) hx hb dX5_worksWith_30 rfl hl (by decide) rfl (fun ls hl => ?_)
    refine lv_aload_n hx hb dX5_worksWith_31 rfl (lv_at hl 2 rfl) ?_
    refine lv_dup hx hb dX5_worksWith_32 rfl ?_
    refine va_getN (D := D) (ci := 4) (v := .int (V 84 gf)) (fs := (xfFrame V gf)) (C := RX4) (T := TX4) (N := 19) hx hb hg inX4 hown hK hP (336 + gf) (xgFrame hgf) rfl 17 (by decide) (hnw.use 1206 n1206 rfl) (fun _ h9 => h9) rfl dX5_worksWith_33 ?_
    refine lv_iconst (v := 1) hx hb dX5_worksWith_36 (by decide) ?_
    refine lv_iadd hx hb dX5_worksWith_37 ?_
    have r16 := i_full (V 84 gf)
    refine lv_topi (fun z17 ez17 => ?_)
    have hz17 : Imp (-2147483648 ≤ ((V 84 gf)).toInt + 1 ∧ ((V 84 gf)).toInt + 1 ≤ 2147483647) (z17.toInt = ((V 84 gf)).toInt + 1) := Imp.mk (fun hp => i_add ez17 rfl (by decide) hp)
    refine va_putN (D := D) (ci := 4) (v := .int z17) (ty := tyX4 17) (fs := (xfFrame V gf)) (C := RX4) (T := TX4) (N := 19) hx hb hg inX4 tyX4 tyX4_ok nmX4 hown hK hP hD hS (336 + gf) (xgFrame hgf) rfl 17 (by decide) (hnw.use 1206 n1206 rfl) (fun _ h9 => h9) rfl (tyX4_ok 17 (by decide)) rfl rfl (Nat.le_of_ble_eq_true rfl) dX5_worksWith_38 (fun H locs hP hD hS => ?_)
    obtain ⟨V18, hV18⟩ : ∃ z, z = up2 V 84 gf z17 := ⟨_, rfl⟩
    have ew19 : (xw ad kk V L Z).set (336 + gf) ((Z.fa gf), .inr (4, (xfFrame V gf).set 17 (.int z17))) = xw ad kk V18 L Z := by rw [hV18]; exact xpFrame_at hgf
    have hP : va_P D vwCl (xw ad kk V18 L Z) H := by rw [← ew19]; exact hP
    have hD : va_D A (xw ad kk V18 L Z) := by rw [← ew19]; exact hD
    have hMV18 : rgd bX V18 := hMV.put hV18 (show 0 ≤ z17.toInt ∧ z17.toInt ≤ 2147483647 from by first | exact om_467c24003592 hal r2.1 ((Imp.go hz17 (om_4b97ac17116b hal r2.1))) | first | omega | ((try (have i_hz17 := Imp.go hz17 (by omega))); (try (have i_hop := Imp.go hop (by omega))); (try (have i_moa := Imp.go moa (by omega))); (try (have i_moa := Imp.go moa (by omega))); (try (have i_hop := Imp.go hop (by omega))); (try (have i_hz17 := Imp.go hz17 (by omega))); omega))
    have agV18 : agr [(5, 6), (5, 7), (5, 9), (5, 11), (5, 12)] [39, 68, 75, 77, 78, 84] V V18 := agV.up hV18 rfl
    have atn : (V 42 b).toInt ≤ z17.toInt ∨ (bdp V b z17.toInt.toNat).1 = true := Or.inl (by first | omega | ((try (have i_hz17 := Imp.go hz17 (by omega))); (try (have i_hop := Imp.go hop (by omega))); (try (have i_moa := Imp.go moa (by omega))); (try (have i_moa := Imp.go moa (by omega))); (try (have i_hop := Imp.go hop (by omega))); (try (have i_hz17 := Imp.go hz17 (by omega))); omega))
    have at0 : (V 42 b).toInt ≤ Int32.toInt 0 ∨ (bdp V b (Int32.toInt 0).toNat).1 = true := Or.inr rfl
    refine lv_iload_n hx hb dX5_worksWith_41 rfl (lv_at hl 3 rfl) ?_
    by_cases q20 : p1 = 10
    · refine g_top (v := 10) q20 ?_
      have fq20 : p1.toInt = 10 := b_eq rfl (by decide) q20
      refine lv_tableIn (x := 10) (off := 34) (tgt := 76) hx hb dX5_worksWith_42 (by decide) (by decide) (by decide) (by decide) ?_
      refine lv_aload_n hx hb dX5_worksWith_76 rfl (lv_at hl 1 rfl) ?_
      refine lv_iload_n hx hb dX5_worksWith_77 rfl (lv_at hl 0 rfl) ?_
      have r21 : Int32.toInt 0 = 0 := by decide
      refine gA_void (gA_runV (As := [.int 0]) (rest := []) (ci := 5) (q0 := 5) hx hb hml hown hg hP hD hK hS hA hnw hgk (x_mput l D ks H.size ad kk V18 L Z 0 hMV18 ) w1466 w1468 w72 w171 w1469 rfl xgMachine hdV_yX5_put ⟨Nat.le_of_ble_eq_true rfl, Nat.le_of_ble_eq_true rfl⟩ rfl hl.1 rfl (Nat.le_of_ble_eq_true rfl) dX5_worksWith_78 ⟨Nat.le_of_ble_eq_true rfl, Nat.le_of_ble_eq_true rfl⟩) hP hD hK hS hA (fun u23 H locs w24 hP hD hK hS => ?_)
      obtain ⟨V25, L26⟩ := u23
      obtain ⟨hMV25, ajV25, axL26⟩ := w24
      have axL26 : L = L26 := Eq.symm axL26
      subst axL26
      have hP : va_P D vwCl (xw ad kk V25 L Z) H := hP
      have hD : va_D A (xw ad kk V25 L Z) := hD
      have hMV25 : rgd bX V25 := hMV25
      have ajV25 : agr [(5, 7)] [39] V18 V25 := ajV25
      have agV25 : agr [(5, 6), (5, 7), (5, 9), (5, 11), (5, 12)] [39, 68, 75, 77, 78, 84] V V25 := agV18.tr ajV25 (by decide) (by decide)
      refine lv_iconst (v := 1) hx hb dX5_worksWith_81 (by decide) ?_
      have pq27 : (V25 5 6).toInt = ((V 5 6)).toInt := congrArg Int32.toInt ((ajV25 5 6 rfl).trans (up2_o hV18 (by decide)))
      have pq28 : (V25 67 gf).toInt = ((V 67 gf)).toInt := congrArg Int32.toInt ((ajV25 67 gf rfl).trans (up2_o hV18 (by decide)))
      have pq29 : (V25 68 gf).toInt = ((V 68 gf)).toInt := congrArg Int32.toInt ((ajV25 68 gf rfl).trans (up2_o hV18 (by decide)))
      have me30 : ME Va V25 gf := (ME.tr (ME.up mV hV18 (Or.inl ⟨by decide, by decide, Nat.le_refl _⟩)) (ME.ag ajV25 (by decide)))
      have pq31 : (V25 70 gf).toInt = ((V 70 gf)).toInt := congrArg Int32.toInt ((ajV25 70 gf rfl).trans (up2_o hV18 (by decide)))
      have pq32 : (V25 71 gf).toInt = ((V 71 gf)).toInt := congrArg Int32.toInt ((ajV25 71 gf rfl).trans (up2_o hV18 (by decide)))
      have pq33 : (V25 75 gf).toInt = ((V 75 gf)).toInt := congrArg Int32.toInt ((ajV25 75 gf rfl).trans (up2_o hV18 (by decide)))
      have pq34 : (V25 76 gf).toInt = ((V 76 gf)).toInt := congrArg Int32.toInt ((ajV25 76 gf rfl).trans (up2_o hV18 (by decide)))
      have pq35 : (V25 80 gf).toInt = ((V 80 gf)).toInt := congrArg Int32.toInt ((ajV25 80 gf rfl).trans (up2_o hV18 (by decide)))
      have pq36 : (V25 84 gf).toInt = z17.toInt := congrArg Int32.toInt ((ajV25 84 gf rfl).trans (up2_s hV18))
      have pq37 : (V25 5 8).toInt = ((V 5 8)).toInt := congrArg Int32.toInt ((ajV25 5 8 rfl).trans (up2_o hV18 (by decide)))
      have pq38 : (V25 5 9).toInt = ((V 5 9)).toInt := congrArg Int32.toInt ((ajV25 5 9 rfl).trans (up2_o hV18 (by decide)))
      have pq39 : (V25 3 13).toInt = ((V 3 13)).toInt := congrArg Int32.toInt ((ajV25 3 13 rfl).trans (up2_o hV18 (by decide)))
      have pq40 : (V25 43 (5 * b + 2)).toInt = ((V 43 (5 * b + 2))).toInt := congrArg Int32.toInt ((ajV25 43 (5 * b + 2) rfl).trans (up2_o hV18 (by decide)))
      have pq41 : (V25 42 b).toInt = ((V 42 b)).toInt := congrArg Int32.toInt ((ajV25 42 b rfl).trans (up2_o hV18 (by decide)))
      have pq42 : (V25 41 b).toInt = ((V 41 b)).toInt := congrArg Int32.toInt ((ajV25 41 b rfl).trans (up2_o hV18 (by decide)))
      have me45 : ME V V25 0 := (ME.tr (ME.up ME.rf hV18 (Or.inl ⟨by decide, by decide, by first | omega | ((try (have i_hz17 := Imp.go hz17 (by omega))); (try (have i_hop := Imp.go hop (by omega))); (try (have i_moa := Imp.go moa (by omega))); (try (have i_moa := Imp.go moa (by omega))); (try (have i_hop := Imp.go hop (by omega))); (try (have i_hz17 := Imp.go hz17 (by omega))); omega)⟩)) (ME.ag ajV25 (by decide)))
      have af44 : (V25 42 b).toInt ≤ (V25 84 gf).toInt ∨ (bdp V25 b (V25 84 gf).toInt.toNat).1 = true := by rw [((ajV25 84 gf rfl).trans (up2_s hV18)), me45.1.bd, me45.1 42 b (by decide) (by decide)]; exact atn
      have mo43 : MO V25 Z b gf True True True := MO.ch mo me30 ((ajV25 67 gf rfl).trans ((up2_o hV18 (by decide)).trans ea67.symm)) ((ajV25 80 gf rfl).trans ((up2_o hV18 (by decide)).trans ea80.symm)) (fun _ => Or.inl (by omega)) (fun x h => FK.k4 (by first | omega | ((try (have i_hz17 := Imp.go hz17 (by omega))); (try (have i_hop := Imp.go hop (by omega))); (try (have i_moa := Imp.go moa (by omega))); (try (have i_moa := Imp.go moa (by omega))); (try (have i_hop := Imp.go hop (by omega))); (try (have i_hz17 := Imp.go hz17 (by omega))); omega)) (by first | omega | ((try (have i_hz17 := Imp.go hz17 (by omega))); (try (have i_hop := Imp.go hop (by omega))); (try (have i_moa := Imp.go moa (by omega))); (try (have i_moa := Imp.go moa (by omega))); (try (have i_hop := Imp.go hop (by omega))); (try (have i_hz17 := Imp.go hz17 (by omega))); omega)) (by first | omega | ((try (have i_hz17 := Imp.go hz17 (by omega))); (try (have i_hop := Imp.go hop (by omega))); (try (have i_moa := Imp.go moa (by omega))); (try (have i_moa := Imp.go moa (by omega))); (try (have i_hop := Imp.go hop (by omega))); (try (have i_hz17 := Imp.go hz17 (by omega))); omega)) af44 (by first | omega | ((try (have i_hz17 := Imp.go hz17 (by omega))); (try (have i_hop := Imp.go hop (by omega))); (try (have i_moa := Imp.go moa (by omega))); (try (have i_moa := Imp.go moa (by omega))); (try (have i_hop := Imp.go hop (by omega))); (try (have i_hz17 := Imp.go hz17 (by omega))); omega)) (fun hph => absurd hph (by omega)))
      exact W.zret (v := 1) hx hb hr rfl (fun t ht hW => ⟨⟨1, (V25, L), rfl, ⟨hMV25, agV25, rfl, (by decide), (Imp.mk (fun _ => mo43)), (Imp.mk (fun hp => absurd hp (by decide))), (Imp.mk (fun _ => (show (V25 5 6).toInt = (V 5 6).toInt ∧ (V25 67 gf).toInt = 4 ∧ (V25 68 gf).toInt = 0 from by first | exact om_a46bf36ddf1a gk gph pq27 pq28 pq29 | first | omega | ((try (have i_hz17 := Imp.go hz17 (by omega))); (try (have i_hop := Imp.go hop (by omega))); (try (have i_moa := Imp.go moa (by omega))); (try (have i_moa := Imp.go moa (by omega))); (try (have i_hop := Imp.go hop (by omega))); (try (have i_hz17 := Imp.go hz17 (by omega))); omega))))⟩, by rw [ht]; exact hP, va_K.moved hW.alike hK, hD⟩, hS.F ht⟩) hS.2.2 dX5_worksWith_82
    have gq20 : p1.toInt ≠ 10 := b_neq rfl (by decide) q20
    by_cases q46 : p1 = 11
    · refine g_top (v := 11) q46 ?_
      have fq46 : p1.toInt = 11 := b_eq rfl (by decide) q46
      refine lv_tableIn (x := 11) (off := 41) (tgt := 83) hx hb dX5_worksWith_42 (by decide) (by decide) (by decide) (by decide) ?_
      refine lv_aload_n hx hb dX5_worksWith_83 rfl (lv_at hl 1 rfl) ?_
      refine lv_aload_n hx hb dX5_worksWith_84 rfl (lv_at hl 1 rfl) ?_
      refine va_get (D := D) (ci := 5) (v := .ref (ad (38 + Int32.toNatClampNeg (V18 5 5)))) (fs := (xfMachine ad V18 L Z)) (C := RX5) (T := TX5) (N := 15) hx hb hg inX5 hown hK hP 5 xgMachine rfl 5 (by decide) (hg _ w672) (fun _ h9 => h9) rfl dX5_worksWith_85 ?_
      have pq47 : (V18 5 5).toInt = ((V 5 5)).toInt := congrArg Int32.toInt (up2_o hV18 (by decide))
      refine g_topv (v := .ref (ad (38 + b))) (rfP (by first | omega | ((try (have i_hz17 := Imp.go hz17 (by omega))); (try (have i_hop := Imp.go hop (by omega))); (try (have i_moa := Imp.go moa (by omega))); (try (have i_moa := Imp.go moa (by omega))); (try (have i_hop := Imp.go hop (by omega))); (try (have i_hz17 := Imp.go hz17 (by omega))); omega))) ?_
      refine va_getN (D := D) (ci := 0) (v := .ref (ad (62 + b))) (fs := (xfBook ad V18 b)) (C := RX0) (T := TX0) (N := 13) hx hb hg inX0 hown hK hP (38 + b) (xgBook hb2) rfl 6 (by decide) (hnw.use 613 n613 rfl) (fun _ h9 => h9) rfl dX5_worksWith_88 ?_
      refine lv_iload_n hx hb dX5_worksWith_91 rfl (lv_at hl 0 rfl) ?_
      have il48 : b < 2 := by first | exact om_f940a4667dd6 hb2 | first | omega | ((try (have i_hz17 := Imp.go hz17 (by omega))); (try (have i_hop := Imp.go hop (by omega))); (try (have i_moa := Imp.go moa (by omega))); (try (have i_moa := Imp.go moa (by omega))); (try (have i_hop := Imp.go hop (by omega))); (try (have i_hz17 := Imp.go hz17 (by omega))); omega)
      refine va_iald (D := D) (i := 0) hx hb hK hP (62 + b) (55 + b) (xgsettingValues il48) (xtsettingValues il48) (i_in (a := 0) (by decide) (by decide)) dX5_worksWith_92 ?_
      have kc49 : Int32.toNatClampNeg 0 = 0 := by decide
      refine g_top (v := V18 46 (12 * b + (Int32.toNatClampNeg 0))) (if_pos (by first | omega | ((try (have i_hz17 := Imp.go hz17 (by omega))); (try (have i_hop := Imp.go hop (by omega))); (try (have i_moa := Imp.go moa (by omega))); (try (have i_moa := Imp.go moa (by omega))); (try (have i_hop := Imp.go hop (by omega))); (try (have i_hz17 := Imp.go hz17 (by omega))); omega))) ?_
      refine g_top (v := (V 46 (12 * b + (Int32.toNatClampNeg 0)))) (up2_o hV18 (by decide)) ?_
      refine gA_void (gA_runV (As := [.int (V 46 (12 * b + (Int32.toNatClampNeg 0)))]) (rest := []) (ci := 5) (q0 := 5) hx hb hml hown hg hP hD hK hS hA hnw hgk (x_mput l D ks H.size ad kk V18 L Z (V 46 (12 * b + (Int32.toNatClampNeg 0))) hMV18 ) w1466 w1468 w72 w171 w1469 rfl xgMachine hdV_yX5_put ⟨Nat.le_of_ble_eq_true rfl, Nat.le_of_ble_eq_true rfl⟩ rfl hl.1 rfl (Nat.le_of_ble_eq_true rfl) dX5_worksWith_93 ⟨Nat.le_of_ble_eq_true rfl, Nat.le_of_ble_eq_true rfl⟩) hP hD hK hS hA (fun u51 H locs w52 hP hD hK hS => ?_)
      obtain ⟨V53, L54⟩ := u51
      obtain ⟨hMV53, ajV53, axL54⟩ := w52
      have axL54 : L = L54 := Eq.symm axL54
      subst axL54
      have hP : va_P D vwCl (xw ad kk V53 L Z) H := hP
      have hD : va_D A (xw ad kk V53 L Z) := hD
      have hMV53 : rgd bX V53 := hMV53
      have ajV53 : agr [(5, 7)] [39] V18 V53 := ajV53
      have agV53 : agr [(5, 6), (5, 7), (5, 9), (5, 11), (5, 12)] [39, 68, 75, 77, 78, 84] V V53 := agV18.tr ajV53 (by decide) (by decide)
      refine lv_iconst (v := 1) hx hb dX5_worksWith_96 (by decide) ?_
      have pq55 : (V53 5 6).toInt = ((V 5 6)).toInt := congrArg Int32.toInt ((ajV53 5 6 rfl).trans (up2_o hV18 (by decide)))
      have pq56 : (V53 67 gf).toInt = ((V 67 gf)).toInt := congrArg Int32.toInt ((ajV53 67 gf rfl).trans (up2_o hV18 (by decide)))
      have pq57 : (V53 68 gf).toInt = ((V 68 gf)).toInt := congrArg Int32.toInt ((ajV53 68 gf rfl).trans (up2_o hV18 (by decide)))
      have me58 : ME Va V53 gf := (ME.tr (ME.up mV hV18 (Or.inl ⟨by decide, by decide, Nat.le_refl _⟩)) (ME.ag ajV53 (by decide)))
      have pq59 : (V53 70 gf).toInt = ((V 70 gf)).toInt := congrArg Int32.toInt ((ajV53 70 gf rfl).trans (up2_o hV18 (by decide)))
      have pq60 : (V53 71 gf).toInt = ((V 71 gf)).toInt := congrArg Int32.toInt ((ajV53 71 gf rfl).trans (up2_o hV18 (by decide)))
      have pq61 : (V53 75 gf).toInt = ((V 75 gf)).toInt := congrArg Int32.toInt ((ajV53 75 gf rfl).trans (up2_o hV18 (by decide)))
      have pq62 : (V53 76 gf).toInt = ((V 76 gf)).toInt := congrArg Int32.toInt ((ajV53 76 gf rfl).trans (up2_o hV18 (by decide)))
      have pq63 : (V53 80 gf).toInt = ((V 80 gf)).toInt := congrArg Int32.toInt ((ajV53 80 gf rfl).trans (up2_o hV18 (by decide)))
      have pq64 : (V53 84 gf).toInt = z17.toInt := congrArg Int32.toInt ((ajV53 84 gf rfl).trans (up2_s hV18))
      have pq65 : (V53 5 8).toInt = ((V 5 8)).toInt := congrArg Int32.toInt ((ajV53 5 8 rfl).trans (up2_o hV18 (by decide)))
      have pq66 : (V53 5 9).toInt = ((V 5 9)).toInt := congrArg Int32.toInt ((ajV53 5 9 rfl).trans (up2_o hV18 (by decide)))
      have pq67 : (V53 3 13).toInt = ((V 3 13)).toInt := congrArg Int32.toInt ((ajV53 3 13 rfl).trans (up2_o hV18 (by decide)))
      have pq68 : (V53 43 (5 * b + 2)).toInt = ((V 43 (5 * b + 2))).toInt := congrArg Int32.toInt ((ajV53 43 (5 * b + 2) rfl).trans (up2_o hV18 (by decide)))
      have pq69 : (V53 42 b).toInt = ((V 42 b)).toInt := congrArg Int32.toInt ((ajV53 42 b rfl).trans (up2_o hV18 (by decide)))
      have pq70 : (V53 41 b).toInt = ((V 41 b)).toInt := congrArg Int32.toInt ((ajV53 41 b rfl).trans (up2_o hV18 (by decide)))
      have me73 : ME V V53 0 := (ME.tr (ME.up ME.rf hV18 (Or.inl ⟨by decide, by decide, by first | omega | ((try (have i_hz17 := Imp.go hz17 (by omega))); (try (have i_hop := Imp.go hop (by omega))); (try (have i_moa := Imp.go moa (by omega))); (try (have i_moa := Imp.go moa (by omega))); (try (have i_hop := Imp.go hop (by omega))); (try (have i_hz17 := Imp.go hz17 (by omega))); omega)⟩)) (ME.ag ajV53 (by decide)))
      have af72 : (V53 42 b).toInt ≤ (V53 84 gf).toInt ∨ (bdp V53 b (V53 84 gf).toInt.toNat).1 = true := by rw [((ajV53 84 gf rfl).trans (up2_s hV18)), me73.1.bd, me73.1 42 b (by decide) (by decide)]; exact atn
      have mo71 : MO V53 Z b gf True True True := MO.ch mo me58 ((ajV53 67 gf rfl).trans ((up2_o hV18 (by decide)).trans ea67.symm)) ((ajV53 80 gf rfl).trans ((up2_o hV18 (by decide)).trans ea80.symm)) (fun _ => Or.inl (by omega)) (fun x h => FK.k4 (by first | omega | ((try (have i_hz17 := Imp.go hz17 (by omega))); (try (have i_hop := Imp.go hop (by omega))); (try (have i_moa := Imp.go moa (by omega))); (try (have i_moa := Imp.go moa (by omega))); (try (have i_hop := Imp.go hop (by omega))); (try (have i_hz17 := Imp.go hz17 (by omega))); omega)) (by first | omega | ((try (have i_hz17 := Imp.go hz17 (by omega))); (try (have i_hop := Imp.go hop (by omega))); (try (have i_moa := Imp.go moa (by omega))); (try (have i_moa := Imp.go moa (by omega))); (try (have i_hop := Imp.go hop (by omega))); (try (have i_hz17 := Imp.go hz17 (by omega))); omega)) (by first | omega | ((try (have i_hz17 := Imp.go hz17 (by omega))); (try (have i_hop := Imp.go hop (by omega))); (try (have i_moa := Imp.go moa (by omega))); (try (have i_moa := Imp.go moa (by omega))); (try (have i_hop := Imp.go hop (by omega))); (try (have i_hz17 := Imp.go hz17 (by omega))); omega)) af72 (by first | omega | ((try (have i_hz17 := Imp.go hz17 (by omega))); (try (have i_hop := Imp.go hop (by omega))); (try (have i_moa := Imp.go moa (by omega))); (try (have i_moa := Imp.go moa (by omega))); (try (have i_hop := Imp.go hop (by omega))); (try (have i_hz17 := Imp.go hz17 (by omega))); omega)) (fun hph => absurd hph (by omega)))
      exact W.zret (v := 1) hx hb hr rfl (fun t ht hW => ⟨⟨1, (V53, L), rfl, ⟨hMV53, agV53, rfl, (by decide), (Imp.mk (fun _ => mo71)), (Imp.mk (fun hp => absurd hp (by decide))), (Imp.mk (fun _ => (show (V53 5 6).toInt = (V 5 6).toInt ∧ (V53 67 gf).toInt = 4 ∧ (V53 68 gf).toInt = 0 from by first | exact om_a46bf36ddf1a gk gph pq55 pq56 pq57 | first | omega | ((try (have i_hz17 := Imp.go hz17 (by omega))); (try (have i_hop := Imp.go hop (by omega))); (try (have i_moa := Imp.go moa (by omega))); (try (have i_moa := Imp.go moa (by omega))); (try (have i_hop := Imp.go hop (by omega))); (try (have i_hz17 := Imp.go hz17 (by omega))); omega))))⟩, by rw [ht]; exact hP, va_K.moved hW.alike hK, hD⟩, hS.F ht⟩) hS.2.2 dX5_worksWith_97
    have gq46 : p1.toInt ≠ 11 := b_neq rfl (by decide) q46
    by_cases q74 : p1 = 12
    · refine g_top (v := 12) q74 ?_
      have fq74 : p1.toInt = 12 := b_eq rfl (by decide) q74
      refine lv_tableIn (x := 12) (off := 84) (tgt := 126) hx hb dX5_worksWith_42 (by decide) (by decide) (by decide) (by decide) ?_
      refine lv_aload_n hx hb dX5_worksWith_126 rfl (lv_at hl 1 rfl) ?_
      refine lv_iconst (v := 0) hx hb dX5_worksWith_127 (by decide) ?_
      refine lv_iload_n hx hb dX5_worksWith_128 rfl (lv_at hl 0 rfl) ?_
      have r75 : Int32.toInt 0 = 0 := by decide
      refine gA_void (gA_runV (As := [.int 0, .int 0]) (rest := []) (ci := 5) (q0 := 5) hx hb hml hown hg hP hD hK hS hA hnw hgk (x_failWith l D ks H.size ad kk V18 L Z 0 0 hMV18 ) w1261 w1263 w46 w171 w1264 rfl xgMachine hdV_yX5_failWith ⟨Nat.le_of_ble_eq_true rfl, Nat.le_of_ble_eq_true rfl⟩ rfl hl.1 rfl (Nat.le_of_ble_eq_true rfl) dX5_worksWith_129 ⟨Nat.le_of_ble_eq_true rfl, Nat.le_of_ble_eq_true rfl⟩) hP hD hK hS hA (fun u77 H locs w78 hP hD hK hS => ?_)
      obtain ⟨V80, L81⟩ := u77
      obtain ⟨hMV80, ajV80, axL81, t79⟩ := w78
      have axL81 : L = L81 := Eq.symm axL81
      subst axL81
      have hP : va_P D vwCl (xw ad kk V80 L Z) H := hP
      have hD : va_D A (xw ad kk V80 L Z) := hD
      have hMV80 : rgd bX V80 := hMV80
      have ajV80 : agr [(5, 9), (5, 11), (5, 12)] [] V18 V80 := ajV80
      have agV80 : agr [(5, 6), (5, 7), (5, 9), (5, 11), (5, 12)] [39, 68, 75, 77, 78, 84] V V80 := agV18.tr ajV80 (by decide) (by decide)
      have t79 : (V80 5 9).toInt = 2 := t79
      have r82 : 0 ≤ ((V80 5 9)).toInt ∧ ((V80 5 9)).toInt ≤ 3 := hMV80 5 9
      refine lv_aload_n hx hb dX5_worksWith_132 rfl (lv_at hl 1 rfl) ?_
      refine lv_aload_n hx hb dX5_worksWith_133 rfl (lv_at hl 2 rfl) ?_
      have pq83 : (V80 5 6).toInt = ((V 5 6)).toInt := congrArg Int32.toInt ((ajV80 5 6 rfl).trans (up2_o hV18 (by decide)))
      have pq84 : (V80 67 gf).toInt = ((V 67 gf)).toInt := congrArg Int32.toInt ((ajV80 67 gf rfl).trans (up2_o hV18 (by decide)))
      have me85 : ME Va V80 gf := (ME.tr (ME.up mV hV18 (Or.inl ⟨by decide, by decide, Nat.le_refl _⟩)) (ME.ag ajV80 (by decide)))
      have pq86 : (V80 68 gf).toInt = ((V 68 gf)).toInt := congrArg Int32.toInt ((ajV80 68 gf rfl).trans (up2_o hV18 (by decide)))
      have pq87 : (V80 70 gf).toInt = ((V 70 gf)).toInt := congrArg Int32.toInt ((ajV80 70 gf rfl).trans (up2_o hV18 (by decide)))
      have pq88 : (V80 71 gf).toInt = ((V 71 gf)).toInt := congrArg Int32.toInt ((ajV80 71 gf rfl).trans (up2_o hV18 (by decide)))
      have pq89 : (V80 75 gf).toInt = ((V 75 gf)).toInt := congrArg Int32.toInt ((ajV80 75 gf rfl).trans (up2_o hV18 (by decide)))
      have pq90 : (V80 76 gf).toInt = ((V 76 gf)).toInt := congrArg Int32.toInt ((ajV80 76 gf rfl).trans (up2_o hV18 (by decide)))
      have pq91 : (V80 80 gf).toInt = ((V 80 gf)).toInt := congrArg Int32.toInt ((ajV80 80 gf rfl).trans (up2_o hV18 (by decide)))
      have pq92 : (V80 84 gf).toInt = z17.toInt := congrArg Int32.toInt ((ajV80 84 gf rfl).trans (up2_s hV18))
      have pq93 : (V80 5 8).toInt = ((V 5 8)).toInt := congrArg Int32.toInt ((ajV80 5 8 rfl).trans (up2_o hV18 (by decide)))
      have pq94 : (V80 3 13).toInt = ((V 3 13)).toInt := congrArg Int32.toInt ((ajV80 3 13 rfl).trans (up2_o hV18 (by decide)))
      have pq95 : (V80 43 (5 * b + 2)).toInt = ((V 43 (5 * b + 2))).toInt := congrArg Int32.toInt ((ajV80 43 (5 * b + 2) rfl).trans (up2_o hV18 (by decide)))
      have pq96 : (V80 42 b).toInt = ((V 42 b)).toInt := congrArg Int32.toInt ((ajV80 42 b rfl).trans (up2_o hV18 (by decide)))
      have pq97 : (V80 41 b).toInt = ((V 41 b)).toInt := congrArg Int32.toInt ((ajV80 41 b rfl).trans (up2_o hV18 (by decide)))
      have me100 : ME V V80 0 := (ME.tr (ME.up ME.rf hV18 (Or.inl ⟨by decide, by decide, by first | omega | ((try (have i_hz17 := Imp.go hz17 (by omega))); (try (have i_hop := Imp.go hop (by omega))); (try (have i_moa := Imp.go moa (by omega))); (try (have i_moa := Imp.go moa (by omega))); (try (have i_hop := Imp.go hop (by omega))); (try (have i_hz17 := Imp.go hz17 (by omega))); omega)⟩)) (ME.ag ajV80 (by decide)))
      have af99 : (V80 42 b).toInt ≤ (V80 84 gf).toInt ∨ (bdp V80 b (V80 84 gf).toInt.toNat).1 = true := by rw [((ajV80 84 gf rfl).trans (up2_s hV18)), me100.1.bd, me100.1 42 b (by decide) (by decide)]; exact atn
      have mo98 : MO V80 Z b gf True False True := MO.ch mo me85 ((ajV80 67 gf rfl).trans ((up2_o hV18 (by decide)).trans ea67.symm)) ((ajV80 80 gf rfl).trans ((up2_o hV18 (by decide)).trans ea80.symm)) (fun _ => Or.inl (by omega)) (fun x h => FK.k4 (by first | omega | ((try (have i_hz17 := Imp.go hz17 (by omega))); (try (have i_hop := Imp.go hop (by omega))); (try (have i_moa := Imp.go moa (by omega))); (try (have i_moa := Imp.go moa (by omega))); (try (have i_hop := Imp.go hop (by omega))); (try (have i_hz17 := Imp.go hz17 (by omega))); omega)) (by first | omega | ((try (have i_hz17 := Imp.go hz17 (by omega))); (try (have i_hop := Imp.go hop (by omega))); (try (have i_moa := Imp.go moa (by omega))); (try (have i_moa := Imp.go moa (by omega))); (try (have i_hop := Imp.go hop (by omega))); (try (have i_hz17 := Imp.go hz17 (by omega))); omega)) (by first | omega | ((try (have i_hz17 := Imp.go hz17 (by omega))); (try (have i_hop := Imp.go hop (by omega))); (try (have i_moa := Imp.go moa (by omega))); (try (have i_moa := Imp.go moa (by omega))); (try (have i_hop := Imp.go hop (by omega))); (try (have i_hz17 := Imp.go hz17 (by omega))); omega)) af99 (by first | omega | ((try (have i_hz17 := Imp.go hz17 (by omega))); (try (have i_hop := Imp.go hop (by omega))); (try (have i_moa := Imp.go moa (by omega))); (try (have i_moa := Imp.go moa (by omega))); (try (have i_hop := Imp.go hop (by omega))); (try (have i_hz17 := Imp.go hz17 (by omega))); omega)) (fun _ z => z.elim))
      refine gA_void (gA_runV (As := [.ref (Z.fa gf)]) (rest := []) (ci := 5) (q0 := 5) hx hb hml hown hg hP hD hK hS hA hnw hgk (x_endWork2 l D ks H.size ad kk V80 L Z (b) (gf) hMV80 (show b < 2 from by first | exact om_f940a4667dd6 hb2 | first | omega | ((try (have i_hz17 := Imp.go hz17 (by omega))); (try (have i_hop := Imp.go hop (by omega))); (try (have i_moa := Imp.go moa (by omega))); (try (have i_moa := Imp.go moa (by omega))); (try (have i_hop := Imp.go hop (by omega))); (try (have i_hz17 := Imp.go hz17 (by omega))); omega)) (show gf < Z.nf from by first | exact om_8c5722e49bb1 hgf | first | omega | ((try (have i_hz17 := Imp.go hz17 (by omega))); (try (have i_hop := Imp.go hop (by omega))); (try (have i_moa := Imp.go moa (by omega))); (try (have i_moa := Imp.go moa (by omega))); (try (have i_hop := Imp.go hop (by omega))); (try (have i_hz17 := Imp.go hz17 (by omega))); omega)) mo98 (show (gf : Int) + 1 = (V80 5 6).toInt from by first | exact om_6e5bbaaa0e03 gd pq83 | first | omega | ((try (have i_hz17 := Imp.go hz17 (by omega))); (try (have i_hop := Imp.go hop (by omega))); (try (have i_moa := Imp.go moa (by omega))); (try (have i_moa := Imp.go moa (by omega))); (try (have i_hop := Imp.go hop (by omega))); (try (have i_hz17 := Imp.go hz17 (by omega))); omega)) (show (V80 67 gf).toInt = 4 from by first | exact om_ac6651f4ff0c gk pq84 | first | omega | ((try (have i_hz17 := Imp.go hz17 (by omega))); (try (have i_hop := Imp.go hop (by omega))); (try (have i_moa := Imp.go moa (by omega))); (try (have i_moa := Imp.go moa (by omega))); (try (have i_hop := Imp.go hop (by omega))); (try (have i_hz17 := Imp.go hz17 (by omega))); omega))) w1458 w1460 w70 w171 w1461 rfl xgMachine hdV_yX5_endWork ⟨Nat.le_of_ble_eq_true rfl, Nat.le_of_ble_eq_true rfl⟩ rfl hl.1 rfl (Nat.le_of_ble_eq_true rfl) dX5_worksWith_134 ⟨Nat.le_of_ble_eq_true rfl, Nat.le_of_ble_eq_true rfl⟩) hP hD hK hS hA (fun u102 H locs w103 hP hD hK hS => ?_)
      obtain ⟨V105, L106⟩ := u102
      obtain ⟨hMV105, ajV105, axL106, t104⟩ := w103
      have axL106 : L = L106 := Eq.symm axL106
      subst axL106
      have hP : va_P D vwCl (xw ad kk V105 L Z) H := hP
      have hD : va_D A (xw ad kk V105 L Z) := hD
      have hMV105 : rgd bX V105 := hMV105
      have ajV105 : agr [(5, 6), (5, 7)] [] V80 V105 := ajV105
      have agV105 : agr [(5, 6), (5, 7), (5, 9), (5, 11), (5, 12)] [39, 68, 75, 77, 78, 84] V V105 := agV80.tr ajV105 (by decide) (by decide)
      have t104 : MJ V105 Z b := t104
      refine lv_iconst (v := 0) hx hb dX5_worksWith_137 (by decide) ?_
      have r107 : 0 ≤ ((V105 5 6)).toInt ∧ ((V105 5 6)).toInt ≤ 400 := hMV105 5 6
      have pq108 : (V105 67 gf).toInt = ((V 67 gf)).toInt := congrArg Int32.toInt ((ajV105 67 gf rfl).trans ((ajV80 67 gf rfl).trans (up2_o hV18 (by decide))))
      have pq109 : (V105 68 gf).toInt = ((V 68 gf)).toInt := congrArg Int32.toInt ((ajV105 68 gf rfl).trans ((ajV80 68 gf rfl).trans (up2_o hV18 (by decide))))
      exact W.zret (v := 0) hx hb hr rfl (fun t ht hW => ⟨⟨0, (V105, L), rfl, ⟨hMV105, agV105, rfl, (by decide), (Imp.mk (fun hp => absurd hp (by decide))), (Imp.mk (fun _ => t104)), (Imp.mk (fun hp => absurd hp (by decide)))⟩, by rw [ht]; exact hP, va_K.moved hW.alike hK, hD⟩, hS.F ht⟩) hS.2.2 dX5_worksWith_138
    have gq74 : p1.toInt ≠ 12 := b_neq rfl (by decide) q74
    by_cases q110 : p1 = 13
    · refine g_top (v := 13) q110 ?_
      have fq110 : p1.toInt = 13 := b_eq rfl (by decide) q110
      refine lv_tableIn (x := 13) (off := 63) (tgt := 105) hx hb dX5_worksWith_42 (by decide) (by decide) (by decide) (by decide) ?_
      refine lv_aload_n hx hb dX5_worksWith_105 rfl (lv_at hl 2 rfl) ?_
      refine lv_aload_n hx hb dX5_worksWith_106 rfl (lv_at hl 1 rfl) ?_
      refine gA_int (gA_runV (As := []) (rest := [.ref (Z.fa gf)]) (ci := 5) (q0 := 5) hx hb hml hown hg hP hD hK hS hA hnw hgk (x_mpull l D ks H.size ad kk V18 L Z  hMV18 ) w1482 w1484 w76 w171 w1485 rfl xgMachine hdV_yX5_pull ⟨Nat.le_of_ble_eq_true rfl, Nat.le_of_ble_eq_true rfl⟩ rfl hl.1 rfl (Nat.le_of_ble_eq_true rfl) dX5_worksWith_107 ⟨Nat.le_of_ble_eq_true rfl, Nat.le_of_ble_eq_true rfl⟩) hP hD hK hS hA (fun z111 u112 H locs w113 hP hD hK hS => ?_)
      obtain ⟨V114, L115⟩ := u112
      obtain ⟨hMV114, ajV114, axL115⟩ := w113
      have axL115 : L = L115 := Eq.symm axL115
      subst axL115
      have hP : va_P D vwCl (xw ad kk V114 L Z) H := hP
      have hD : va_D A (xw ad kk V114 L Z) := hD
      have hMV114 : rgd bX V114 := hMV114
      have ajV114 : agr [(5, 7)] [] V18 V114 := ajV114
      have agV114 : agr [(5, 6), (5, 7), (5, 9), (5, 11), (5, 12)] [39, 68, 75, 77, 78, 84] V V114 := agV18.tr ajV114 (by decide) (by decide)
      refine lv_if_ne (tgt := 117) hx hb dX5_worksWith_110 (by decide) (fun c116 => ?_) (fun c116 => ?_)
      · skip
        have f117 : z111.toInt ≠ 0 := b_neq rfl (by decide) c116
        refine lv_aload_n hx hb dX5_worksWith_117 rfl (lv_at hl 2 rfl) ?_
        refine va_getN (D := D) (ci := 4) (v := .int (V114 84 gf)) (fs := (xfFrame V114 gf)) (C := RX4) (T := TX4) (N := 19) hx hb hg inX4 hown hK hP (336 + gf) (xgFrame hgf) rfl 17 (by decide) (hnw.use 1206 n1206 rfl) (fun _ h9 => h9) rfl dX5_worksWith_118 ?_
        refine g_top (v := z17) ((ajV114 84 gf rfl).trans (up2_s hV18)) ?_
        refine va_putN (D := D) (ci := 4) (v := .int z17) (ty := tyX4 17) (fs := (xfFrame V114 gf)) (C := RX4) (T := TX4) (N := 19) hx hb hg inX4 tyX4 tyX4_ok nmX4 hown hK hP hD hS (336 + gf) (xgFrame hgf) rfl 17 (by decide) (hnw.use 1206 n1206 rfl) (fun _ h9 => h9) rfl (tyX4_ok 17 (by decide)) rfl rfl (Nat.le_of_ble_eq_true rfl) dX5_worksWith_121 (fun H locs hP hD hS => ?_)
        obtain ⟨V118, hV118⟩ : ∃ z, z = up2 V114 84 gf z17 := ⟨_, rfl⟩
        have ew119 : (xw ad kk V114 L Z).set (336 + gf) ((Z.fa gf), .inr (4, (xfFrame V114 gf).set 17 (.int z17))) = xw ad kk V118 L Z := by rw [hV118]; exact xpFrame_at hgf
        have hP : va_P D vwCl (xw ad kk V118 L Z) H := by rw [← ew119]; exact hP
        have hD : va_D A (xw ad kk V118 L Z) := by rw [← ew119]; exact hD
        have hMV118 : rgd bX V118 := hMV114.put hV118 (show 0 ≤ z17.toInt ∧ z17.toInt ≤ 2147483647 from by first | exact om_467c24003592 hal r2.1 ((Imp.go hz17 (om_4b97ac17116b hal r2.1))) | first | omega | ((try (have i_hz17 := Imp.go hz17 (by omega))); (try (have i_hop := Imp.go hop (by omega))); (try (have i_moa := Imp.go moa (by omega))); (try (have i_moa := Imp.go moa (by omega))); (try (have i_hop := Imp.go hop (by omega))); (try (have i_hz17 := Imp.go hz17 (by omega))); omega))
        have agV118 : agr [(5, 6), (5, 7), (5, 9), (5, 11), (5, 12)] [39, 68, 75, 77, 78, 84] V V118 := agV114.up hV118 rfl
        refine lv_iconst (v := 1) hx hb dX5_worksWith_124 (by decide) ?_
        have pq120 : (V118 5 6).toInt = ((V 5 6)).toInt := congrArg Int32.toInt ((up2_o hV118 (by decide)).trans ((ajV114 5 6 rfl).trans (up2_o hV18 (by decide))))
        have pq121 : (V118 67 gf).toInt = ((V 67 gf)).toInt := congrArg Int32.toInt ((up2_o hV118 (by decide)).trans ((ajV114 67 gf rfl).trans (up2_o hV18 (by decide))))
        have pq122 : (V118 68 gf).toInt = ((V 68 gf)).toInt := congrArg Int32.toInt ((up2_o hV118 (by decide)).trans ((ajV114 68 gf rfl).trans (up2_o hV18 (by decide))))
        have me123 : ME Va V118 gf := (ME.up (ME.tr (ME.up mV hV18 (Or.inl ⟨by decide, by decide, Nat.le_refl _⟩)) (ME.ag ajV114 (by decide))) hV118 (Or.inl ⟨by decide, by decide, Nat.le_refl _⟩))
        have pq124 : (V118 70 gf).toInt = ((V 70 gf)).toInt := congrArg Int32.toInt ((up2_o hV118 (by decide)).trans ((ajV114 70 gf rfl).trans (up2_o hV18 (by decide))))
        have pq125 : (V118 71 gf).toInt = ((V 71 gf)).toInt := congrArg Int32.toInt ((up2_o hV118 (by decide)).trans ((ajV114 71 gf rfl).trans (up2_o hV18 (by decide))))
        have pq126 : (V118 75 gf).toInt = ((V 75 gf)).toInt := congrArg Int32.toInt ((up2_o hV118 (by decide)).trans ((ajV114 75 gf rfl).trans (up2_o hV18 (by decide))))
        have pq127 : (V118 76 gf).toInt = ((V 76 gf)).toInt := congrArg Int32.toInt ((up2_o hV118 (by decide)).trans ((ajV114 76 gf rfl).trans (up2_o hV18 (by decide))))
        have pq128 : (V118 80 gf).toInt = ((V 80 gf)).toInt := congrArg Int32.toInt ((up2_o hV118 (by decide)).trans ((ajV114 80 gf rfl).trans (up2_o hV18 (by decide))))
        have pq129 : (V118 84 gf).toInt = z17.toInt := congrArg Int32.toInt (up2_s hV118)
        have pq130 : (V118 5 8).toInt = ((V 5 8)).toInt := congrArg Int32.toInt ((up2_o hV118 (by decide)).trans ((ajV114 5 8 rfl).trans (up2_o hV18 (by decide))))
        have pq131 : (V118 5 9).toInt = ((V 5 9)).toInt := congrArg Int32.toInt ((up2_o hV118 (by decide)).trans ((ajV114 5 9 rfl).trans (up2_o hV18 (by decide))))
        have pq132 : (V118 3 13).toInt = ((V 3 13)).toInt := congrArg Int32.toInt ((up2_o hV118 (by decide)).trans ((ajV114 3 13 rfl).trans (up2_o hV18 (by decide))))
        have pq133 : (V118 43 (5 * b + 2)).toInt = ((V 43 (5 * b + 2))).toInt := congrArg Int32.toInt ((up2_o hV118 (by decide)).trans ((ajV114 43 (5 * b + 2) rfl).trans (up2_o hV18 (by decide))))
        have pq134 : (V118 42 b).toInt = ((V 42 b)).toInt := congrArg Int32.toInt ((up2_o hV118 (by decide)).trans ((ajV114 42 b rfl).trans (up2_o hV18 (by decide))))
        have pq135 : (V118 41 b).toInt = ((V 41 b)).toInt := congrArg Int32.toInt ((up2_o hV118 (by decide)).trans ((ajV114 41 b rfl).trans (up2_o hV18 (by decide))))
        have me138 : ME V V118 0 := (ME.up (ME.tr (ME.up ME.rf hV18 (Or.inl ⟨by decide, by decide, by first | omega | ((try (have i_hz17 := Imp.go hz17 (by omega))); (try (have i_hop := Imp.go hop (by omega))); (try (have i_moa := Imp.go moa (by omega))); (try (have i_moa := Imp.go moa (by omega))); (try (have i_hop := Imp.go hop (by omega))); (try (have i_hz17 := Imp.go hz17 (by omega))); omega)⟩)) (ME.ag ajV114 (by decide))) hV118 (Or.inl ⟨by decide, by decide, by first | omega | ((try (have i_hz17 := Imp.go hz17 (by omega))); (try (have i_hop := Imp.go hop (by omega))); (try (have i_moa := Imp.go moa (by omega))); (try (have i_moa := Imp.go moa (by omega))); (try (have i_hop := Imp.go hop (by omega))); (try (have i_hz17 := Imp.go hz17 (by omega))); omega)⟩))
        have af137 : (V118 42 b).toInt ≤ (V118 84 gf).toInt ∨ (bdp V118 b (V118 84 gf).toInt.toNat).1 = true := by rw [(up2_s hV118), me138.1.bd, me138.1 42 b (by decide) (by decide)]; exact atn
        have mo136 : MO V118 Z b gf True True True := MO.ch mo me123 ((up2_o hV118 (by decide)).trans ((ajV114 67 gf rfl).trans ((up2_o hV18 (by decide)).trans ea67.symm))) ((up2_o hV118 (by decide)).trans ((ajV114 80 gf rfl).trans ((up2_o hV18 (by decide)).trans ea80.symm))) (fun _ => Or.inl (by omega)) (fun x h => FK.k4 (by first | omega | ((try (have i_hz17 := Imp.go hz17 (by omega))); (try (have i_hop := Imp.go hop (by omega))); (try (have i_moa := Imp.go moa (by omega))); (try (have i_moa := Imp.go moa (by omega))); (try (have i_hop := Imp.go hop (by omega))); (try (have i_hz17 := Imp.go hz17 (by omega))); omega)) (by first | omega | ((try (have i_hz17 := Imp.go hz17 (by omega))); (try (have i_hop := Imp.go hop (by omega))); (try (have i_moa := Imp.go moa (by omega))); (try (have i_moa := Imp.go moa (by omega))); (try (have i_hop := Imp.go hop (by omega))); (try (have i_hz17 := Imp.go hz17 (by omega))); omega)) (by first | omega | ((try (have i_hz17 := Imp.go hz17 (by omega))); (try (have i_hop := Imp.go hop (by omega))); (try (have i_moa := Imp.go moa (by omega))); (try (have i_moa := Imp.go moa (by omega))); (try (have i_hop := Imp.go hop (by omega))); (try (have i_hz17 := Imp.go hz17 (by omega))); omega)) af137 (by first | omega | ((try (have i_hz17 := Imp.go hz17 (by omega))); (try (have i_hop := Imp.go hop (by omega))); (try (have i_moa := Imp.go moa (by omega))); (try (have i_moa := Imp.go moa (by omega))); (try (have i_hop := Imp.go hop (by omega))); (try (have i_hz17 := Imp.go hz17 (by omega))); omega)) (fun hph => absurd hph (by omega)))
        exact W.zret (v := 1) hx hb hr rfl (fun t ht hW => ⟨⟨1, (V118, L), rfl, ⟨hMV118, agV118, rfl, (by decide), (Imp.mk (fun _ => mo136)), (Imp.mk (fun hp => absurd hp (by decide))), (Imp.mk (fun _ => (show (V118 5 6).toInt = (V 5 6).toInt ∧ (V118 67 gf).toInt = 4 ∧ (V118 68 gf).toInt = 0 from by first | exact om_a46bf36ddf1a gk gph pq120 pq121 pq122 | first | omega | ((try (have i_hz17 := Imp.go hz17 (by omega))); (try (have i_hop := Imp.go hop (by omega))); (try (have i_moa := Imp.go moa (by omega))); (try (have i_moa := Imp.go moa (by omega))); (try (have i_hop := Imp.go hop (by omega))); (try (have i_hz17 := Imp.go hz17 (by omega))); omega))))⟩, by rw [ht]; exact hP, va_K.moved hW.alike hK, hD⟩, hS.F ht⟩) hS.2.2 dX5_worksWith_125
      · skip
        have f139 : z111.toInt = 0 := b_eq rfl (by decide) c116
        refine lv_iload_n hx hb dX5_worksWith_113 rfl (lv_at hl 0 rfl) ?_
        refine lv_goto (tgt := 121) hx hb dX5_worksWith_114 (by decide) ?_
        refine va_putN (D := D) (ci := 4) (v := .int 0) (ty := tyX4 17) (fs := (xfFrame V114 gf)) (C := RX4) (T := TX4) (N := 19) hx hb hg inX4 tyX4 tyX4_ok nmX4 hown hK hP hD hS (336 + gf) (xgFrame hgf) rfl 17 (by decide) (hnw.use 1206 n1206 rfl) (fun _ h9 => h9) rfl (tyX4_ok 17 (by decide)) rfl rfl (Nat.le_of_ble_eq_true rfl) dX5_worksWith_121 (fun H locs hP hD hS => ?_)
        obtain ⟨V140, hV140⟩ : ∃ z, z = up2 V114 84 gf 0 := ⟨_, rfl⟩
        have ew141 : (xw ad kk V114 L Z).set (336 + gf) ((Z.fa gf), .inr (4, (xfFrame V114 gf).set 17 (.int 0))) = xw ad kk V140 L Z := by rw [hV140]; exact xpFrame_at hgf
        have hP : va_P D vwCl (xw ad kk V140 L Z) H := by rw [← ew141]; exact hP
        have hD : va_D A (xw ad kk V140 L Z) := by rw [← ew141]; exact hD
        have hMV140 : rgd bX V140 := hMV114.put hV140 (show 0 ≤ Int32.toInt 0 ∧ Int32.toInt 0 ≤ 2147483647 from by decide)
        have agV140 : agr [(5, 6), (5, 7), (5, 9), (5, 11), (5, 12)] [39, 68, 75, 77, 78, 84] V V140 := agV114.up hV140 rfl
        refine lv_iconst (v := 1) hx hb dX5_worksWith_124 (by decide) ?_
        have pq142 : (V140 5 6).toInt = ((V 5 6)).toInt := congrArg Int32.toInt ((up2_o hV140 (by decide)).trans ((ajV114 5 6 rfl).trans (up2_o hV18 (by decide))))
        have pq143 : (V140 67 gf).toInt = ((V 67 gf)).toInt := congrArg Int32.toInt ((up2_o hV140 (by decide)).trans ((ajV114 67 gf rfl).trans (up2_o hV18 (by decide))))
        have pq144 : (V140 68 gf).toInt = ((V 68 gf)).toInt := congrArg Int32.toInt ((up2_o hV140 (by decide)).trans ((ajV114 68 gf rfl).trans (up2_o hV18 (by decide))))
        have me145 : ME Va V140 gf := (ME.up (ME.tr (ME.up mV hV18 (Or.inl ⟨by decide, by decide, Nat.le_refl _⟩)) (ME.ag ajV114 (by decide))) hV140 (Or.inl ⟨by decide, by decide, Nat.le_refl _⟩))
        have pq146 : (V140 70 gf).toInt = ((V 70 gf)).toInt := congrArg Int32.toInt ((up2_o hV140 (by decide)).trans ((ajV114 70 gf rfl).trans (up2_o hV18 (by decide))))
        have pq147 : (V140 71 gf).toInt = ((V 71 gf)).toInt := congrArg Int32.toInt ((up2_o hV140 (by decide)).trans ((ajV114 71 gf rfl).trans (up2_o hV18 (by decide))))
        have pq148 : (V140 75 gf).toInt = ((V 75 gf)).toInt := congrArg Int32.toInt ((up2_o hV140 (by decide)).trans ((ajV114 75 gf rfl).trans (up2_o hV18 (by decide))))
        have pq149 : (V140 76 gf).toInt = ((V 76 gf)).toInt := congrArg Int32.toInt ((up2_o hV140 (by decide)).trans ((ajV114 76 gf rfl).trans (up2_o hV18 (by decide))))
        have pq150 : (V140 80 gf).toInt = ((V 80 gf)).toInt := congrArg Int32.toInt ((up2_o hV140 (by decide)).trans ((ajV114 80 gf rfl).trans (up2_o hV18 (by decide))))
        have pq151 : (V140 84 gf).toInt = 0 := (congrArg Int32.toInt (up2_s hV140)).trans (by decide)
        have pq152 : (V140 5 8).toInt = ((V 5 8)).toInt := congrArg Int32.toInt ((up2_o hV140 (by decide)).trans ((ajV114 5 8 rfl).trans (up2_o hV18 (by decide))))
        have pq153 : (V140 5 9).toInt = ((V 5 9)).toInt := congrArg Int32.toInt ((up2_o hV140 (by decide)).trans ((ajV114 5 9 rfl).trans (up2_o hV18 (by decide))))
        have pq154 : (V140 3 13).toInt = ((V 3 13)).toInt := congrArg Int32.toInt ((up2_o hV140 (by decide)).trans ((ajV114 3 13 rfl).trans (up2_o hV18 (by decide))))
        have pq155 : (V140 43 (5 * b + 2)).toInt = ((V 43 (5 * b + 2))).toInt := congrArg Int32.toInt ((up2_o hV140 (by decide)).trans ((ajV114 43 (5 * b + 2) rfl).trans (up2_o hV18 (by decide))))
        have pq156 : (V140 42 b).toInt = ((V 42 b)).toInt := congrArg Int32.toInt ((up2_o hV140 (by decide)).trans ((ajV114 42 b rfl).trans (up2_o hV18 (by decide))))
        have pq157 : (V140 41 b).toInt = ((V 41 b)).toInt := congrArg Int32.toInt ((up2_o hV140 (by decide)).trans ((ajV114 41 b rfl).trans (up2_o hV18 (by decide))))
        have me160 : ME V V140 0 := (ME.up (ME.tr (ME.up ME.rf hV18 (Or.inl ⟨by decide, by decide, by first | omega | ((try (have i_hz17 := Imp.go hz17 (by omega))); (try (have i_hop := Imp.go hop (by omega))); (try (have i_moa := Imp.go moa (by omega))); (try (have i_moa := Imp.go moa (by omega))); (try (have i_hop := Imp.go hop (by omega))); (try (have i_hz17 := Imp.go hz17 (by omega))); omega)⟩)) (ME.ag ajV114 (by decide))) hV140 (Or.inl ⟨by decide, by decide, by first | omega | ((try (have i_hz17 := Imp.go hz17 (by omega))); (try (have i_hop := Imp.go hop (by omega))); (try (have i_moa := Imp.go moa (by omega))); (try (have i_moa := Imp.go moa (by omega))); (try (have i_hop := Imp.go hop (by omega))); (try (have i_hz17 := Imp.go hz17 (by omega))); omega)⟩))
        have af159 : (V140 42 b).toInt ≤ (V140 84 gf).toInt ∨ (bdp V140 b (V140 84 gf).toInt.toNat).1 = true := by rw [(up2_s hV140), me160.1.bd, me160.1 42 b (by decide) (by decide)]; exact at0
        have mo158 : MO V140 Z b gf True True True := MO.ch mo me145 ((up2_o hV140 (by decide)).trans ((ajV114 67 gf rfl).trans ((up2_o hV18 (by decide)).trans ea67.symm))) ((up2_o hV140 (by decide)).trans ((ajV114 80 gf rfl).trans ((up2_o hV18 (by decide)).trans ea80.symm))) (fun _ => Or.inl (by omega)) (fun x h => FK.k4 (by first | omega | ((try (have i_hz17 := Imp.go hz17 (by omega))); (try (have i_hop := Imp.go hop (by omega))); (try (have i_moa := Imp.go moa (by omega))); (try (have i_moa := Imp.go moa (by omega))); (try (have i_hop := Imp.go hop (by omega))); (try (have i_hz17 := Imp.go hz17 (by omega))); omega)) (by first | omega | ((try (have i_hz17 := Imp.go hz17 (by omega))); (try (have i_hop := Imp.go hop (by omega))); (try (have i_moa := Imp.go moa (by omega))); (try (have i_moa := Imp.go moa (by omega))); (try (have i_hop := Imp.go hop (by omega))); (try (have i_hz17 := Imp.go hz17 (by omega))); omega)) (by first | omega | ((try (have i_hz17 := Imp.go hz17 (by omega))); (try (have i_hop := Imp.go hop (by omega))); (try (have i_moa := Imp.go moa (by omega))); (try (have i_moa := Imp.go moa (by omega))); (try (have i_hop := Imp.go hop (by omega))); (try (have i_hz17 := Imp.go hz17 (by omega))); omega)) af159 (by first | omega | ((try (have i_hz17 := Imp.go hz17 (by omega))); (try (have i_hop := Imp.go hop (by omega))); (try (have i_moa := Imp.go moa (by omega))); (try (have i_moa := Imp.go moa (by omega))); (try (have i_hop := Imp.go hop (by omega))); (try (have i_hz17 := Imp.go hz17 (by omega))); omega)) (fun hph => absurd hph (by omega)))
        exact W.zret (v := 1) hx hb hr rfl (fun t ht hW => ⟨⟨1, (V140, L), rfl, ⟨hMV140, agV140, rfl, (by decide), (Imp.mk (fun _ => mo158)), (Imp.mk (fun hp => absurd hp (by decide))), (Imp.mk (fun _ => (show (V140 5 6).toInt = (V 5 6).toInt ∧ (V140 67 gf).toInt = 4 ∧ (V140 68 gf).toInt = 0 from by first | exact om_a46bf36ddf1a gk gph pq142 pq143 pq144 | first | omega | ((try (have i_hz17 := Imp.go hz17 (by omega))); (try (have i_hop := Imp.go hop (by omega))); (try (have i_moa := Imp.go moa (by omega))); (try (have i_moa := Imp.go moa (by omega))); (try (have i_hop := Imp.go hop (by omega))); (try (have i_hz17 := Imp.go hz17 (by omega))); omega))))⟩, by rw [ht]; exact hP, va_K.moved hW.alike hK, hD⟩, hS.F ht⟩) hS.2.2 dX5_worksWith_125
    have gq110 : p1.toInt ≠ 13 := b_neq rfl (by decide) q110
    by_cases q161 : p1 = 14
    · refine g_top (v := 14) q161 ?_
      have fq161 : p1.toInt = 14 := b_eq rfl (by decide) q161
      refine lv_tableIn (x := 14) (off := 56) (tgt := 98) hx hb dX5_worksWith_42 (by decide) (by decide) (by decide) (by decide) ?_
      refine lv_aload_n hx hb dX5_worksWith_98 rfl (lv_at hl 2 rfl) ?_
      refine lv_iload_n hx hb dX5_worksWith_99 rfl (lv_at hl 0 rfl) ?_
      refine va_putN (D := D) (ci := 4) (v := .int 0) (ty := tyX4 17) (fs := (xfFrame V18 gf)) (C := RX4) (T := TX4) (N := 19) hx hb hg inX4 tyX4 tyX4_ok nmX4 hown hK hP hD hS (336 + gf) (xgFrame hgf) rfl 17 (by decide) (hnw.use 1206 n1206 rfl) (fun _ h9 => h9) rfl (tyX4_ok 17 (by decide)) rfl rfl (Nat.le_of_ble_eq_true rfl) dX5_worksWith_100 (fun H locs hP hD hS => ?_)
      obtain ⟨V162, hV162⟩ : ∃ z, z = up2 V18 84 gf 0 := ⟨_, rfl⟩
      have ew163 : (xw ad kk V18 L Z).set (336 + gf) ((Z.fa gf), .inr (4, (xfFrame V18 gf).set 17 (.int 0))) = xw ad kk V162 L Z := by rw [hV162]; exact xpFrame_at hgf
      have hP : va_P D vwCl (xw ad kk V162 L Z) H := by rw [← ew163]; exact hP
      have hD : va_D A (xw ad kk V162 L Z) := by rw [← ew163]; exact hD
      have hMV162 : rgd bX V162 := hMV18.put hV162 (show 0 ≤ Int32.toInt 0 ∧ Int32.toInt 0 ≤ 2147483647 from by decide)
      have agV162 : agr [(5, 6), (5, 7), (5, 9), (5, 11), (5, 12)] [39, 68, 75, 77, 78, 84] V V162 := agV18.up hV162 rfl
      refine lv_iconst (v := 1) hx hb dX5_worksWith_103 (by decide) ?_
      have pq164 : (V162 5 6).toInt = ((V 5 6)).toInt := congrArg Int32.toInt ((up2_o hV162 (by decide)).trans (up2_o hV18 (by decide)))
      have pq165 : (V162 67 gf).toInt = ((V 67 gf)).toInt := congrArg Int32.toInt ((up2_o hV162 (by decide)).trans (up2_o hV18 (by decide)))
      have pq166 : (V162 68 gf).toInt = ((V 68 gf)).toInt := congrArg Int32.toInt ((up2_o hV162 (by decide)).trans (up2_o hV18 (by decide)))
      have me167 : ME Va V162 gf := (ME.up (ME.up mV hV18 (Or.inl ⟨by decide, by decide, Nat.le_refl _⟩)) hV162 (Or.inl ⟨by decide, by decide, Nat.le_refl _⟩))
      have pq168 : (V162 70 gf).toInt = ((V 70 gf)).toInt := congrArg Int32.toInt ((up2_o hV162 (by decide)).trans (up2_o hV18 (by decide)))
      have pq169 : (V162 71 gf).toInt = ((V 71 gf)).toInt := congrArg Int32.toInt ((up2_o hV162 (by decide)).trans (up2_o hV18 (by decide)))
      have pq170 : (V162 75 gf).toInt = ((V 75 gf)).toInt := congrArg Int32.toInt ((up2_o hV162 (by decide)).trans (up2_o hV18 (by decide)))
      have pq171 : (V162 76 gf).toInt = ((V 76 gf)).toInt := congrArg Int32.toInt ((up2_o hV162 (by decide)).trans (up2_o hV18 (by decide)))
      have pq172 : (V162 80 gf).toInt = ((V 80 gf)).toInt := congrArg Int32.toInt ((up2_o hV162 (by decide)).trans (up2_o hV18 (by decide)))
      have pq173 : (V162 84 gf).toInt = 0 := (congrArg Int32.toInt (up2_s hV162)).trans (by decide)
      have pq174 : (V162 5 8).toInt = ((V 5 8)).toInt := congrArg Int32.toInt ((up2_o hV162 (by decide)).trans (up2_o hV18 (by decide)))
      have pq175 : (V162 5 9).toInt = ((V 5 9)).toInt := congrArg Int32.toInt ((up2_o hV162 (by decide)).trans (up2_o hV18 (by decide)))
      have pq176 : (V162 3 13).toInt = ((V 3 13)).toInt := congrArg Int32.toInt ((up2_o hV162 (by decide)).trans (up2_o hV18 (by decide)))
      have pq177 : (V162 43 (5 * b + 2)).toInt = ((V 43 (5 * b + 2))).toInt := congrArg Int32.toInt ((up2_o hV162 (by decide)).trans (up2_o hV18 (by decide)))
      have pq178 : (V162 42 b).toInt = ((V 42 b)).toInt := congrArg Int32.toInt ((up2_o hV162 (by decide)).trans (up2_o hV18 (by decide)))
      have pq179 : (V162 41 b).toInt = ((V 41 b)).toInt := congrArg Int32.toInt ((up2_o hV162 (by decide)).trans (up2_o hV18 (by decide)))
      have me182 : ME V V162 0 := (ME.up (ME.up ME.rf hV18 (Or.inl ⟨by decide, by decide, by first | omega | ((try (have i_hz17 := Imp.go hz17 (by omega))); (try (have i_hop := Imp.go hop (by omega))); (try (have i_moa := Imp.go moa (by omega))); (try (have i_moa := Imp.go moa (by omega))); (try (have i_hop := Imp.go hop (by omega))); (try (have i_hz17 := Imp.go hz17 (by omega))); omega)⟩)) hV162 (Or.inl ⟨by decide, by decide, by first | omega | ((try (have i_hz17 := Imp.go hz17 (by omega))); (try (have i_hop := Imp.go hop (by omega))); (try (have i_moa := Imp.go moa (by omega))); (try (have i_moa := Imp.go moa (by omega))); (try (have i_hop := Imp.go hop (by omega))); (try (have i_hz17 := Imp.go hz17 (by omega))); omega)⟩))
      have af181 : (V162 42 b).toInt ≤ (V162 84 gf).toInt ∨ (bdp V162 b (V162 84 gf).toInt.toNat).1 = true := by rw [(up2_s hV162), me182.1.bd, me182.1 42 b (by decide) (by decide)]; exact at0
      have mo180 : MO V162 Z b gf True True True := MO.ch mo me167 ((up2_o hV162 (by decide)).trans ((up2_o hV18 (by decide)).trans ea67.symm)) ((up2_o hV162 (by decide)).trans ((up2_o hV18 (by decide)).trans ea80.symm)) (fun _ => Or.inl (by omega)) (fun x h => FK.k4 (by first | omega | ((try (have i_hz17 := Imp.go hz17 (by omega))); (try (have i_hop := Imp.go hop (by omega))); (try (have i_moa := Imp.go moa (by omega))); (try (have i_moa := Imp.go moa (by omega))); (try (have i_hop := Imp.go hop (by omega))); (try (have i_hz17 := Imp.go hz17 (by omega))); omega)) (by first | omega | ((try (have i_hz17 := Imp.go hz17 (by omega))); (try (have i_hop := Imp.go hop (by omega))); (try (have i_moa := Imp.go moa (by omega))); (try (have i_moa := Imp.go moa (by omega))); (try (have i_hop := Imp.go hop (by omega))); (try (have i_hz17 := Imp.go hz17 (by omega))); omega)) (by first | omega | ((try (have i_hz17 := Imp.go hz17 (by omega))); (try (have i_hop := Imp.go hop (by omega))); (try (have i_moa := Imp.go moa (by omega))); (try (have i_moa := Imp.go moa (by omega))); (try (have i_hop := Imp.go hop (by omega))); (try (have i_hz17 := Imp.go hz17 (by omega))); omega)) af181 (by first | omega | ((try (have i_hz17 := Imp.go hz17 (by omega))); (try (have i_hop := Imp.go hop (by omega))); (try (have i_moa := Imp.go moa (by omega))); (try (have i_moa := Imp.go moa (by omega))); (try (have i_hop := Imp.go hop (by omega))); (try (have i_hz17 := Imp.go hz17 (by omega))); omega)) (fun hph => absurd hph (by omega)))
      exact W.zret (v := 1) hx hb hr rfl (fun t ht hW => ⟨⟨1, (V162, L), rfl, ⟨hMV162, agV162, rfl, (by decide), (Imp.mk (fun _ => mo180)), (Imp.mk (fun hp => absurd hp (by decide))), (Imp.mk (fun _ => (show (V162 5 6).toInt = (V 5 6).toInt ∧ (V162 67 gf).toInt = 4 ∧ (V162 68 gf).toInt = 0 from by first | exact om_a46bf36ddf1a gk gph pq164 pq165 pq166 | first | omega | ((try (have i_hz17 := Imp.go hz17 (by omega))); (try (have i_hop := Imp.go hop (by omega))); (try (have i_moa := Imp.go moa (by omega))); (try (have i_moa := Imp.go moa (by omega))); (try (have i_hop := Imp.go hop (by omega))); (try (have i_hz17 := Imp.go hz17 (by omega))); omega))))⟩, by rw [ht]; exact hP, va_K.moved hW.alike hK, hD⟩, hS.F ht⟩) hS.2.2 dX5_worksWith_104
    have gq161 : p1.toInt ≠ 14 := b_neq rfl (by decide) q161
    refine lv_tableOut (x := p1) (tgt := 139) hx hb dX5_worksWith_42 (by omega) (by decide) ?_
    refine lv_aload_n hx hb dX5_worksWith_139 rfl (lv_at hl 2 rfl) ?_
    refine lv_iload_n hx hb dX5_worksWith_140 rfl (lv_at hl 0 rfl) ?_
    refine lv_bipush (v := 20) hx hb dX5_worksWith_141 (by decide) ?_
    refine lv_idiv hx hb dX5_worksWith_143 (by decide) ?_
    refine g_top (v := 0) (by decide) ?_
    refine va_putN (D := D) (ci := 4) (v := .int 0) (ty := tyX4 8) (fs := (xfFrame V18 gf)) (C := RX4) (T := TX4) (N := 19) hx hb hg inX4 tyX4 tyX4_ok nmX4 hown hK hP hD hS (336 + gf) (xgFrame hgf) rfl 8 (by decide) (hnw.use 1197 n1197 rfl) (fun _ h9 => h9) rfl (tyX4_ok 8 (by decide)) rfl rfl (Nat.le_of_ble_eq_true rfl) dX5_worksWith_144 (fun H locs hP hD hS => ?_)
    obtain ⟨V183, hV183⟩ : ∃ z, z = up2 V18 75 gf 0 := ⟨_, rfl⟩
    have ew184 : (xw ad kk V18 L Z).set (336 + gf) ((Z.fa gf), .inr (4, (xfFrame V18 gf).set 8 (.int 0))) = xw ad kk V183 L Z := by rw [hV183]; exact xpFrame_position hgf
    have hP : va_P D vwCl (xw ad kk V183 L Z) H := by rw [← ew184]; exact hP
    have hD : va_D A (xw ad kk V183 L Z) := by rw [← ew184]; exact hD
    have hMV183 : rgd bX V183 := hMV18.put hV183 (show 0 ≤ Int32.toInt 0 ∧ Int32.toInt 0 ≤ 12 from by decide)
    have agV183 : agr [(5, 6), (5, 7), (5, 9), (5, 11), (5, 12)] [39, 68, 75, 77, 78, 84] V V183 := agV18.up hV183 rfl
    refine lv_aload_n hx hb dX5_worksWith_147 rfl (lv_at hl 2 rfl) ?_
    refine lv_iload_n hx hb dX5_worksWith_148 rfl (lv_at hl 0 rfl) ?_
    refine lv_bipush (v := 20) hx hb dX5_worksWith_149 (by decide) ?_
    refine lv_irem hx hb dX5_worksWith_151 (by decide) ?_
    refine g_top (v := 0) (by decide) ?_
    refine va_putN (D := D) (ci := 4) (v := .int 0) (ty := tyX4 10) (fs := (xfFrame V183 gf)) (C := RX4) (T := TX4) (N := 19) hx hb hg inX4 tyX4 tyX4_ok nmX4 hown hK hP hD hS (336 + gf) (xgFrame hgf) rfl 10 (by decide) (hnw.use 1199 n1199 rfl) (fun _ h9 => h9) rfl (tyX4_ok 10 (by decide)) rfl rfl (Nat.le_of_ble_eq_true rfl) dX5_worksWith_152 (fun H locs hP hD hS => ?_)
    obtain ⟨V185, hV185⟩ : ∃ z, z = up2 V183 77 gf 0 := ⟨_, rfl⟩
    have ew186 : (xw ad kk V183 L Z).set (336 + gf) ((Z.fa gf), .inr (4, (xfFrame V183 gf).set 10 (.int 0))) = xw ad kk V185 L Z := by rw [hV185]; exact xpFrame_target hgf
    have hP : va_P D vwCl (xw ad kk V185 L Z) H := by rw [← ew186]; exact hP
    have hD : va_D A (xw ad kk V185 L Z) := by rw [← ew186]; exact hD
    have hMV185 : rgd bX V185 := hMV183.put hV185 (show 0 ≤ Int32.toInt 0 ∧ Int32.toInt 0 ≤ 19 from by decide)
    have agV185 : agr [(5, 6), (5, 7), (5, 9), (5, 11), (5, 12)] [39, 68, 75, 77, 78, 84] V V185 := agV183.up hV185 rfl
    refine lv_aload_n hx hb dX5_worksWith_155 rfl (lv_at hl 2 rfl) ?_
    refine lv_aload_n hx hb dX5_worksWith_156 rfl (lv_at hl 1 rfl) ?_
    refine gA_int (gA_runV (As := []) (rest := [.ref (Z.fa gf)]) (ci := 5) (q0 := 5) hx hb hml hown hg hP hD hK hS hA hnw hgk (x_mpull l D ks H.size ad kk V185 L Z  hMV185 ) w1482 w1484 w76 w171 w1485 rfl xgMachine hdV_yX5_pull ⟨Nat.le_of_ble_eq_true rfl, Nat.le_of_ble_eq_true rfl⟩ rfl hl.1 rfl (Nat.le_of_ble_eq_true rfl) dX5_worksWith_157 ⟨Nat.le_of_ble_eq_true rfl, Nat.le_of_ble_eq_true rfl⟩) hP hD hK hS hA (fun z187 u188 H locs w189 hP hD hK hS => ?_)
    obtain ⟨V190, L191⟩ := u188
    obtain ⟨hMV190, ajV190, axL191⟩ := w189
    have axL191 : L = L191 := Eq.symm axL191
    subst axL191
    have hP : va_P D vwCl (xw ad kk V190 L Z) H := hP
    have hD : va_D A (xw ad kk V190 L Z) := hD
    have hMV190 : rgd bX V190 := hMV190
    have ajV190 : agr [(5, 7)] [] V185 V190 := ajV190
    have agV190 : agr [(5, 6), (5, 7), (5, 9), (5, 11), (5, 12)] [39, 68, 75, 77, 78, 84] V V190 := agV185.tr ajV190 (by decide) (by decide)
    refine va_putN (D := D) (ci := 4) (v := .int z187) (ty := tyX4 11) (fs := (xfFrame V190 gf)) (C := RX4) (T := TX4) (N := 19) hx hb hg inX4 tyX4 tyX4_ok nmX4 hown hK hP hD hS (336 + gf) (xgFrame hgf) rfl 11 (by decide) (hnw.use 1200 n1200 rfl) (fun _ h9 => h9) rfl (tyX4_ok 11 (by decide)) rfl rfl (Nat.le_of_ble_eq_true rfl) dX5_worksWith_160 (fun H locs hP hD hS => ?_)
    obtain ⟨V192, hV192⟩ : ∃ z, z = up2 V190 78 gf z187 := ⟨_, rfl⟩
    have ew193 : (xw ad kk V190 L Z).set (336 + gf) ((Z.fa gf), .inr (4, (xfFrame V190 gf).set 11 (.int z187))) = xw ad kk V192 L Z := by rw [hV192]; exact xpFrame_given hgf
    have hP : va_P D vwCl (xw ad kk V192 L Z) H := by rw [← ew193]; exact hP
    have hD : va_D A (xw ad kk V192 L Z) := by rw [← ew193]; exact hD
    have hMV192 : rgd bX V192 := hMV190.put hV192 (i_full _)
    have agV192 : agr [(5, 6), (5, 7), (5, 9), (5, 11), (5, 12)] [39, 68, 75, 77, 78, 84] V V192 := agV190.up hV192 rfl
    refine lv_aload_n hx hb dX5_worksWith_163 rfl (lv_at hl 2 rfl) ?_
    refine lv_bipush (v := 6) hx hb dX5_worksWith_164 (by decide) ?_
    refine va_putN (D := D) (ci := 4) (v := .int 6) (ty := tyX4 1) (fs := (xfFrame V192 gf)) (C := RX4) (T := TX4) (N := 19) hx hb hg inX4 tyX4 tyX4_ok nmX4 hown hK hP hD hS (336 + gf) (xgFrame hgf) rfl 1 (by decide) (hnw.use 1190 n1190 rfl) (fun _ h9 => h9) rfl (tyX4_ok 1 (by decide)) rfl rfl (Nat.le_of_ble_eq_true rfl) dX5_worksWith_166 (fun H locs hP hD hS => ?_)
    obtain ⟨V194, hV194⟩ : ∃ z, z = up2 V192 68 gf 6 := ⟨_, rfl⟩
    have ew195 : (xw ad kk V192 L Z).set (336 + gf) ((Z.fa gf), .inr (4, (xfFrame V192 gf).set 1 (.int 6))) = xw ad kk V194 L Z := by rw [hV194]; exact xpFrame_phase hgf
    have hP : va_P D vwCl (xw ad kk V194 L Z) H := by rw [← ew195]; exact hP
    have hD : va_D A (xw ad kk V194 L Z) := by rw [← ew195]; exact hD
    have hMV194 : rgd bX V194 := hMV192.put hV194 (i_full _)
    have agV194 : agr [(5, 6), (5, 7), (5, 9), (5, 11), (5, 12)] [39, 68, 75, 77, 78, 84] V V194 := agV192.up hV194 rfl
    refine lv_iconst (v := 0) hx hb dX5_worksWith_169 (by decide) ?_
    have pq196 : (V194 5 6).toInt = ((V 5 6)).toInt := congrArg Int32.toInt ((up2_o hV194 (by decide)).trans ((up2_o hV192 (by decide)).trans ((ajV190 5 6 rfl).trans ((up2_o hV185 (by decide)).trans ((up2_o hV183 (by decide)).trans (up2_o hV18 (by decide)))))))
    have pq197 : (V194 67 gf).toInt = ((V 67 gf)).toInt := congrArg Int32.toInt ((up2_o hV194 (by decide)).trans ((up2_o hV192 (by decide)).trans ((ajV190 67 gf rfl).trans ((up2_o hV185 (by decide)).trans ((up2_o hV183 (by decide)).trans (up2_o hV18 (by decide)))))))
    have pq198 : (V194 68 gf).toInt = 6 := (congrArg Int32.toInt (up2_s hV194)).trans (by decide)
    have me199 : ME Va V194 gf := (ME.up (ME.up (ME.tr (ME.up (ME.up (ME.up mV hV18 (Or.inl ⟨by decide, by decide, Nat.le_refl _⟩)) hV183 (Or.inl ⟨by decide, by decide, Nat.le_refl _⟩)) hV185 (Or.inl ⟨by decide, by decide, Nat.le_refl _⟩)) (ME.ag ajV190 (by decide))) hV192 (Or.inl ⟨by decide, by decide, Nat.le_refl _⟩)) hV194 (Or.inl ⟨by decide, by decide, Nat.le_refl _⟩))
    have pq200 : (V194 70 gf).toInt = ((V 70 gf)).toInt := congrArg Int32.toInt ((up2_o hV194 (by decide)).trans ((up2_o hV192 (by decide)).trans ((ajV190 70 gf rfl).trans ((up2_o hV185 (by decide)).trans ((up2_o hV183 (by decide)).trans (up2_o hV18 (by decide)))))))
    have pq201 : (V194 71 gf).toInt = ((V 71 gf)).toInt := congrArg Int32.toInt ((up2_o hV194 (by decide)).trans ((up2_o hV192 (by decide)).trans ((ajV190 71 gf rfl).trans ((up2_o hV185 (by decide)).trans ((up2_o hV183 (by decide)).trans (up2_o hV18 (by decide)))))))
    have pq202 : (V194 75 gf).toInt = 0 := (congrArg Int32.toInt ((up2_o hV194 (by decide)).trans ((up2_o hV192 (by decide)).trans ((ajV190 75 gf rfl).trans ((up2_o hV185 (by decide)).trans (up2_s hV183)))))).trans (by decide)
    have pq203 : (V194 76 gf).toInt = ((V 76 gf)).toInt := congrArg Int32.toInt ((up2_o hV194 (by decide)).trans ((up2_o hV192 (by decide)).trans ((ajV190 76 gf rfl).trans ((up2_o hV185 (by decide)).trans ((up2_o hV183 (by decide)).trans (up2_o hV18 (by decide)))))))
    have pq204 : (V194 80 gf).toInt = ((V 80 gf)).toInt := congrArg Int32.toInt ((up2_o hV194 (by decide)).trans ((up2_o hV192 (by decide)).trans ((ajV190 80 gf rfl).trans ((up2_o hV185 (by decide)).trans ((up2_o hV183 (by decide)).trans (up2_o hV18 (by decide)))))))
    have pq205 : (V194 84 gf).toInt = z17.toInt := congrArg Int32.toInt ((up2_o hV194 (by decide)).trans ((up2_o hV192 (by decide)).trans ((ajV190 84 gf rfl).trans ((up2_o hV185 (by decide)).trans ((up2_o hV183 (by decide)).trans (up2_s hV18))))))
    have pq206 : (V194 5 8).toInt = ((V 5 8)).toInt := congrArg Int32.toInt ((up2_o hV194 (by decide)).trans ((up2_o hV192 (by decide)).trans ((ajV190 5 8 rfl).trans ((up2_o hV185 (by decide)).trans ((up2_o hV183 (by decide)).trans (up2_o hV18 (by decide)))))))
    have pq207 : (V194 5 9).toInt = ((V 5 9)).toInt := congrArg Int32.toInt ((up2_o hV194 (by decide)).trans ((up2_o hV192 (by decide)).trans ((ajV190 5 9 rfl).trans ((up2_o hV185 (by decide)).trans ((up2_o hV183 (by decide)).trans (up2_o hV18 (by decide)))))))
    have pq208 : (V194 3 13).toInt = ((V 3 13)).toInt := congrArg Int32.toInt ((up2_o hV194 (by decide)).trans ((up2_o hV192 (by decide)).trans ((ajV190 3 13 rfl).trans ((up2_o hV185 (by decide)).trans ((up2_o hV183 (by decide)).trans (up2_o hV18 (by decide)))))))
    have pq209 : (V194 43 (5 * b + 2)).toInt = ((V 43 (5 * b + 2))).toInt := congrArg Int32.toInt ((up2_o hV194 (by decide)).trans ((up2_o hV192 (by decide)).trans ((ajV190 43 (5 * b + 2) rfl).trans ((up2_o hV185 (by decide)).trans ((up2_o hV183 (by decide)).trans (up2_o hV18 (by decide)))))))
    have pq210 : (V194 42 b).toInt = ((V 42 b)).toInt := congrArg Int32.toInt ((up2_o hV194 (by decide)).trans ((up2_o hV192 (by decide)).trans ((ajV190 42 b rfl).trans ((up2_o hV185 (by decide)).trans ((up2_o hV183 (by decide)).trans (up2_o hV18 (by decide)))))))
    have pq211 : (V194 41 b).toInt = ((V 41 b)).toInt := congrArg Int32.toInt ((up2_o hV194 (by decide)).trans ((up2_o hV192 (by decide)).trans ((ajV190 41 b rfl).trans ((up2_o hV185 (by decide)).trans ((up2_o hV183 (by decide)).trans (up2_o hV18 (by decide)))))))
    have me214 : ME V V194 0 := (ME.up (ME.up (ME.tr (ME.up (ME.up (ME.up ME.rf hV18 (Or.inl ⟨by decide, by decide, by first | omega | ((try (have i_hz17 := Imp.go hz17 (by omega))); (try (have i_hop := Imp.go hop (by omega))); (try (have i_moa := Imp.go moa (by omega))); (try (have i_moa := Imp.go moa (by omega))); (try (have i_hop := Imp.go hop (by omega))); (try (have i_hz17 := Imp.go hz17 (by omega))); omega)⟩)) hV183 (Or.inl ⟨by decide, by decide, by first | omega | ((try (have i_hz17 := Imp.go hz17 (by omega))); (try (have i_hop := Imp.go hop (by omega))); (try (have i_moa := Imp.go moa (by omega))); (try (have i_moa := Imp.go moa (by omega))); (try (have i_hop := Imp.go hop (by omega))); (try (have i_hz17 := Imp.go hz17 (by omega))); omega)⟩)) hV185 (Or.inl ⟨by decide, by decide, by first | omega | ((try (have i_hz17 := Imp.go hz17 (by omega))); (try (have i_hop := Imp.go hop (by omega))); (try (have i_moa := Imp.go moa (by omega))); (try (have i_moa := Imp.go moa (by omega))); (try (have i_hop := Imp.go hop (by omega))); (try (have i_hz17 := Imp.go hz17 (by omega))); omega)⟩)) (ME.ag ajV190 (by decide))) hV192 (Or.inl ⟨by decide, by decide, by first | omega | ((try (have i_hz17 := Imp.go hz17 (by omega))); (try (have i_hop := Imp.go hop (by omega))); (try (have i_moa := Imp.go moa (by omega))); (try (have i_moa := Imp.go moa (by omega))); (try (have i_hop := Imp.go hop (by omega))); (try (have i_hz17 := Imp.go hz17 (by omega))); omega)⟩)) hV194 (Or.inl ⟨by decide, by decide, by first | omega | ((try (have i_hz17 := Imp.go hz17 (by omega))); (try (have i_hop := Imp.go hop (by omega))); (try (have i_moa := Imp.go moa (by omega))); (try (have i_moa := Imp.go moa (by omega))); (try (have i_hop := Imp.go hop (by omega))); (try (have i_hz17 := Imp.go hz17 (by omega))); omega)⟩))
    have ep215 : V194 84 gf = z17 := ((up2_o hV194 (by decide)).trans ((up2_o hV192 (by decide)).trans ((ajV190 84 gf rfl).trans ((up2_o hV185 (by decide)).trans ((up2_o hV183 (by decide)).trans (up2_s hV18))))))
    have af213 : (V194 42 b).toInt ≤ (V194 84 gf).toInt ∨ (bdp V194 b (V194 84 gf).toInt.toNat).1 = true := by rw [ep215, me214.1.bd, me214.1 42 b (by decide) (by decide)]; exact atn
    have mo212 : MO V194 Z b gf True (QN V194 b) (QN V194 b) := MO.ch mo me199 ((up2_o hV194 (by decide)).trans ((up2_o hV192 (by decide)).trans ((ajV190 67 gf rfl).trans ((up2_o hV185 (by decide)).trans ((up2_o hV183 (by decide)).trans ((up2_o hV18 (by decide)).trans ea67.symm)))))) ((up2_o hV194 (by decide)).trans ((up2_o hV192 (by decide)).trans ((ajV190 80 gf rfl).trans ((up2_o hV185 (by decide)).trans ((up2_o hV183 (by decide)).trans ((up2_o hV18 (by decide)).trans ea80.symm)))))) (fun _ => Or.inl (by omega)) (fun x h => FK.k4 (by first | omega | ((try (have i_hz17 := Imp.go hz17 (by omega))); (try (have i_hop := Imp.go hop (by omega))); (try (have i_moa := Imp.go moa (by omega))); (try (have i_moa := Imp.go moa (by omega))); (try (have i_hop := Imp.go hop (by omega))); (try (have i_hz17 := Imp.go hz17 (by omega))); omega)) (by first | omega | ((try (have i_hz17 := Imp.go hz17 (by omega))); (try (have i_hop := Imp.go hop (by omega))); (try (have i_moa := Imp.go moa (by omega))); (try (have i_moa := Imp.go moa (by omega))); (try (have i_hop := Imp.go hop (by omega))); (try (have i_hz17 := Imp.go hz17 (by omega))); omega)) (by first | omega | ((try (have i_hz17 := Imp.go hz17 (by omega))); (try (have i_hop := Imp.go hop (by omega))); (try (have i_moa := Imp.go moa (by omega))); (try (have i_moa := Imp.go moa (by omega))); (try (have i_hop := Imp.go hop (by omega))); (try (have i_hz17 := Imp.go hz17 (by omega))); omega)) af213 (by first | omega | ((try (have i_hz17 := Imp.go hz17 (by omega))); (try (have i_hop := Imp.go hop (by omega))); (try (have i_moa := Imp.go moa (by omega))); (try (have i_moa := Imp.go moa (by omega))); (try (have i_hop := Imp.go hop (by omega))); (try (have i_hz17 := Imp.go hz17 (by omega))); omega)) (fun hph => absurd hph (by omega)))
    have rp216 : MJ V194 Z b := MO.mj mo212 (by (first | exact om_c09d41618ed8 hgf | omega)) (by (first | exact om_82fa09255765 gd pq196 | omega)) id id Or.inr
    exact W.zret (v := 0) hx hb hr rfl (fun t ht hW => ⟨⟨0, (V194, L), rfl, ⟨hMV194, agV194, rfl, (by decide), (Imp.mk (fun hp => absurd hp (by decide))), (Imp.mk (fun _ => rp216)), (Imp.mk (fun hp => absurd hp (by decide)))⟩, by rw [ht]; exact hP, va_K.moved hW.alike hK, hD⟩, hS.F ht⟩) hS.2.2 dX5_worksWith_170
  · skip
    have f217 : ((V 84 gf)).toInt < ((V 42 b)).toInt := b_nle rfl rfl c14
    refine lv_aload_n hx hb dX5_worksWith_14 rfl (lv_at hl 0 rfl) ?_
    refine va_get (D := D) (ci := 5) (v := .ref (ad (38 + Int32.toNatClampNeg (V 5 5)))) (fs := (xfMachine ad V L Z)) (C := RX5) (T := TX5) (N := 15) hx hb hg inX5 hown hK hP 5 xgMachine rfl 5 (by decide) (hg _ w672) (fun _ h9 => h9) rfl dX5_worksWith_15 ?_
    refine g_topv (v := .ref (ad (38 + b))) (rfP (by first | omega | ((try (have i_hop := Imp.go hop (by omega))); (try (have i_moa := Imp.go moa (by omega))); (try (have i_moa := Imp.go moa (by omega))); (try (have i_hop := Imp.go hop (by omega))); omega))) ?_
    refine va_getN (D := D) (ci := 0) (v := .ref (ad (70 + b))) (fs := (xfBook ad V b)) (C := RX0) (T := TX0) (N := 13) hx hb hg inX0 hown hK hP (38 + b) (xgBook hb2) rfl 10 (by decide) (hnw.use 624 n624 rfl) (fun _ h9 => h9) rfl dX5_worksWith_18 ?_
    refine lv_aload_n hx hb dX5_worksWith_21 rfl (lv_at hl 1 rfl) ?_
    refine va_getN (D := D) (ci := 4) (v := .int (V 84 gf)) (fs := (xfFrame V gf)) (C := RX4) (T := TX4) (N := 19) hx hb hg inX4 hown hK hP (336 + gf) (xgFrame hgf) rfl 17 (by decide) (hnw.use 1206 n1206 rfl) (fun _ h9 => h9) rfl dX5_worksWith_22 ?_
    have il218 : b < 2 := by first | exact om_f940a4667dd6 hb2 | first | omega | ((try (have i_hop := Imp.go hop (by omega))); (try (have i_moa := Imp.go moa (by omega))); (try (have i_moa := Imp.go moa (by omega))); (try (have i_hop := Imp.go hop (by omega))); omega)
    refine va_iald (D := D) (i := (V 84 gf)) hx hb hK hP (70 + b) (63 + b) (xgcode il218) (xtcode il218) (i_in (a := ((V 84 gf)).toInt) rfl (by first | exact om_86430a6a9738 r2.1 r12.2 f217 | first | omega | ((try (have i_hop := Imp.go hop (by omega))); (try (have i_moa := Imp.go moa (by omega))); (try (have i_moa := Imp.go moa (by omega))); (try (have i_hop := Imp.go hop (by omega))); omega))) dX5_worksWith_25 ?_
    have kc219 := i_clamp (x := (V 84 gf)) rfl (by first | exact om_eafa9039069c r2.1 | first | omega | ((try (have i_hop := Imp.go hop (by omega))); (try (have i_moa := Imp.go moa (by omega))); (try (have i_moa := Imp.go moa (by omega))); (try (have i_hop := Imp.go hop (by omega))); omega))
    refine g_top (v := V 48 (8200 * b + (Int32.toNatClampNeg (V 84 gf)))) (if_pos (by first | omega | ((try (have i_hop := Imp.go hop (by omega))); (try (have i_moa := Imp.go moa (by omega))); (try (have i_moa := Imp.go moa (by omega))); (try (have i_hop := Imp.go hop (by omega))); omega))) ?_
    refine lv_goto (tgt := 30) hx hb dX5_worksWith_26 (by decide) ?_
    refine lv_istore_n (lv' := [(3, .int (V 48 (8200 * b + (Int32.toNatClampNeg (V 84 gf))))), (0, .ref (ad 5)), (1, .ref (Z.fa gf)), (2, .int p1)]) hx hb dX5_worksWith_30 rfl hl (by decide) rfl (fun ls hl => ?_)
    refine lv_aload_n hx hb dX5_worksWith_31 rfl (lv_at hl 2 rfl) ?_
    refine lv_dup hx hb dX5_worksWith_32 rfl ?_
    refine va_getN (D := D) (ci := 4) (v := .int (V 84 gf)) (fs := (xfFrame V gf)) (C := RX4) (T := TX4) (N := 19) hx hb hg inX4 hown hK hP (336 + gf) (xgFrame hgf) rfl 17 (by decide) (hnw.use 1206 n1206 rfl) (fun _ h9 => h9) rfl dX5_worksWith_33 ?_
    refine lv_iconst (v := 1) hx hb dX5_worksWith_36 (by decide) ?_
    refine lv_iadd hx hb dX5_worksWith_37 ?_
    refine lv_topi (fun z220 ez220 => ?_)
    have hz220 : z220.toInt = ((V 84 gf)).toInt + 1 := i_add ez220 rfl (by decide) (by (first | exact om_5262a3c18483 r2.1 r12.2 f217 | omega))
    refine va_putN (D := D) (ci := 4) (v := .int z220) (ty := tyX4 17) (fs := (xfFrame V gf)) (C := RX4) (T := TX4) (N := 19) hx hb hg inX4 tyX4 tyX4_ok nmX4 hown hK hP hD hS (336 + gf) (xgFrame hgf) rfl 17 (by decide) (hnw.use 1206 n1206 rfl) (fun _ h9 => h9) rfl (tyX4_ok 17 (by decide)) rfl rfl (Nat.le_of_ble_eq_true rfl) dX5_worksWith_38 (fun H locs hP hD hS => ?_)
    obtain ⟨V221, hV221⟩ : ∃ z, z = up2 V 84 gf z220 := ⟨_, rfl⟩
    have ew222 : (xw ad kk V L Z).set (336 + gf) ((Z.fa gf), .inr (4, (xfFrame V gf).set 17 (.int z220))) = xw ad kk V221 L Z := by rw [hV221]; exact xpFrame_at hgf
    have hP : va_P D vwCl (xw ad kk V221 L Z) H := by rw [← ew222]; exact hP
    have hD : va_D A (xw ad kk V221 L Z) := by rw [← ew222]; exact hD
    have hMV221 : rgd bX V221 := hMV.put hV221 (show 0 ≤ z220.toInt ∧ z220.toInt ≤ 2147483647 from by first | exact om_013d27fd8c38 r2.1 r12.2 f217 hz220 | first | omega | ((try (have i_hop := Imp.go hop (by omega))); (try (have i_moa := Imp.go moa (by omega))); (try (have i_moa := Imp.go moa (by omega))); (try (have i_hop := Imp.go hop (by omega))); omega))
    have agV221 : agr [(5, 6), (5, 7), (5, 9), (5, 11), (5, 12)] [39, 68, 75, 77, 78, 84] V V221 := agV.up hV221 rfl
    have kca := i_clamp (x := V 84 gf) rfl (by (first | exact om_eafa9039069c r2.1 | omega))
    have hop1 := hop (Int32.toNatClampNeg (V 84 gf)) (by omega) (by omega)
    have atn : (V 42 b).toInt ≤ z220.toInt ∨ (bdp V b z220.toInt.toNat).1 = true := Or.inr (by rw [show z220.toInt.toNat = Int32.toNatClampNeg (V 84 gf) + 1 from by first | omega | ((try (have i_hop := Imp.go hop (by omega))); (try (have i_moa := Imp.go moa (by omega))); (try (have i_moa := Imp.go moa (by omega))); (try (have i_hop := Imp.go hop (by omega))); omega)]; exact hop1.2)
    refine lv_iload_n hx hb dX5_worksWith_41 rfl (lv_at hl 3 rfl) ?_
    by_cases q223 : p1 = 10
    · refine g_top (v := 10) q223 ?_
      have fq223 : p1.toInt = 10 := b_eq rfl (by decide) q223
      refine lv_tableIn (x := 10) (off := 34) (tgt := 76) hx hb dX5_worksWith_42 (by decide) (by decide) (by decide) (by decide) ?_
      refine lv_aload_n hx hb dX5_worksWith_76 rfl (lv_at hl 1 rfl) ?_
      refine lv_iload_n hx hb dX5_worksWith_77 rfl (lv_at hl 0 rfl) ?_
      refine gA_void (gA_runV (As := [.int (V 48 (8200 * b + (Int32.toNatClampNeg (V 84 gf))))]) (rest := []) (ci := 5) (q0 := 5) hx hb hml hown hg hP hD hK hS hA hnw hgk (x_mput l D ks H.size ad kk V221 L Z (V 48 (8200 * b + (Int32.toNatClampNeg (V 84 gf)))) hMV221 ) w1466 w1468 w72 w171 w1469 rfl xgMachine hdV_yX5_put ⟨Nat.le_of_ble_eq_true rfl, Nat.le_of_ble_eq_true rfl⟩ rfl hl.1 rfl (Nat.le_of_ble_eq_true rfl) dX5_worksWith_78 ⟨Nat.le_of_ble_eq_true rfl, Nat.le_of_ble_eq_true rfl⟩) hP hD hK hS hA (fun u225 H locs w226 hP hD hK hS => ?_)
      obtain ⟨V227, L228⟩ := u225
      obtain ⟨hMV227, ajV227, axL228⟩ := w226
      have axL228 : L = L228 := Eq.symm axL228
      subst axL228
      have hP : va_P D vwCl (xw ad kk V227 L Z) H := hP
      have hD : va_D A (xw ad kk V227 L Z) := hD
      have hMV227 : rgd bX V227 := hMV227
      have ajV227 : agr [(5, 7)] [39] V221 V227 := ajV227
      have agV227 : agr [(5, 6), (5, 7), (5, 9), (5, 11), (5, 12)] [39, 68, 75, 77, 78, 84] V V227 := agV221.tr ajV227 (by decide) (by decide)
      refine lv_iconst (v := 1) hx hb dX5_worksWith_81 (by decide) ?_
      have pq229 : (V227 5 6).toInt = ((V 5 6)).toInt := congrArg Int32.toInt ((ajV227 5 6 rfl).trans (up2_o hV221 (by decide)))
      have pq230 : (V227 67 gf).toInt = ((V 67 gf)).toInt := congrArg Int32.toInt ((ajV227 67 gf rfl).trans (up2_o hV221 (by decide)))
      have pq231 : (V227 68 gf).toInt = ((V 68 gf)).toInt := congrArg Int32.toInt ((ajV227 68 gf rfl).trans (up2_o hV221 (by decide)))
      have me232 : ME Va V227 gf := (ME.tr (ME.up mV hV221 (Or.inl ⟨by decide, by decide, Nat.le_refl _⟩)) (ME.ag ajV227 (by decide)))
      have pq233 : (V227 70 gf).toInt = ((V 70 gf)).toInt := congrArg Int32.toInt ((ajV227 70 gf rfl).trans (up2_o hV221 (by decide)))
      have pq234 : (V227 71 gf).toInt = ((V 71 gf)).toInt := congrArg Int32.toInt ((ajV227 71 gf rfl).trans (up2_o hV221 (by decide)))
      have pq235 : (V227 75 gf).toInt = ((V 75 gf)).toInt := congrArg Int32.toInt ((ajV227 75 gf rfl).trans (up2_o hV221 (by decide)))
      have pq236 : (V227 76 gf).toInt = ((V 76 gf)).toInt := congrArg Int32.toInt ((ajV227 76 gf rfl).trans (up2_o hV221 (by decide)))
      have pq237 : (V227 80 gf).toInt = ((V 80 gf)).toInt := congrArg Int32.toInt ((ajV227 80 gf rfl).trans (up2_o hV221 (by decide)))
      have pq238 : (V227 84 gf).toInt = z220.toInt := congrArg Int32.toInt ((ajV227 84 gf rfl).trans (up2_s hV221))
      have pq239 : (V227 5 8).toInt = ((V 5 8)).toInt := congrArg Int32.toInt ((ajV227 5 8 rfl).trans (up2_o hV221 (by decide)))
      have pq240 : (V227 5 9).toInt = ((V 5 9)).toInt := congrArg Int32.toInt ((ajV227 5 9 rfl).trans (up2_o hV221 (by decide)))
      have pq241 : (V227 3 13).toInt = ((V 3 13)).toInt := congrArg Int32.toInt ((ajV227 3 13 rfl).trans (up2_o hV221 (by decide)))
      have pq242 : (V227 43 (5 * b + 2)).toInt = ((V 43 (5 * b + 2))).toInt := congrArg Int32.toInt ((ajV227 43 (5 * b + 2) rfl).trans (up2_o hV221 (by decide)))
      have pq243 : (V227 42 b).toInt = ((V 42 b)).toInt := congrArg Int32.toInt ((ajV227 42 b rfl).trans (up2_o hV221 (by decide)))
      have pq244 : (V227 41 b).toInt = ((V 41 b)).toInt := congrArg Int32.toInt ((ajV227 41 b rfl).trans (up2_o hV221 (by decide)))
      have me247 : ME V V227 0 := (ME.tr (ME.up ME.rf hV221 (Or.inl ⟨by decide, by decide, by first | omega | ((try (have i_hop := Imp.go hop (by omega))); (try (have i_moa := Imp.go moa (by omega))); (try (have i_moa := Imp.go moa (by omega))); (try (have i_hop := Imp.go hop (by omega))); omega)⟩)) (ME.ag ajV227 (by decide)))
      have af246 : (V227 42 b).toInt ≤ (V227 84 gf).toInt ∨ (bdp V227 b (V227 84 gf).toInt.toNat).1 = true := by rw [((ajV227 84 gf rfl).trans (up2_s hV221)), me247.1.bd, me247.1 42 b (by decide) (by decide)]; exact atn
      have mo245 : MO V227 Z b gf True True True := MO.ch mo me232 ((ajV227 67 gf rfl).trans ((up2_o hV221 (by decide)).trans ea67.symm)) ((ajV227 80 gf rfl).trans ((up2_o hV221 (by decide)).trans ea80.symm)) (fun _ => Or.inl (by omega)) (fun x h => FK.k4 (by first | omega | ((try (have i_hop := Imp.go hop (by omega))); (try (have i_moa := Imp.go moa (by omega))); (try (have i_moa := Imp.go moa (by omega))); (try (have i_hop := Imp.go hop (by omega))); omega)) (by first | omega | ((try (have i_hop := Imp.go hop (by omega))); (try (have i_moa := Imp.go moa (by omega))); (try (have i_moa := Imp.go moa (by omega))); (try (have i_hop := Imp.go hop (by omega))); omega)) (by first | omega | ((try (have i_hop := Imp.go hop (by omega))); (try (have i_moa := Imp.go moa (by omega))); (try (have i_moa := Imp.go moa (by omega))); (try (have i_hop := Imp.go hop (by omega))); omega)) af246 (by first | omega | ((try (have i_hop := Imp.go hop (by omega))); (try (have i_moa := Imp.go moa (by omega))); (try (have i_moa := Imp.go moa (by omega))); (try (have i_hop := Imp.go hop (by omega))); omega)) (fun hph => absurd hph (by omega)))
      exact W.zret (v := 1) hx hb hr rfl (fun t ht hW => ⟨⟨1, (V227, L), rfl, ⟨hMV227, agV227, rfl, (by decide), (Imp.mk (fun _ => mo245)), (Imp.mk (fun hp => absurd hp (by decide))), (Imp.mk (fun _ => (show (V227 5 6).toInt = (V 5 6).toInt ∧ (V227 67 gf).toInt = 4 ∧ (V227 68 gf).toInt = 0 from by first | exact om_a46bf36ddf1a gk gph pq229 pq230 pq231 | first | omega | ((try (have i_hop := Imp.go hop (by omega))); (try (have i_moa := Imp.go moa (by omega))); (try (have i_moa := Imp.go moa (by omega))); (try (have i_hop := Imp.go hop (by omega))); omega))))⟩, by rw [ht]; exact hP, va_K.moved hW.alike hK, hD⟩, hS.F ht⟩) hS.2.2 dX5_worksWith_82
    have gq223 : p1.toInt ≠ 10 := b_neq rfl (by decide) q223
    by_cases q248 : p1 = 11
    · refine g_top (v := 11) q248 ?_
      have fq248 : p1.toInt = 11 := b_eq rfl (by decide) q248
      refine lv_tableIn (x := 11) (off := 41) (tgt := 83) hx hb dX5_worksWith_42 (by decide) (by decide) (by decide) (by decide) ?_
      have hwo := hop1.1.1 (by omega)
      refine lv_aload_n hx hb dX5_worksWith_83 rfl (lv_at hl 1 rfl) ?_
      refine lv_aload_n hx hb dX5_worksWith_84 rfl (lv_at hl 1 rfl) ?_
      refine va_get (D := D) (ci := 5) (v := .ref (ad (38 + Int32.toNatClampNeg (V221 5 5)))) (fs := (xfMachine ad V221 L Z)) (C := RX5) (T := TX5) (N := 15) hx hb hg inX5 hown hK hP 5 xgMachine rfl 5 (by decide) (hg _ w672) (fun _ h9 => h9) rfl dX5_worksWith_85 ?_
      have pq249 : (V221 5 5).toInt = ((V 5 5)).toInt := congrArg Int32.toInt (up2_o hV221 (by decide))
      refine g_topv (v := .ref (ad (38 + b))) (rfP (by first | omega | ((try (have i_hop := Imp.go hop (by omega))); (try (have i_moa := Imp.go moa (by omega))); (try (have i_moa := Imp.go moa (by omega))); (try (have i_hop := Imp.go hop (by omega))); omega))) ?_
      refine va_getN (D := D) (ci := 0) (v := .ref (ad (62 + b))) (fs := (xfBook ad V221 b)) (C := RX0) (T := TX0) (N := 13) hx hb hg inX0 hown hK hP (38 + b) (xgBook hb2) rfl 6 (by decide) (hnw.use 613 n613 rfl) (fun _ h9 => h9) rfl dX5_worksWith_88 ?_
      refine lv_iload_n hx hb dX5_worksWith_91 rfl (lv_at hl 0 rfl) ?_
      have il250 : b < 2 := by first | exact om_f940a4667dd6 hb2 | first | omega | ((try (have i_hop := Imp.go hop (by omega))); (try (have i_moa := Imp.go moa (by omega))); (try (have i_moa := Imp.go moa (by omega))); (try (have i_hop := Imp.go hop (by omega))); omega)
      refine va_iald (D := D) (i := (V 48 (8200 * b + (Int32.toNatClampNeg (V 84 gf))))) hx hb hK hP (62 + b) (55 + b) (xgsettingValues il250) (xtsettingValues il250) (i_in (a := ((V 48 (8200 * b + (Int32.toNatClampNeg (V 84 gf))))).toInt) rfl (by first | omega | ((try (have i_hop := Imp.go hop (by omega))); (try (have i_moa := Imp.go moa (by omega))); (try (have i_moa := Imp.go moa (by omega))); (try (have i_hop := Imp.go hop (by omega))); omega))) dX5_worksWith_92 ?_
      have kc251 := i_clamp (x := (V 48 (8200 * b + (Int32.toNatClampNeg (V 84 gf))))) rfl (by first | omega | ((try (have i_hop := Imp.go hop (by omega))); (try (have i_moa := Imp.go moa (by omega))); (try (have i_moa := Imp.go moa (by omega))); (try (have i_hop := Imp.go hop (by omega))); omega))
      refine g_top (v := V221 46 (12 * b + (Int32.toNatClampNeg (V 48 (8200 * b + (Int32.toNatClampNeg (V 84 gf))))))) (if_pos (by first | omega | ((try (have i_hop := Imp.go hop (by omega))); (try (have i_moa := Imp.go moa (by omega))); (try (have i_moa := Imp.go moa (by omega))); (try (have i_hop := Imp.go hop (by omega))); omega))) ?_
      refine g_top (v := (V 46 (12 * b + (Int32.toNatClampNeg (V 48 (8200 * b + (Int32.toNatClampNeg (V 84 gf)))))))) (up2_o hV221 (by decide)) ?_
      refine gA_void (gA_runV (As := [.int (V 46 (12 * b + (Int32.toNatClampNeg (V 48 (8200 * b + (Int32.toNatClampNeg (V 84 gf)))))))]) (rest := []) (ci := 5) (q0 := 5) hx hb hml hown hg hP hD hK hS hA hnw hgk (x_mput l D ks H.size ad kk V221 L Z (V 46 (12 * b + (Int32.toNatClampNeg (V 48 (8200 * b + (Int32.toNatClampNeg (V 84 gf))))))) hMV221 ) w1466 w1468 w72 w171 w1469 rfl xgMachine hdV_yX5_put ⟨Nat.le_of_ble_eq_true rfl, Nat.le_of_ble_eq_true rfl⟩ rfl hl.1 rfl (Nat.le_of_ble_eq_true rfl) dX5_worksWith_93 ⟨Nat.le_of_ble_eq_true rfl, Nat.le_of_ble_eq_true rfl⟩) hP hD hK hS hA (fun u253 H locs w254 hP hD hK hS => ?_)
      obtain ⟨V255, L256⟩ := u253
      obtain ⟨hMV255, ajV255, axL256⟩ := w254
      have axL256 : L = L256 := Eq.symm axL256
      subst axL256
      have hP : va_P D vwCl (xw ad kk V255 L Z) H := hP
      have hD : va_D A (xw ad kk V255 L Z) := hD
      have hMV255 : rgd bX V255 := hMV255
      have ajV255 : agr [(5, 7)] [39] V221 V255 := ajV255
      have agV255 : agr [(5, 6), (5, 7), (5, 9), (5, 11), (5, 12)] [39, 68, 75, 77, 78, 84] V V255 := agV221.tr ajV255 (by decide) (by decide)
      refine lv_iconst (v := 1) hx hb dX5_worksWith_96 (by decide) ?_
      have pq257 : (V255 5 6).toInt = ((V 5 6)).toInt := congrArg Int32.toInt ((ajV255 5 6 rfl).trans (up2_o hV221 (by decide)))
      have pq258 : (V255 67 gf).toInt = ((V 67 gf)).toInt := congrArg Int32.toInt ((ajV255 67 gf rfl).trans (up2_o hV221 (by decide)))
      have pq259 : (V255 68 gf).toInt = ((V 68 gf)).toInt := congrArg Int32.toInt ((ajV255 68 gf rfl).trans (up2_o hV221 (by decide)))
      have me260 : ME Va V255 gf := (ME.tr (ME.up mV hV221 (Or.inl ⟨by decide, by decide, Nat.le_refl _⟩)) (ME.ag ajV255 (by decide)))
      have pq261 : (V255 70 gf).toInt = ((V 70 gf)).toInt := congrArg Int32.toInt ((ajV255 70 gf rfl).trans (up2_o hV221 (by decide)))
      have pq262 : (V255 71 gf).toInt = ((V 71 gf)).toInt := congrArg Int32.toInt ((ajV255 71 gf rfl).trans (up2_o hV221 (by decide)))
      have pq263 : (V255 75 gf).toInt = ((V 75 gf)).toInt := congrArg Int32.toInt ((ajV255 75 gf rfl).trans (up2_o hV221 (by decide)))
      have pq264 : (V255 76 gf).toInt = ((V 76 gf)).toInt := congrArg Int32.toInt ((ajV255 76 gf rfl).trans (up2_o hV221 (by decide)))
      have pq265 : (V255 80 gf).toInt = ((V 80 gf)).toInt := congrArg Int32.toInt ((ajV255 80 gf rfl).trans (up2_o hV221 (by decide)))
      have pq266 : (V255 84 gf).toInt = z220.toInt := congrArg Int32.toInt ((ajV255 84 gf rfl).trans (up2_s hV221))
      have pq267 : (V255 5 8).toInt = ((V 5 8)).toInt := congrArg Int32.toInt ((ajV255 5 8 rfl).trans (up2_o hV221 (by decide)))
      have pq268 : (V255 5 9).toInt = ((V 5 9)).toInt := congrArg Int32.toInt ((ajV255 5 9 rfl).trans (up2_o hV221 (by decide)))
      have pq269 : (V255 3 13).toInt = ((V 3 13)).toInt := congrArg Int32.toInt ((ajV255 3 13 rfl).trans (up2_o hV221 (by decide)))
      have pq270 : (V255 43 (5 * b + 2)).toInt = ((V 43 (5 * b + 2))).toInt := congrArg Int32.toInt ((ajV255 43 (5 * b + 2) rfl).trans (up2_o hV221 (by decide)))
      have pq271 : (V255 42 b).toInt = ((V 42 b)).toInt := congrArg Int32.toInt ((ajV255 42 b rfl).trans (up2_o hV221 (by decide)))
      have pq272 : (V255 41 b).toInt = ((V 41 b)).toInt := congrArg Int32.toInt ((ajV255 41 b rfl).trans (up2_o hV221 (by decide)))
      have me275 : ME V V255 0 := (ME.tr (ME.up ME.rf hV221 (Or.inl ⟨by decide, by decide, by first | omega | ((try (have i_hop := Imp.go hop (by omega))); (try (have i_moa := Imp.go moa (by omega))); (try (have i_moa := Imp.go moa (by omega))); (try (have i_hop := Imp.go hop (by omega))); omega)⟩)) (ME.ag ajV255 (by decide)))
      have af274 : (V255 42 b).toInt ≤ (V255 84 gf).toInt ∨ (bdp V255 b (V255 84 gf).toInt.toNat).1 = true := by rw [((ajV255 84 gf rfl).trans (up2_s hV221)), me275.1.bd, me275.1 42 b (by decide) (by decide)]; exact atn
      have mo273 : MO V255 Z b gf True True True := MO.ch mo me260 ((ajV255 67 gf rfl).trans ((up2_o hV221 (by decide)).trans ea67.symm)) ((ajV255 80 gf rfl).trans ((up2_o hV221 (by decide)).trans ea80.symm)) (fun _ => Or.inl (by omega)) (fun x h => FK.k4 (by first | omega | ((try (have i_hop := Imp.go hop (by omega))); (try (have i_moa := Imp.go moa (by omega))); (try (have i_moa := Imp.go moa (by omega))); (try (have i_hop := Imp.go hop (by omega))); omega)) (by first | omega | ((try (have i_hop := Imp.go hop (by omega))); (try (have i_moa := Imp.go moa (by omega))); (try (have i_moa := Imp.go moa (by omega))); (try (have i_hop := Imp.go hop (by omega))); omega)) (by first | omega | ((try (have i_hop := Imp.go hop (by omega))); (try (have i_moa := Imp.go moa (by omega))); (try (have i_moa := Imp.go moa (by omega))); (try (have i_hop := Imp.go hop (by omega))); omega)) af274 (by first | omega | ((try (have i_hop := Imp.go hop (by omega))); (try (have i_moa := Imp.go moa (by omega))); (try (have i_moa := Imp.go moa (by omega))); (try (have i_hop := Imp.go hop (by omega))); omega)) (fun hph => absurd hph (by omega)))
      exact W.zret (v := 1) hx hb hr rfl (fun t ht hW => ⟨⟨1, (V255, L), rfl, ⟨hMV255, agV255, rfl, (by decide), (Imp.mk (fun _ => mo273)), (Imp.mk (fun hp => absurd hp (by decide))), (Imp.mk (fun _ => (show (V255 5 6).toInt = (V 5 6).toInt ∧ (V255 67 gf).toInt = 4 ∧ (V255 68 gf).toInt = 0 from by first | exact om_a46bf36ddf1a gk gph pq257 pq258 pq259 | first | omega | ((try (have i_hop := Imp.go hop (by omega))); (try (have i_moa := Imp.go moa (by omega))); (try (have i_moa := Imp.go moa (by omega))); (try (have i_hop := Imp.go hop (by omega))); omega))))⟩, by rw [ht]; exact hP, va_K.moved hW.alike hK, hD⟩, hS.F ht⟩) hS.2.2 dX5_worksWith_97
    have gq248 : p1.toInt ≠ 11 := b_neq rfl (by decide) q248
    by_cases q276 : p1 = 12
    · refine g_top (v := 12) q276 ?_
      have fq276 : p1.toInt = 12 := b_eq rfl (by decide) q276
      refine lv_tableIn (x := 12) (off := 84) (tgt := 126) hx hb dX5_worksWith_42 (by decide) (by decide) (by decide) (by decide) ?_
      refine lv_aload_n hx hb dX5_worksWith_126 rfl (lv_at hl 1 rfl) ?_
      refine lv_iconst (v := 0) hx hb dX5_worksWith_127 (by decide) ?_
      refine lv_iload_n hx hb dX5_worksWith_128 rfl (lv_at hl 0 rfl) ?_
      have r277 : Int32.toInt 0 = 0 := by decide
      refine gA_void (gA_runV (As := [.int 0, .int (V 48 (8200 * b + (Int32.toNatClampNeg (V 84 gf))))]) (rest := []) (ci := 5) (q0 := 5) hx hb hml hown hg hP hD hK hS hA hnw hgk (x_failWith l D ks H.size ad kk V221 L Z 0 (V 48 (8200 * b + (Int32.toNatClampNeg (V 84 gf)))) hMV221 ) w1261 w1263 w46 w171 w1264 rfl xgMachine hdV_yX5_failWith ⟨Nat.le_of_ble_eq_true rfl, Nat.le_of_ble_eq_true rfl⟩ rfl hl.1 rfl (Nat.le_of_ble_eq_true rfl) dX5_worksWith_129 ⟨Nat.le_of_ble_eq_true rfl, Nat.le_of_ble_eq_true rfl⟩) hP hD hK hS hA (fun u279 H locs w280 hP hD hK hS => ?_)
      obtain ⟨V282, L283⟩ := u279
      obtain ⟨hMV282, ajV282, axL283, t281⟩ := w280
      have axL283 : L = L283 := Eq.symm axL283
      subst axL283
      have hP : va_P D vwCl (xw ad kk V282 L Z) H := hP
      have hD : va_D A (xw ad kk V282 L Z) := hD
      have hMV282 : rgd bX V282 := hMV282
      have ajV282 : agr [(5, 9), (5, 11), (5, 12)] [] V221 V282 := ajV282
      have agV282 : agr [(5, 6), (5, 7), (5, 9), (5, 11), (5, 12)] [39, 68, 75, 77, 78, 84] V V282 := agV221.tr ajV282 (by decide) (by decide)
      have t281 : (V282 5 9).toInt = 2 := t281
      have r284 : 0 ≤ ((V282 5 9)).toInt ∧ ((V282 5 9)).toInt ≤ 3 := hMV282 5 9
      refine lv_aload_n hx hb dX5_worksWith_132 rfl (lv_at hl 1 rfl) ?_
      refine lv_aload_n hx hb dX5_worksWith_133 rfl (lv_at hl 2 rfl) ?_
      have pq285 : (V282 5 6).toInt = ((V 5 6)).toInt := congrArg Int32.toInt ((ajV282 5 6 rfl).trans (up2_o hV221 (by decide)))
      have pq286 : (V282 67 gf).toInt = ((V 67 gf)).toInt := congrArg Int32.toInt ((ajV282 67 gf rfl).trans (up2_o hV221 (by decide)))
      have me287 : ME Va V282 gf := (ME.tr (ME.up mV hV221 (Or.inl ⟨by decide, by decide, Nat.le_refl _⟩)) (ME.ag ajV282 (by decide)))
      have pq288 : (V282 68 gf).toInt = ((V 68 gf)).toInt := congrArg Int32.toInt ((ajV282 68 gf rfl).trans (up2_o hV221 (by decide)))
      have pq289 : (V282 70 gf).toInt = ((V 70 gf)).toInt := congrArg Int32.toInt ((ajV282 70 gf rfl).trans (up2_o hV221 (by decide)))
      have pq290 : (V282 71 gf).toInt = ((V 71 gf)).toInt := congrArg Int32.toInt ((ajV282 71 gf rfl).trans (up2_o hV221 (by decide)))
      have pq291 : (V282 75 gf).toInt = ((V 75 gf)).toInt := congrArg Int32.toInt ((ajV282 75 gf rfl).trans (up2_o hV221 (by decide)))
      have pq292 : (V282 76 gf).toInt = ((V 76 gf)).toInt := congrArg Int32.toInt ((ajV282 76 gf rfl).trans (up2_o hV221 (by decide)))
      have pq293 : (V282 80 gf).toInt = ((V 80 gf)).toInt := congrArg Int32.toInt ((ajV282 80 gf rfl).trans (up2_o hV221 (by decide)))
      have pq294 : (V282 84 gf).toInt = z220.toInt := congrArg Int32.toInt ((ajV282 84 gf rfl).trans (up2_s hV221))
      have pq295 : (V282 5 8).toInt = ((V 5 8)).toInt := congrArg Int32.toInt ((ajV282 5 8 rfl).trans (up2_o hV221 (by decide)))
      have pq296 : (V282 3 13).toInt = ((V 3 13)).toInt := congrArg Int32.toInt ((ajV282 3 13 rfl).trans (up2_o hV221 (by decide)))
      have pq297 : (V282 43 (5 * b + 2)).toInt = ((V 43 (5 * b + 2))).toInt := congrArg Int32.toInt ((ajV282 43 (5 * b + 2) rfl).trans (up2_o hV221 (by decide)))
      have pq298 : (V282 42 b).toInt = ((V 42 b)).toInt := congrArg Int32.toInt ((ajV282 42 b rfl).trans (up2_o hV221 (by decide)))
      have pq299 : (V282 41 b).toInt = ((V 41 b)).toInt := congrArg Int32.toInt ((ajV282 41 b rfl).trans (up2_o hV221 (by decide)))
      have me302 : ME V V282 0 := (ME.tr (ME.up ME.rf hV221 (Or.inl ⟨by decide, by decide, by first | omega | ((try (have i_hop := Imp.go hop (by omega))); (try (have i_moa := Imp.go moa (by omega))); (try (have i_moa := Imp.go moa (by omega))); (try (have i_hop := Imp.go hop (by omega))); omega)⟩)) (ME.ag ajV282 (by decide)))
      have af301 : (V282 42 b).toInt ≤ (V282 84 gf).toInt ∨ (bdp V282 b (V282 84 gf).toInt.toNat).1 = true := by rw [((ajV282 84 gf rfl).trans (up2_s hV221)), me302.1.bd, me302.1 42 b (by decide) (by decide)]; exact atn
      have mo300 : MO V282 Z b gf True False True := MO.ch mo me287 ((ajV282 67 gf rfl).trans ((up2_o hV221 (by decide)).trans ea67.symm)) ((ajV282 80 gf rfl).trans ((up2_o hV221 (by decide)).trans ea80.symm)) (fun _ => Or.inl (by omega)) (fun x h => FK.k4 (by first | omega | ((try (have i_hop := Imp.go hop (by omega))); (try (have i_moa := Imp.go moa (by omega))); (try (have i_moa := Imp.go moa (by omega))); (try (have i_hop := Imp.go hop (by omega))); omega)) (by first | omega | ((try (have i_hop := Imp.go hop (by omega))); (try (have i_moa := Imp.go moa (by omega))); (try (have i_moa := Imp.go moa (by omega))); (try (have i_hop := Imp.go hop (by omega))); omega)) (by first | omega | ((try (have i_hop := Imp.go hop (by omega))); (try (have i_moa := Imp.go moa (by omega))); (try (have i_moa := Imp.go moa (by omega))); (try (have i_hop := Imp.go hop (by omega))); omega)) af301 (by first | omega | ((try (have i_hop := Imp.go hop (by omega))); (try (have i_moa := Imp.go moa (by omega))); (try (have i_moa := Imp.go moa (by omega))); (try (have i_hop := Imp.go hop (by omega))); omega)) (fun _ z => z.elim))
      refine gA_void (gA_runV (As := [.ref (Z.fa gf)]) (rest := []) (ci := 5) (q0 := 5) hx hb hml hown hg hP hD hK hS hA hnw hgk (x_endWork2 l D ks H.size ad kk V282 L Z (b) (gf) hMV282 (show b < 2 from by first | exact om_f940a4667dd6 hb2 | first | omega | ((try (have i_hop := Imp.go hop (by omega))); (try (have i_moa := Imp.go moa (by omega))); (try (have i_moa := Imp.go moa (by omega))); (try (have i_hop := Imp.go hop (by omega))); omega)) (show gf < Z.nf from by first | exact om_8c5722e49bb1 hgf | first | omega | ((try (have i_hop := Imp.go hop (by omega))); (try (have i_moa := Imp.go moa (by omega))); (try (have i_moa := Imp.go moa (by omega))); (try (have i_hop := Imp.go hop (by omega))); omega)) mo300 (show (gf : Int) + 1 = (V282 5 6).toInt from by first | exact om_6e5bbaaa0e03 gd pq285 | first | omega | ((try (have i_hop := Imp.go hop (by omega))); (try (have i_moa := Imp.go moa (by omega))); (try (have i_moa := Imp.go moa (by omega))); (try (have i_hop := Imp.go hop (by omega))); omega)) (show (V282 67 gf).toInt = 4 from by first | exact om_ac6651f4ff0c gk pq286 | first | omega | ((try (have i_hop := Imp.go hop (by omega))); (try (have i_moa := Imp.go moa (by omega))); (try (have i_moa := Imp.go moa (by omega))); (try (have i_hop := Imp.go hop (by omega))); omega))) w1458 w1460 w70 w171 w1461 rfl xgMachine hdV_yX5_endWork ⟨Nat.le_of_ble_eq_true rfl, Nat.le_of_ble_eq_true rfl⟩ rfl hl.1 rfl (Nat.le_of_ble_eq_true rfl) dX5_worksWith_134 ⟨Nat.le_of_ble_eq_true rfl, Nat.le_of_ble_eq_true rfl⟩) hP hD hK hS hA (fun u304 H locs w305 hP hD hK hS => ?_)
      obtain ⟨V307, L308⟩ := u304
      obtain ⟨hMV307, ajV307, axL308, t306⟩ := w305
      have axL308 : L = L308 := Eq.symm axL308
      subst axL308
      have hP : va_P D vwCl (xw ad kk V307 L Z) H := hP
      have hD : va_D A (xw ad kk V307 L Z) := hD
      have hMV307 : rgd bX V307 := hMV307
      have ajV307 : agr [(5, 6), (5, 7)] [] V282 V307 := ajV307
      have agV307 : agr [(5, 6), (5, 7), (5, 9), (5, 11), (5, 12)] [39, 68, 75, 77, 78, 84] V V307 := agV282.tr ajV307 (by decide) (by decide)
      have t306 : MJ V307 Z b := t306
      refine lv_iconst (v := 0) hx hb dX5_worksWith_137 (by decide) ?_
      have r309 : 0 ≤ ((V307 5 6)).toInt ∧ ((V307 5 6)).toInt ≤ 400 := hMV307 5 6
      have pq310 : (V307 67 gf).toInt = ((V 67 gf)).toInt := congrArg Int32.toInt ((ajV307 67 gf rfl).trans ((ajV282 67 gf rfl).trans (up2_o hV221 (by decide))))
      have pq311 : (V307 68 gf).toInt = ((V 68 gf)).toInt := congrArg Int32.toInt ((ajV307 68 gf rfl).trans ((ajV282 68 gf rfl).trans (up2_o hV221 (by decide))))
      exact W.zret (v := 0) hx hb hr rfl (fun t ht hW => ⟨⟨0, (V307, L), rfl, ⟨hMV307, agV307, rfl, (by decide), (Imp.mk (fun hp => absurd hp (by decide))), (Imp.mk (fun _ => t306)), (Imp.mk (fun hp => absurd hp (by decide)))⟩, by rw [ht]; exact hP, va_K.moved hW.alike hK, hD⟩, hS.F ht⟩) hS.2.2 dX5_worksWith_138
    have gq276 : p1.toInt ≠ 12 := b_neq rfl (by decide) q276
    by_cases q312 : p1 = 13
    · refine g_top (v := 13) q312 ?_
      have fq312 : p1.toInt = 13 := b_eq rfl (by decide) q312
      refine lv_tableIn (x := 13) (off := 63) (tgt := 105) hx hb dX5_worksWith_42 (by decide) (by decide) (by decide) (by decide) ?_
      have hjm := hop1.1.2.2 (by omega)
      have hfw := i_full (V 48 (8200 * b + (Int32.toNatClampNeg (V 84 gf))))
      have hj0 : 0 ≤ (V 48 (8200 * b + (Int32.toNatClampNeg (V 84 gf)))).toInt := by rcases hjm with h | h <;> omega
      have atw : (V 42 b).toInt ≤ (V 48 (8200 * b + (Int32.toNatClampNeg (V 84 gf)))).toInt ∨ (bdp V b (V 48 (8200 * b + (Int32.toNatClampNeg (V 84 gf)))).toInt.toNat).1 = true := hjm.elim (fun h => Or.inl (by omega)) (fun h => Or.inr h.2.2)
      refine lv_aload_n hx hb dX5_worksWith_105 rfl (lv_at hl 2 rfl) ?_
      refine lv_aload_n hx hb dX5_worksWith_106 rfl (lv_at hl 1 rfl) ?_
      refine gA_int (gA_runV (As := []) (rest := [.ref (Z.fa gf)]) (ci := 5) (q0 := 5) hx hb hml hown hg hP hD hK hS hA hnw hgk (x_mpull l D ks H.size ad kk V221 L Z  hMV221 ) w1482 w1484 w76 w171 w1485 rfl xgMachine hdV_yX5_pull ⟨Nat.le_of_ble_eq_true rfl, Nat.le_of_ble_eq_true rfl⟩ rfl hl.1 rfl (Nat.le_of_ble_eq_true rfl) dX5_worksWith_107 ⟨Nat.le_of_ble_eq_true rfl, Nat.le_of_ble_eq_true rfl⟩) hP hD hK hS hA (fun z313 u314 H locs w315 hP hD hK hS => ?_)
      obtain ⟨V316, L317⟩ := u314
      obtain ⟨hMV316, ajV316, axL317⟩ := w315
      have axL317 : L = L317 := Eq.symm axL317
      subst axL317
      have hP : va_P D vwCl (xw ad kk V316 L Z) H := hP
      have hD : va_D A (xw ad kk V316 L Z) := hD
      have hMV316 : rgd bX V316 := hMV316
      have ajV316 : agr [(5, 7)] [] V221 V316 := ajV316
      have agV316 : agr [(5, 6), (5, 7), (5, 9), (5, 11), (5, 12)] [39, 68, 75, 77, 78, 84] V V316 := agV221.tr ajV316 (by decide) (by decide)
      refine lv_if_ne (tgt := 117) hx hb dX5_worksWith_110 (by decide) (fun c318 => ?_) (fun c318 => ?_)
      · skip
        have f319 : z313.toInt ≠ 0 := b_neq rfl (by decide) c318
        refine lv_aload_n hx hb dX5_worksWith_117 rfl (lv_at hl 2 rfl) ?_
        refine va_getN (D := D) (ci := 4) (v := .int (V316 84 gf)) (fs := (xfFrame V316 gf)) (C := RX4) (T := TX4) (N := 19) hx hb hg inX4 hown hK hP (336 + gf) (xgFrame hgf) rfl 17 (by decide) (hnw.use 1206 n1206 rfl) (fun _ h9 => h9) rfl dX5_worksWith_118 ?_
        refine g_top (v := z220) ((ajV316 84 gf rfl).trans (up2_s hV221)) ?_
        refine va_putN (D := D) (ci := 4) (v := .int z220) (ty := tyX4 17) (fs := (xfFrame V316 gf)) (C := RX4) (T := TX4) (N := 19) hx hb hg inX4 tyX4 tyX4_ok nmX4 hown hK hP hD hS (336 + gf) (xgFrame hgf) rfl 17 (by decide) (hnw.use 1206 n1206 rfl) (fun _ h9 => h9) rfl (tyX4_ok 17 (by decide)) rfl rfl (Nat.le_of_ble_eq_true rfl) dX5_worksWith_121 (fun H locs hP hD hS => ?_)
        obtain ⟨V320, hV320⟩ : ∃ z, z = up2 V316 84 gf z220 := ⟨_, rfl⟩
        have ew321 : (xw ad kk V316 L Z).set (336 + gf) ((Z.fa gf), .inr (4, (xfFrame V316 gf).set 17 (.int z220))) = xw ad kk V320 L Z := by rw [hV320]; exact xpFrame_at hgf
        have hP : va_P D vwCl (xw ad kk V320 L Z) H := by rw [← ew321]; exact hP
        have hD : va_D A (xw ad kk V320 L Z) := by rw [← ew321]; exact hD
        have hMV320 : rgd bX V320 := hMV316.put hV320 (show 0 ≤ z220.toInt ∧ z220.toInt ≤ 2147483647 from by first | exact om_013d27fd8c38 r2.1 r12.2 f217 hz220 | first | omega | ((try (have i_hop := Imp.go hop (by omega))); (try (have i_moa := Imp.go moa (by omega))); (try (have i_moa := Imp.go moa (by omega))); (try (have i_hop := Imp.go hop (by omega))); omega))
        have agV320 : agr [(5, 6), (5, 7), (5, 9), (5, 11), (5, 12)] [39, 68, 75, 77, 78, 84] V V320 := agV316.up hV320 rfl
        refine lv_iconst (v := 1) hx hb dX5_worksWith_124 (by decide) ?_
        have pq322 : (V320 5 6).toInt = ((V 5 6)).toInt := congrArg Int32.toInt ((up2_o hV320 (by decide)).trans ((ajV316 5 6 rfl).trans (up2_o hV221 (by decide))))
        have pq323 : (V320 67 gf).toInt = ((V 67 gf)).toInt := congrArg Int32.toInt ((up2_o hV320 (by decide)).trans ((ajV316 67 gf rfl).trans (up2_o hV221 (by decide))))
        have pq324 : (V320 68 gf).toInt = ((V 68 gf)).toInt := congrArg Int32.toInt ((up2_o hV320 (by decide)).trans ((ajV316 68 gf rfl).trans (up2_o hV221 (by decide))))
        have me325 : ME Va V320 gf := (ME.up (ME.tr (ME.up mV hV221 (Or.inl ⟨by decide, by decide, Nat.le_refl _⟩)) (ME.ag ajV316 (by decide))) hV320 (Or.inl ⟨by decide, by decide, Nat.le_refl _⟩))
        have pq326 : (V320 70 gf).toInt = ((V 70 gf)).toInt := congrArg Int32.toInt ((up2_o hV320 (by decide)).trans ((ajV316 70 gf rfl).trans (up2_o hV221 (by decide))))
        have pq327 : (V320 71 gf).toInt = ((V 71 gf)).toInt := congrArg Int32.toInt ((up2_o hV320 (by decide)).trans ((ajV316 71 gf rfl).trans (up2_o hV221 (by decide))))
        have pq328 : (V320 75 gf).toInt = ((V 75 gf)).toInt := congrArg Int32.toInt ((up2_o hV320 (by decide)).trans ((ajV316 75 gf rfl).trans (up2_o hV221 (by decide))))
        have pq329 : (V320 76 gf).toInt = ((V 76 gf)).toInt := congrArg Int32.toInt ((up2_o hV320 (by decide)).trans ((ajV316 76 gf rfl).trans (up2_o hV221 (by decide))))
        have pq330 : (V320 80 gf).toInt = ((V 80 gf)).toInt := congrArg Int32.toInt ((up2_o hV320 (by decide)).trans ((ajV316 80 gf rfl).trans (up2_o hV221 (by decide))))
        have pq331 : (V320 84 gf).toInt = z220.toInt := congrArg Int32.toInt (up2_s hV320)
        have pq332 : (V320 5 8).toInt = ((V 5 8)).toInt := congrArg Int32.toInt ((up2_o hV320 (by decide)).trans ((ajV316 5 8 rfl).trans (up2_o hV221 (by decide))))
        have pq333 : (V320 5 9).toInt = ((V 5 9)).toInt := congrArg Int32.toInt ((up2_o hV320 (by decide)).trans ((ajV316 5 9 rfl).trans (up2_o hV221 (by decide))))
        have pq334 : (V320 3 13).toInt = ((V 3 13)).toInt := congrArg Int32.toInt ((up2_o hV320 (by decide)).trans ((ajV316 3 13 rfl).trans (up2_o hV221 (by decide))))
        have pq335 : (V320 43 (5 * b + 2)).toInt = ((V 43 (5 * b + 2))).toInt := congrArg Int32.toInt ((up2_o hV320 (by decide)).trans ((ajV316 43 (5 * b + 2) rfl).trans (up2_o hV221 (by decide))))
        have pq336 : (V320 42 b).toInt = ((V 42 b)).toInt := congrArg Int32.toInt ((up2_o hV320 (by decide)).trans ((ajV316 42 b rfl).trans (up2_o hV221 (by decide))))
        have pq337 : (V320 41 b).toInt = ((V 41 b)).toInt := congrArg Int32.toInt ((up2_o hV320 (by decide)).trans ((ajV316 41 b rfl).trans (up2_o hV221 (by decide))))
        have me340 : ME V V320 0 := (ME.up (ME.tr (ME.up ME.rf hV221 (Or.inl ⟨by decide, by decide, by first | omega | ((try (have i_hop := Imp.go hop (by omega))); (try (have i_moa := Imp.go moa (by omega))); (try (have i_moa := Imp.go moa (by omega))); (try (have i_hop := Imp.go hop (by omega))); omega)⟩)) (ME.ag ajV316 (by decide))) hV320 (Or.inl ⟨by decide, by decide, by first | omega | ((try (have i_hop := Imp.go hop (by omega))); (try (have i_moa := Imp.go moa (by omega))); (try (have i_moa := Imp.go moa (by omega))); (try (have i_hop := Imp.go hop (by omega))); omega)⟩))
        have af339 : (V320 42 b).toInt ≤ (V320 84 gf).toInt ∨ (bdp V320 b (V320 84 gf).toInt.toNat).1 = true := by rw [(up2_s hV320), me340.1.bd, me340.1 42 b (by decide) (by decide)]; exact atn
        have mo338 : MO V320 Z b gf True True True := MO.ch mo me325 ((up2_o hV320 (by decide)).trans ((ajV316 67 gf rfl).trans ((up2_o hV221 (by decide)).trans ea67.symm))) ((up2_o hV320 (by decide)).trans ((ajV316 80 gf rfl).trans ((up2_o hV221 (by decide)).trans ea80.symm))) (fun _ => Or.inl (by omega)) (fun x h => FK.k4 (by first | omega | ((try (have i_hop := Imp.go hop (by omega))); (try (have i_moa := Imp.go moa (by omega))); (try (have i_moa := Imp.go moa (by omega))); (try (have i_hop := Imp.go hop (by omega))); omega)) (by first | omega | ((try (have i_hop := Imp.go hop (by omega))); (try (have i_moa := Imp.go moa (by omega))); (try (have i_moa := Imp.go moa (by omega))); (try (have i_hop := Imp.go hop (by omega))); omega)) (by first | omega | ((try (have i_hop := Imp.go hop (by omega))); (try (have i_moa := Imp.go moa (by omega))); (try (have i_moa := Imp.go moa (by omega))); (try (have i_hop := Imp.go hop (by omega))); omega)) af339 (by first | omega | ((try (have i_hop := Imp.go hop (by omega))); (try (have i_moa := Imp.go moa (by omega))); (try (have i_moa := Imp.go moa (by omega))); (try (have i_hop := Imp.go hop (by omega))); omega)) (fun hph => absurd hph (by omega)))
        exact W.zret (v := 1) hx hb hr rfl (fun t ht hW => ⟨⟨1, (V320, L), rfl, ⟨hMV320, agV320, rfl, (by decide), (Imp.mk (fun _ => mo338)), (Imp.mk (fun hp => absurd hp (by decide))), (Imp.mk (fun _ => (show (V320 5 6).toInt = (V 5 6).toInt ∧ (V320 67 gf).toInt = 4 ∧ (V320 68 gf).toInt = 0 from by first | exact om_a46bf36ddf1a gk gph pq322 pq323 pq324 | first | omega | ((try (have i_hop := Imp.go hop (by omega))); (try (have i_moa := Imp.go moa (by omega))); (try (have i_moa := Imp.go moa (by omega))); (try (have i_hop := Imp.go hop (by omega))); omega))))⟩, by rw [ht]; exact hP, va_K.moved hW.alike hK, hD⟩, hS.F ht⟩) hS.2.2 dX5_worksWith_125
      · skip
        have f341 : z313.toInt = 0 := b_eq rfl (by decide) c318
        refine lv_iload_n hx hb dX5_worksWith_113 rfl (lv_at hl 0 rfl) ?_
        refine lv_goto (tgt := 121) hx hb dX5_worksWith_114 (by decide) ?_
        refine va_putN (D := D) (ci := 4) (v := .int (V 48 (8200 * b + (Int32.toNatClampNeg (V 84 gf))))) (ty := tyX4 17) (fs := (xfFrame V316 gf)) (C := RX4) (T := TX4) (N := 19) hx hb hg inX4 tyX4 tyX4_ok nmX4 hown hK hP hD hS (336 + gf) (xgFrame hgf) rfl 17 (by decide) (hnw.use 1206 n1206 rfl) (fun _ h9 => h9) rfl (tyX4_ok 17 (by decide)) rfl rfl (Nat.le_of_ble_eq_true rfl) dX5_worksWith_121 (fun H locs hP hD hS => ?_)
        obtain ⟨V342, hV342⟩ : ∃ z, z = up2 V316 84 gf (V 48 (8200 * b + (Int32.toNatClampNeg (V 84 gf)))) := ⟨_, rfl⟩
        have ew343 : (xw ad kk V316 L Z).set (336 + gf) ((Z.fa gf), .inr (4, (xfFrame V316 gf).set 17 (.int (V 48 (8200 * b + (Int32.toNatClampNeg (V 84 gf))))))) = xw ad kk V342 L Z := by rw [hV342]; exact xpFrame_at hgf
        have hP : va_P D vwCl (xw ad kk V342 L Z) H := by rw [← ew343]; exact hP
        have hD : va_D A (xw ad kk V342 L Z) := by rw [← ew343]; exact hD
        have hMV342 : rgd bX V342 := hMV316.put hV342 (show 0 ≤ ((V 48 (8200 * b + (Int32.toNatClampNeg (V 84 gf))))).toInt ∧ ((V 48 (8200 * b + (Int32.toNatClampNeg (V 84 gf))))).toInt ≤ 2147483647 from by first | exact om_94b436eef8b0 hfw.2 hj0 | first | omega | ((try (have i_hop := Imp.go hop (by omega))); (try (have i_moa := Imp.go moa (by omega))); (try (have i_moa := Imp.go moa (by omega))); (try (have i_hop := Imp.go hop (by omega))); omega))
        have agV342 : agr [(5, 6), (5, 7), (5, 9), (5, 11), (5, 12)] [39, 68, 75, 77, 78, 84] V V342 := agV316.up hV342 rfl
        refine lv_iconst (v := 1) hx hb dX5_worksWith_124 (by decide) ?_
        have pq344 : (V342 5 6).toInt = ((V 5 6)).toInt := congrArg Int32.toInt ((up2_o hV342 (by decide)).trans ((ajV316 5 6 rfl).trans (up2_o hV221 (by decide))))
        have pq345 : (V342 67 gf).toInt = ((V 67 gf)).toInt := congrArg Int32.toInt ((up2_o hV342 (by decide)).trans ((ajV316 67 gf rfl).trans (up2_o hV221 (by decide))))
        have pq346 : (V342 68 gf).toInt = ((V 68 gf)).toInt := congrArg Int32.toInt ((up2_o hV342 (by decide)).trans ((ajV316 68 gf rfl).trans (up2_o hV221 (by decide))))
        have me347 : ME Va V342 gf := (ME.up (ME.tr (ME.up mV hV221 (Or.inl ⟨by decide, by decide, Nat.le_refl _⟩)) (ME.ag ajV316 (by decide))) hV342 (Or.inl ⟨by decide, by decide, Nat.le_refl _⟩))
        have pq348 : (V342 70 gf).toInt = ((V 70 gf)).toInt := congrArg Int32.toInt ((up2_o hV342 (by decide)).trans ((ajV316 70 gf rfl).trans (up2_o hV221 (by decide))))
        have pq349 : (V342 71 gf).toInt = ((V 71 gf)).toInt := congrArg Int32.toInt ((up2_o hV342 (by decide)).trans ((ajV316 71 gf rfl).trans (up2_o hV221 (by decide))))
        have pq350 : (V342 75 gf).toInt = ((V 75 gf)).toInt := congrArg Int32.toInt ((up2_o hV342 (by decide)).trans ((ajV316 75 gf rfl).trans (up2_o hV221 (by decide))))
        have pq351 : (V342 76 gf).toInt = ((V 76 gf)).toInt := congrArg Int32.toInt ((up2_o hV342 (by decide)).trans ((ajV316 76 gf rfl).trans (up2_o hV221 (by decide))))
        have pq352 : (V342 80 gf).toInt = ((V 80 gf)).toInt := congrArg Int32.toInt ((up2_o hV342 (by decide)).trans ((ajV316 80 gf rfl).trans (up2_o hV221 (by decide))))
        have pq353 : (V342 84 gf).toInt = ((V 48 (8200 * b + (Int32.toNatClampNeg (V 84 gf))))).toInt := congrArg Int32.toInt (up2_s hV342)
        have pq354 : (V342 5 8).toInt = ((V 5 8)).toInt := congrArg Int32.toInt ((up2_o hV342 (by decide)).trans ((ajV316 5 8 rfl).trans (up2_o hV221 (by decide))))
        have pq355 : (V342 5 9).toInt = ((V 5 9)).toInt := congrArg Int32.toInt ((up2_o hV342 (by decide)).trans ((ajV316 5 9 rfl).trans (up2_o hV221 (by decide))))
        have pq356 : (V342 3 13).toInt = ((V 3 13)).toInt := congrArg Int32.toInt ((up2_o hV342 (by decide)).trans ((ajV316 3 13 rfl).trans (up2_o hV221 (by decide))))
        have pq357 : (V342 43 (5 * b + 2)).toInt = ((V 43 (5 * b + 2))).toInt := congrArg Int32.toInt ((up2_o hV342 (by decide)).trans ((ajV316 43 (5 * b + 2) rfl).trans (up2_o hV221 (by decide))))
        have pq358 : (V342 42 b).toInt = ((V 42 b)).toInt := congrArg Int32.toInt ((up2_o hV342 (by decide)).trans ((ajV316 42 b rfl).trans (up2_o hV221 (by decide))))
        have pq359 : (V342 41 b).toInt = ((V 41 b)).toInt := congrArg Int32.toInt ((up2_o hV342 (by decide)).trans ((ajV316 41 b rfl).trans (up2_o hV221 (by decide))))
        have me362 : ME V V342 0 := (ME.up (ME.tr (ME.up ME.rf hV221 (Or.inl ⟨by decide, by decide, by first | omega | ((try (have i_hop := Imp.go hop (by omega))); (try (have i_moa := Imp.go moa (by omega))); (try (have i_moa := Imp.go moa (by omega))); (try (have i_hop := Imp.go hop (by omega))); omega)⟩)) (ME.ag ajV316 (by decide))) hV342 (Or.inl ⟨by decide, by decide, by first | omega | ((try (have i_hop := Imp.go hop (by omega))); (try (have i_moa := Imp.go moa (by omega))); (try (have i_moa := Imp.go moa (by omega))); (try (have i_hop := Imp.go hop (by omega))); omega)⟩))
        have af361 : (V342 42 b).toInt ≤ (V342 84 gf).toInt ∨ (bdp V342 b (V342 84 gf).toInt.toNat).1 = true := by rw [(up2_s hV342), me362.1.bd, me362.1 42 b (by decide) (by decide)]; exact atw
        have mo360 : MO V342 Z b gf True True True := MO.ch mo me347 ((up2_o hV342 (by decide)).trans ((ajV316 67 gf rfl).trans ((up2_o hV221 (by decide)).trans ea67.symm))) ((up2_o hV342 (by decide)).trans ((ajV316 80 gf rfl).trans ((up2_o hV221 (by decide)).trans ea80.symm))) (fun _ => Or.inl (by omega)) (fun x h => FK.k4 (by first | omega | ((try (have i_hop := Imp.go hop (by omega))); (try (have i_moa := Imp.go moa (by omega))); (try (have i_moa := Imp.go moa (by omega))); (try (have i_hop := Imp.go hop (by omega))); omega)) (by first | omega | ((try (have i_hop := Imp.go hop (by omega))); (try (have i_moa := Imp.go moa (by omega))); (try (have i_moa := Imp.go moa (by omega))); (try (have i_hop := Imp.go hop (by omega))); omega)) (by first | omega | ((try (have i_hop := Imp.go hop (by omega))); (try (have i_moa := Imp.go moa (by omega))); (try (have i_moa := Imp.go moa (by omega))); (try (have i_hop := Imp.go hop (by omega))); omega)) af361 (by first | omega | ((try (have i_hop := Imp.go hop (by omega))); (try (have i_moa := Imp.go moa (by omega))); (try (have i_moa := Imp.go moa (by omega))); (try (have i_hop := Imp.go hop (by omega))); omega)) (fun hph => absurd hph (by omega)))
        exact W.zret (v := 1) hx hb hr rfl (fun t ht hW => ⟨⟨1, (V342, L), rfl, ⟨hMV342, agV342, rfl, (by decide), (Imp.mk (fun _ => mo360)), (Imp.mk (fun hp => absurd hp (by decide))), (Imp.mk (fun _ => (show (V342 5 6).toInt = (V 5 6).toInt ∧ (V342 67 gf).toInt = 4 ∧ (V342 68 gf).toInt = 0 from by first | exact om_a46bf36ddf1a gk gph pq344 pq345 pq346 | first | omega | ((try (have i_hop := Imp.go hop (by omega))); (try (have i_moa := Imp.go moa (by omega))); (try (have i_moa := Imp.go moa (by omega))); (try (have i_hop := Imp.go hop (by omega))); omega))))⟩, by rw [ht]; exact hP, va_K.moved hW.alike hK, hD⟩, hS.F ht⟩) hS.2.2 dX5_worksWith_125
    have gq312 : p1.toInt ≠ 13 := b_neq rfl (by decide) q312
    by_cases q363 : p1 = 14
    · refine g_top (v := 14) q363 ?_
      have fq363 : p1.toInt = 14 := b_eq rfl (by decide) q363
      refine lv_tableIn (x := 14) (off := 56) (tgt := 98) hx hb dX5_worksWith_42 (by decide) (by decide) (by decide) (by decide) ?_
      have hjm := hop1.1.2.2 (by omega)
      have hfw := i_full (V 48 (8200 * b + (Int32.toNatClampNeg (V 84 gf))))
      have hj0 : 0 ≤ (V 48 (8200 * b + (Int32.toNatClampNeg (V 84 gf)))).toInt := by rcases hjm with h | h <;> omega
      have atw : (V 42 b).toInt ≤ (V 48 (8200 * b + (Int32.toNatClampNeg (V 84 gf)))).toInt ∨ (bdp V b (V 48 (8200 * b + (Int32.toNatClampNeg (V 84 gf)))).toInt.toNat).1 = true := hjm.elim (fun h => Or.inl (by omega)) (fun h => Or.inr h.2.2)
      refine lv_aload_n hx hb dX5_worksWith_98 rfl (lv_at hl 2 rfl) ?_
      refine lv_iload_n hx hb dX5_worksWith_99 rfl (lv_at hl 0 rfl) ?_
      refine va_putN (D := D) (ci := 4) (v := .int (V 48 (8200 * b + (Int32.toNatClampNeg (V 84 gf))))) (ty := tyX4 17) (fs := (xfFrame V221 gf)) (C := RX4) (T := TX4) (N := 19) hx hb hg inX4 tyX4 tyX4_ok nmX4 hown hK hP hD hS (336 + gf) (xgFrame hgf) rfl 17 (by decide) (hnw.use 1206 n1206 rfl) (fun _ h9 => h9) rfl (tyX4_ok 17 (by decide)) rfl rfl (Nat.le_of_ble_eq_true rfl) dX5_worksWith_100 (fun H locs hP hD hS => ?_)
      obtain ⟨V364, hV364⟩ : ∃ z, z = up2 V221 84 gf (V 48 (8200 * b + (Int32.toNatClampNeg (V 84 gf)))) := ⟨_, rfl⟩
      have ew365 : (xw ad kk V221 L Z).set (336 + gf) ((Z.fa gf), .inr (4, (xfFrame V221 gf).set 17 (.int (V 48 (8200 * b + (Int32.toNatClampNeg (V 84 gf))))))) = xw ad kk V364 L Z := by rw [hV364]; exact xpFrame_at hgf
      have hP : va_P D vwCl (xw ad kk V364 L Z) H := by rw [← ew365]; exact hP
      have hD : va_D A (xw ad kk V364 L Z) := by rw [← ew365]; exact hD
      have hMV364 : rgd bX V364 := hMV221.put hV364 (show 0 ≤ ((V 48 (8200 * b + (Int32.toNatClampNeg (V 84 gf))))).toInt ∧ ((V 48 (8200 * b + (Int32.toNatClampNeg (V 84 gf))))).toInt ≤ 2147483647 from by first | exact om_94b436eef8b0 hfw.2 hj0 | first | omega | ((try (have i_hop := Imp.go hop (by omega))); (try (have i_moa := Imp.go moa (by omega))); (try (have i_moa := Imp.go moa (by omega))); (try (have i_hop := Imp.go hop (by omega))); omega))
      have agV364 : agr [(5, 6), (5, 7), (5, 9), (5, 11), (5, 12)] [39, 68, 75, 77, 78, 84] V V364 := agV221.up hV364 rfl
      refine lv_iconst (v := 1) hx hb dX5_worksWith_103 (by decide) ?_
      have pq366 : (V364 5 6).toInt = ((V 5 6)).toInt := congrArg Int32.toInt ((up2_o hV364 (by decide)).trans (up2_o hV221 (by decide)))
      have pq367 : (V364 67 gf).toInt = ((V 67 gf)).toInt := congrArg Int32.toInt ((up2_o hV364 (by decide)).trans (up2_o hV221 (by decide)))
      have pq368 : (V364 68 gf).toInt = ((V 68 gf)).toInt := congrArg Int32.toInt ((up2_o hV364 (by decide)).trans (up2_o hV221 (by decide)))
      have me369 : ME Va V364 gf := (ME.up (ME.up mV hV221 (Or.inl ⟨by decide, by decide, Nat.le_refl _⟩)) hV364 (Or.inl ⟨by decide, by decide, Nat.le_refl _⟩))
      have pq370 : (V364 70 gf).toInt = ((V 70 gf)).toInt := congrArg Int32.toInt ((up2_o hV364 (by decide)).trans (up2_o hV221 (by decide)))
      have pq371 : (V364 71 gf).toInt = ((V 71 gf)).toInt := congrArg Int32.toInt ((up2_o hV364 (by decide)).trans (up2_o hV221 (by decide)))
      have pq372 : (V364 75 gf).toInt = ((V 75 gf)).toInt := congrArg Int32.toInt ((up2_o hV364 (by decide)).trans (up2_o hV221 (by decide)))
      have pq373 : (V364 76 gf).toInt = ((V 76 gf)).toInt := congrArg Int32.toInt ((up2_o hV364 (by decide)).trans (up2_o hV221 (by decide)))
      have pq374 : (V364 80 gf).toInt = ((V 80 gf)).toInt := congrArg Int32.toInt ((up2_o hV364 (by decide)).trans (up2_o hV221 (by decide)))
      have pq375 : (V364 84 gf).toInt = ((V 48 (8200 * b + (Int32.toNatClampNeg (V 84 gf))))).toInt := congrArg Int32.toInt (up2_s hV364)
      have pq376 : (V364 5 8).toInt = ((V 5 8)).toInt := congrArg Int32.toInt ((up2_o hV364 (by decide)).trans (up2_o hV221 (by decide)))
      have pq377 : (V364 5 9).toInt = ((V 5 9)).toInt := congrArg Int32.toInt ((up2_o hV364 (by decide)).trans (up2_o hV221 (by decide)))
      have pq378 : (V364 3 13).toInt = ((V 3 13)).toInt := congrArg Int32.toInt ((up2_o hV364 (by decide)).trans (up2_o hV221 (by decide)))
      have pq379 : (V364 43 (5 * b + 2)).toInt = ((V 43 (5 * b + 2))).toInt := congrArg Int32.toInt ((up2_o hV364 (by decide)).trans (up2_o hV221 (by decide)))
      have pq380 : (V364 42 b).toInt = ((V 42 b)).toInt := congrArg Int32.toInt ((up2_o hV364 (by decide)).trans (up2_o hV221 (by decide)))
      have pq381 : (V364 41 b).toInt = ((V 41 b)).toInt := congrArg Int32.toInt ((up2_o hV364 (by decide)).trans (up2_o hV221 (by decide)))
      have me384 : ME V V364 0 := (ME.up (ME.up ME.rf hV221 (Or.inl ⟨by decide, by decide, by first | omega | ((try (have i_hop := Imp.go hop (by omega))); (try (have i_moa := Imp.go moa (by omega))); (try (have i_moa := Imp.go moa (by omega))); (try (have i_hop := Imp.go hop (by omega))); omega)⟩)) hV364 (Or.inl ⟨by decide, by decide, by first | omega | ((try (have i_hop := Imp.go hop (by omega))); (try (have i_moa := Imp.go moa (by omega))); (try (have i_moa := Imp.go moa (by omega))); (try (have i_hop := Imp.go hop (by omega))); omega)⟩))
      have af383 : (V364 42 b).toInt ≤ (V364 84 gf).toInt ∨ (bdp V364 b (V364 84 gf).toInt.toNat).1 = true := by rw [(up2_s hV364), me384.1.bd, me384.1 42 b (by decide) (by decide)]; exact atw
      have mo382 : MO V364 Z b gf True True True := MO.ch mo me369 ((up2_o hV364 (by decide)).trans ((up2_o hV221 (by decide)).trans ea67.symm)) ((up2_o hV364 (by decide)).trans ((up2_o hV221 (by decide)).trans ea80.symm)) (fun _ => Or.inl (by omega)) (fun x h => FK.k4 (by first | omega | ((try (have i_hop := Imp.go hop (by omega))); (try (have i_moa := Imp.go moa (by omega))); (try (have i_moa := Imp.go moa (by omega))); (try (have i_hop := Imp.go hop (by omega))); omega)) (by first | omega | ((try (have i_hop := Imp.go hop (by omega))); (try (have i_moa := Imp.go moa (by omega))); (try (have i_moa := Imp.go moa (by omega))); (try (have i_hop := Imp.go hop (by omega))); omega)) (by first | omega | ((try (have i_hop := Imp.go hop (by omega))); (try (have i_moa := Imp.go moa (by omega))); (try (have i_moa := Imp.go moa (by omega))); (try (have i_hop := Imp.go hop (by omega))); omega)) af383 (by first | omega | ((try (have i_hop := Imp.go hop (by omega))); (try (have i_moa := Imp.go moa (by omega))); (try (have i_moa := Imp.go moa (by omega))); (try (have i_hop := Imp.go hop (by omega))); omega)) (fun hph => absurd hph (by omega)))
      exact W.zret (v := 1) hx hb hr rfl (fun t ht hW => ⟨⟨1, (V364, L), rfl, ⟨hMV364, agV364, rfl, (by decide), (Imp.mk (fun _ => mo382)), (Imp.mk (fun hp => absurd hp (by decide))), (Imp.mk (fun _ => (show (V364 5 6).toInt = (V 5 6).toInt ∧ (V364 67 gf).toInt = 4 ∧ (V364 68 gf).toInt = 0 from by first | exact om_a46bf36ddf1a gk gph pq366 pq367 pq368 | first | omega | ((try (have i_hop := Imp.go hop (by omega))); (try (have i_moa := Imp.go moa (by omega))); (try (have i_moa := Imp.go moa (by omega))); (try (have i_hop := Imp.go hop (by omega))); omega))))⟩, by rw [ht]; exact hP, va_K.moved hW.alike hK, hD⟩, hS.F ht⟩) hS.2.2 dX5_worksWith_104
    have gq363 : p1.toInt ≠ 14 := b_neq rfl (by decide) q363
    refine lv_tableOut (x := p1) (tgt := 139) hx hb dX5_worksWith_42 (by omega) (by decide) ?_
    have hwo := hop1.1.2.1 (by omega)
    refine lv_aload_n hx hb dX5_worksWith_139 rfl (lv_at hl 2 rfl) ?_
    refine lv_iload_n hx hb dX5_worksWith_140 rfl (lv_at hl 0 rfl) ?_
    refine lv_bipush (v := 20) hx hb dX5_worksWith_141 (by decide) ?_
    refine lv_idiv hx hb dX5_worksWith_143 (by decide) ?_
    refine lv_topi (fun z385 ez385 => ?_)
    have hz385 : z385.toInt = ((V 48 (8200 * b + (Int32.toNatClampNeg (V 84 gf))))).toInt / 20 := idiv_l ez385 (by decide) (by first | omega | ((try (have i_hop := Imp.go hop (by omega))); (try (have i_moa := Imp.go moa (by omega))); (try (have i_moa := Imp.go moa (by omega))); (try (have i_hop := Imp.go hop (by omega))); omega)) (by decide)
    refine va_putN (D := D) (ci := 4) (v := .int z385) (ty := tyX4 8) (fs := (xfFrame V221 gf)) (C := RX4) (T := TX4) (N := 19) hx hb hg inX4 tyX4 tyX4_ok nmX4 hown hK hP hD hS (336 + gf) (xgFrame hgf) rfl 8 (by decide) (hnw.use 1197 n1197 rfl) (fun _ h9 => h9) rfl (tyX4_ok 8 (by decide)) rfl rfl (Nat.le_of_ble_eq_true rfl) dX5_worksWith_144 (fun H locs hP hD hS => ?_)
    obtain ⟨V386, hV386⟩ : ∃ z, z = up2 V221 75 gf z385 := ⟨_, rfl⟩
    have ew387 : (xw ad kk V221 L Z).set (336 + gf) ((Z.fa gf), .inr (4, (xfFrame V221 gf).set 8 (.int z385))) = xw ad kk V386 L Z := by rw [hV386]; exact xpFrame_position hgf
    have hP : va_P D vwCl (xw ad kk V386 L Z) H := by rw [← ew387]; exact hP
    have hD : va_D A (xw ad kk V386 L Z) := by rw [← ew387]; exact hD
    have hMV386 : rgd bX V386 := hMV221.put hV386 (show 0 ≤ z385.toInt ∧ z385.toInt ≤ 12 from by first | omega | ((try (have i_hop := Imp.go hop (by omega))); (try (have i_moa := Imp.go moa (by omega))); (try (have i_moa := Imp.go moa (by omega))); (try (have i_hop := Imp.go hop (by omega))); omega))
    have agV386 : agr [(5, 6), (5, 7), (5, 9), (5, 11), (5, 12)] [39, 68, 75, 77, 78, 84] V V386 := agV221.up hV386 rfl
    refine lv_aload_n hx hb dX5_worksWith_147 rfl (lv_at hl 2 rfl) ?_
    refine lv_iload_n hx hb dX5_worksWith_148 rfl (lv_at hl 0 rfl) ?_
    refine lv_bipush (v := 20) hx hb dX5_worksWith_149 (by decide) ?_
    refine lv_irem hx hb dX5_worksWith_151 (by decide) ?_
    refine lv_topi (fun z388 ez388 => ?_)
    have hz388 : 0 ≤ z388.toInt ∧ z388.toInt < 20 := irem_l ez388 (by decide) (by first | omega | ((try (have i_hop := Imp.go hop (by omega))); (try (have i_moa := Imp.go moa (by omega))); (try (have i_moa := Imp.go moa (by omega))); (try (have i_hop := Imp.go hop (by omega))); omega)) (by decide)
    refine va_putN (D := D) (ci := 4) (v := .int z388) (ty := tyX4 10) (fs := (xfFrame V386 gf)) (C := RX4) (T := TX4) (N := 19) hx hb hg inX4 tyX4 tyX4_ok nmX4 hown hK hP hD hS (336 + gf) (xgFrame hgf) rfl 10 (by decide) (hnw.use 1199 n1199 rfl) (fun _ h9 => h9) rfl (tyX4_ok 10 (by decide)) rfl rfl (Nat.le_of_ble_eq_true rfl) dX5_worksWith_152 (fun H locs hP hD hS => ?_)
    obtain ⟨V389, hV389⟩ : ∃ z, z = up2 V386 77 gf z388 := ⟨_, rfl⟩
    have ew390 : (xw ad kk V386 L Z).set (336 + gf) ((Z.fa gf), .inr (4, (xfFrame V386 gf).set 10 (.int z388))) = xw ad kk V389 L Z := by rw [hV389]; exact xpFrame_target hgf
    have hP : va_P D vwCl (xw ad kk V389 L Z) H := by rw [← ew390]; exact hP
    have hD : va_D A (xw ad kk V389 L Z) := by rw [← ew390]; exact hD
    have hMV389 : rgd bX V389 := hMV386.put hV389 (show 0 ≤ z388.toInt ∧ z388.toInt ≤ 19 from by first | exact om_ee71bf412996 hz388.1 hz388.2 | first | omega | ((try (have i_hop := Imp.go hop (by omega))); (try (have i_moa := Imp.go moa (by omega))); (try (have i_moa := Imp.go moa (by omega))); (try (have i_hop := Imp.go hop (by omega))); omega))
    have agV389 : agr [(5, 6), (5, 7), (5, 9), (5, 11), (5, 12)] [39, 68, 75, 77, 78, 84] V V389 := agV386.up hV389 rfl
    refine lv_aload_n hx hb dX5_worksWith_155 rfl (lv_at hl 2 rfl) ?_
    refine lv_aload_n hx hb dX5_worksWith_156 rfl (lv_at hl 1 rfl) ?_
    refine gA_int (gA_runV (As := []) (rest := [.ref (Z.fa gf)]) (ci := 5) (q0 := 5) hx hb hml hown hg hP hD hK hS hA hnw hgk (x_mpull l D ks H.size ad kk V389 L Z  hMV389 ) w1482 w1484 w76 w171 w1485 rfl xgMachine hdV_yX5_pull ⟨Nat.le_of_ble_eq_true rfl, Nat.le_of_ble_eq_true rfl⟩ rfl hl.1 rfl (Nat.le_of_ble_eq_true rfl) dX5_worksWith_157 ⟨Nat.le_of_ble_eq_true rfl, Nat.le_of_ble_eq_true rfl⟩) hP hD hK hS hA (fun z391 u392 H locs w393 hP hD hK hS => ?_)
    obtain ⟨V394, L395⟩ := u392
    obtain ⟨hMV394, ajV394, axL395⟩ := w393
    have axL395 : L = L395 := Eq.symm axL395
    subst axL395
    have hP : va_P D vwCl (xw ad kk V394 L Z) H := hP
    have hD : va_D A (xw ad kk V394 L Z) := hD
    have hMV394 : rgd bX V394 := hMV394
    have ajV394 : agr [(5, 7)] [] V389 V394 := ajV394
    have agV394 : agr [(5, 6), (5, 7), (5, 9), (5, 11), (5, 12)] [39, 68, 75, 77, 78, 84] V V394 := agV389.tr ajV394 (by decide) (by decide)
    refine va_putN (D := D) (ci := 4) (v := .int z391) (ty := tyX4 11) (fs := (xfFrame V394 gf)) (C := RX4) (T := TX4) (N := 19) hx hb hg inX4 tyX4 tyX4_ok nmX4 hown hK hP hD hS (336 + gf) (xgFrame hgf) rfl 11 (by decide) (hnw.use 1200 n1200 rfl) (fun _ h9 => h9) rfl (tyX4_ok 11 (by decide)) rfl rfl (Nat.le_of_ble_eq_true rfl) dX5_worksWith_160 (fun H locs hP hD hS => ?_)
    obtain ⟨V396, hV396⟩ : ∃ z, z = up2 V394 78 gf z391 := ⟨_, rfl⟩
    have ew397 : (xw ad kk V394 L Z).set (336 + gf) ((Z.fa gf), .inr (4, (xfFrame V394 gf).set 11 (.int z391))) = xw ad kk V396 L Z := by rw [hV396]; exact xpFrame_given hgf
    have hP : va_P D vwCl (xw ad kk V396 L Z) H := by rw [← ew397]; exact hP
    have hD : va_D A (xw ad kk V396 L Z) := by rw [← ew397]; exact hD
    have hMV396 : rgd bX V396 := hMV394.put hV396 (i_full _)
    have agV396 : agr [(5, 6), (5, 7), (5, 9), (5, 11), (5, 12)] [39, 68, 75, 77, 78, 84] V V396 := agV394.up hV396 rfl
    refine lv_aload_n hx hb dX5_worksWith_163 rfl (lv_at hl 2 rfl) ?_
    refine lv_bipush (v := 6) hx hb dX5_worksWith_164 (by decide) ?_
    refine va_putN (D := D) (ci := 4) (v := .int 6) (ty := tyX4 1) (fs := (xfFrame V396 gf)) (C := RX4) (T := TX4) (N := 19) hx hb hg inX4 tyX4 tyX4_ok nmX4 hown hK hP hD hS (336 + gf) (xgFrame hgf) rfl 1 (by decide) (hnw.use 1190 n1190 rfl) (fun _ h9 => h9) rfl (tyX4_ok 1 (by decide)) rfl rfl (Nat.le_of_ble_eq_true rfl) dX5_worksWith_166 (fun H locs hP hD hS => ?_)
    obtain ⟨V398, hV398⟩ : ∃ z, z = up2 V396 68 gf 6 := ⟨_, rfl⟩
    have ew399 : (xw ad kk V396 L Z).set (336 + gf) ((Z.fa gf), .inr (4, (xfFrame V396 gf).set 1 (.int 6))) = xw ad kk V398 L Z := by rw [hV398]; exact xpFrame_phase hgf
    have hP : va_P D vwCl (xw ad kk V398 L Z) H := by rw [← ew399]; exact hP
    have hD : va_D A (xw ad kk V398 L Z) := by rw [← ew399]; exact hD
    have hMV398 : rgd bX V398 := hMV396.put hV398 (i_full _)
    have agV398 : agr [(5, 6), (5, 7), (5, 9), (5, 11), (5, 12)] [39, 68, 75, 77, 78, 84] V V398 := agV396.up hV398 rfl
    refine lv_iconst (v := 0) hx hb dX5_worksWith_169 (by decide) ?_
    have pq400 : (V398 5 6).toInt = ((V 5 6)).toInt := congrArg Int32.toInt ((up2_o hV398 (by decide)).trans ((up2_o hV396 (by decide)).trans ((ajV394 5 6 rfl).trans ((up2_o hV389 (by decide)).trans ((up2_o hV386 (by decide)).trans (up2_o hV221 (by decide)))))))
    have pq401 : (V398 67 gf).toInt = ((V 67 gf)).toInt := congrArg Int32.toInt ((up2_o hV398 (by decide)).trans ((up2_o hV396 (by decide)).trans ((ajV394 67 gf rfl).trans ((up2_o hV389 (by decide)).trans ((up2_o hV386 (by decide)).trans (up2_o hV221 (by decide)))))))
    have pq402 : (V398 68 gf).toInt = 6 := (congrArg Int32.toInt (up2_s hV398)).trans (by decide)
    have me403 : ME Va V398 gf := (ME.up (ME.up (ME.tr (ME.up (ME.up (ME.up mV hV221 (Or.inl ⟨by decide, by decide, Nat.le_refl _⟩)) hV386 (Or.inl ⟨by decide, by decide, Nat.le_refl _⟩)) hV389 (Or.inl ⟨by decide, by decide, Nat.le_refl _⟩)) (ME.ag ajV394 (by decide))) hV396 (Or.inl ⟨by decide, by decide, Nat.le_refl _⟩)) hV398 (Or.inl ⟨by decide, by decide, Nat.le_refl _⟩))
    have pq404 : (V398 70 gf).toInt = ((V 70 gf)).toInt := congrArg Int32.toInt ((up2_o hV398 (by decide)).trans ((up2_o hV396 (by decide)).trans ((ajV394 70 gf rfl).trans ((up2_o hV389 (by decide)).trans ((up2_o hV386 (by decide)).trans (up2_o hV221 (by decide)))))))
    have pq405 : (V398 71 gf).toInt = ((V 71 gf)).toInt := congrArg Int32.toInt ((up2_o hV398 (by decide)).trans ((up2_o hV396 (by decide)).trans ((ajV394 71 gf rfl).trans ((up2_o hV389 (by decide)).trans ((up2_o hV386 (by decide)).trans (up2_o hV221 (by decide)))))))
    have pq406 : (V398 75 gf).toInt = z385.toInt := congrArg Int32.toInt ((up2_o hV398 (by decide)).trans ((up2_o hV396 (by decide)).trans ((ajV394 75 gf rfl).trans ((up2_o hV389 (by decide)).trans (up2_s hV386)))))
    have pq407 : (V398 76 gf).toInt = ((V 76 gf)).toInt := congrArg Int32.toInt ((up2_o hV398 (by decide)).trans ((up2_o hV396 (by decide)).trans ((ajV394 76 gf rfl).trans ((up2_o hV389 (by decide)).trans ((up2_o hV386 (by decide)).trans (up2_o hV221 (by decide)))))))
    have pq408 : (V398 80 gf).toInt = ((V 80 gf)).toInt := congrArg Int32.toInt ((up2_o hV398 (by decide)).trans ((up2_o hV396 (by decide)).trans ((ajV394 80 gf rfl).trans ((up2_o hV389 (by decide)).trans ((up2_o hV386 (by decide)).trans (up2_o hV221 (by decide)))))))
    have pq409 : (V398 84 gf).toInt = z220.toInt := congrArg Int32.toInt ((up2_o hV398 (by decide)).trans ((up2_o hV396 (by decide)).trans ((ajV394 84 gf rfl).trans ((up2_o hV389 (by decide)).trans ((up2_o hV386 (by decide)).trans (up2_s hV221))))))
    have pq410 : (V398 5 8).toInt = ((V 5 8)).toInt := congrArg Int32.toInt ((up2_o hV398 (by decide)).trans ((up2_o hV396 (by decide)).trans ((ajV394 5 8 rfl).trans ((up2_o hV389 (by decide)).trans ((up2_o hV386 (by decide)).trans (up2_o hV221 (by decide)))))))
    have pq411 : (V398 5 9).toInt = ((V 5 9)).toInt := congrArg Int32.toInt ((up2_o hV398 (by decide)).trans ((up2_o hV396 (by decide)).trans ((ajV394 5 9 rfl).trans ((up2_o hV389 (by decide)).trans ((up2_o hV386 (by decide)).trans (up2_o hV221 (by decide)))))))
    have pq412 : (V398 3 13).toInt = ((V 3 13)).toInt := congrArg Int32.toInt ((up2_o hV398 (by decide)).trans ((up2_o hV396 (by decide)).trans ((ajV394 3 13 rfl).trans ((up2_o hV389 (by decide)).trans ((up2_o hV386 (by decide)).trans (up2_o hV221 (by decide)))))))
    have pq413 : (V398 43 (5 * b + 2)).toInt = ((V 43 (5 * b + 2))).toInt := congrArg Int32.toInt ((up2_o hV398 (by decide)).trans ((up2_o hV396 (by decide)).trans ((ajV394 43 (5 * b + 2) rfl).trans ((up2_o hV389 (by decide)).trans ((up2_o hV386 (by decide)).trans (up2_o hV221 (by decide)))))))
    have pq414 : (V398 42 b).toInt = ((V 42 b)).toInt := congrArg Int32.toInt ((up2_o hV398 (by decide)).trans ((up2_o hV396 (by decide)).trans ((ajV394 42 b rfl).trans ((up2_o hV389 (by decide)).trans ((up2_o hV386 (by decide)).trans (up2_o hV221 (by decide)))))))
    have pq415 : (V398 41 b).toInt = ((V 41 b)).toInt := congrArg Int32.toInt ((up2_o hV398 (by decide)).trans ((up2_o hV396 (by decide)).trans ((ajV394 41 b rfl).trans ((up2_o hV389 (by decide)).trans ((up2_o hV386 (by decide)).trans (up2_o hV221 (by decide)))))))
    have me418 : ME V V398 0 := (ME.up (ME.up (ME.tr (ME.up (ME.up (ME.up ME.rf hV221 (Or.inl ⟨by decide, by decide, by first | omega | ((try (have i_hop := Imp.go hop (by omega))); (try (have i_moa := Imp.go moa (by omega))); (try (have i_moa := Imp.go moa (by omega))); (try (have i_hop := Imp.go hop (by omega))); omega)⟩)) hV386 (Or.inl ⟨by decide, by decide, by first | omega | ((try (have i_hop := Imp.go hop (by omega))); (try (have i_moa := Imp.go moa (by omega))); (try (have i_moa := Imp.go moa (by omega))); (try (have i_hop := Imp.go hop (by omega))); omega)⟩)) hV389 (Or.inl ⟨by decide, by decide, by first | omega | ((try (have i_hop := Imp.go hop (by omega))); (try (have i_moa := Imp.go moa (by omega))); (try (have i_moa := Imp.go moa (by omega))); (try (have i_hop := Imp.go hop (by omega))); omega)⟩)) (ME.ag ajV394 (by decide))) hV396 (Or.inl ⟨by decide, by decide, by first | omega | ((try (have i_hop := Imp.go hop (by omega))); (try (have i_moa := Imp.go moa (by omega))); (try (have i_moa := Imp.go moa (by omega))); (try (have i_hop := Imp.go hop (by omega))); omega)⟩)) hV398 (Or.inl ⟨by decide, by decide, by first | omega | ((try (have i_hop := Imp.go hop (by omega))); (try (have i_moa := Imp.go moa (by omega))); (try (have i_moa := Imp.go moa (by omega))); (try (have i_hop := Imp.go hop (by omega))); omega)⟩))
    have ep419 : V398 84 gf = z220 := ((up2_o hV398 (by decide)).trans ((up2_o hV396 (by decide)).trans ((ajV394 84 gf rfl).trans ((up2_o hV389 (by decide)).trans ((up2_o hV386 (by decide)).trans (up2_s hV221))))))
    have af417 : (V398 42 b).toInt ≤ (V398 84 gf).toInt ∨ (bdp V398 b (V398 84 gf).toInt.toNat).1 = true := by rw [ep419, me418.1.bd, me418.1 42 b (by decide) (by decide)]; exact atn
    have mo416 : MO V398 Z b gf True (QN V398 b) (QN V398 b) := MO.ch mo me403 ((up2_o hV398 (by decide)).trans ((up2_o hV396 (by decide)).trans ((ajV394 67 gf rfl).trans ((up2_o hV389 (by decide)).trans ((up2_o hV386 (by decide)).trans ((up2_o hV221 (by decide)).trans ea67.symm)))))) ((up2_o hV398 (by decide)).trans ((up2_o hV396 (by decide)).trans ((ajV394 80 gf rfl).trans ((up2_o hV389 (by decide)).trans ((up2_o hV386 (by decide)).trans ((up2_o hV221 (by decide)).trans ea80.symm)))))) (fun _ => Or.inl (by omega)) (fun x h => FK.k4 (by first | omega | ((try (have i_hop := Imp.go hop (by omega))); (try (have i_moa := Imp.go moa (by omega))); (try (have i_moa := Imp.go moa (by omega))); (try (have i_hop := Imp.go hop (by omega))); omega)) (by first | omega | ((try (have i_hop := Imp.go hop (by omega))); (try (have i_moa := Imp.go moa (by omega))); (try (have i_moa := Imp.go moa (by omega))); (try (have i_hop := Imp.go hop (by omega))); omega)) (by first | omega | ((try (have i_hop := Imp.go hop (by omega))); (try (have i_moa := Imp.go moa (by omega))); (try (have i_moa := Imp.go moa (by omega))); (try (have i_hop := Imp.go hop (by omega))); omega)) af417 (by first | omega | ((try (have i_hop := Imp.go hop (by omega))); (try (have i_moa := Imp.go moa (by omega))); (try (have i_moa := Imp.go moa (by omega))); (try (have i_hop := Imp.go hop (by omega))); omega)) (fun hph => absurd hph (by omega)))
    have rp420 : MJ V398 Z b := MO.mj mo416 (by (first | exact om_c09d41618ed8 hgf | omega)) (by (first | exact om_82fa09255765 gd pq400 | omega)) id id Or.inr
    exact W.zret (v := 0) hx hb hr rfl (fun t ht hW => ⟨⟨0, (V398, L), rfl, ⟨hMV398, agV398, rfl, (by decide), (Imp.mk (fun hp => absurd hp (by decide))), (Imp.mk (fun _ => rp420)), (Imp.mk (fun hp => absurd hp (by decide)))⟩, by rw [ht]; exact hP, va_K.moved hW.alike hK, hD⟩, hS.F ht⟩) hS.2.2 dX5_worksWith_170
end
