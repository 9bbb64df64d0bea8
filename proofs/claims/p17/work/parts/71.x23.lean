section
/-! WORKING frames -/
theorem idiv_l {x y z : Int32} {n : Int} (e : z = x / y) (hy : y.toInt = n) (h0 : 0 ≤ x.toInt) (hn : 0 < n) : z.toInt = x.toInt / n := by
  rw [e, lg_idiv_nonneg h0 (by omega), hy]
theorem irem_l {x y z : Int32} {n : Int} (e : z = x - x / y * y) (hy : y.toInt = n) (h0 : 0 ≤ x.toInt) (hn : 0 < n) : 0 ≤ z.toInt ∧ z.toInt < n := by
  have d : (x / y).toInt = x.toInt / n := idiv_l rfl hy h0 hn
  have f := i_full x
  have q1 : 0 ≤ x.toInt / n * n := Int.mul_nonneg (Int.ediv_nonneg h0 (Int.le_of_lt hn)) (Int.le_of_lt hn)
  have q2 : x.toInt / n * n ≤ x.toInt := Int.ediv_mul_le _ (by omega)
  have m : (x / y * y).toInt = x.toInt / n * n := i_mul rfl d hy ⟨by omega, by omega⟩
  have s : z.toInt = x.toInt - x.toInt / n * n := i_sub e rfl m ⟨by omega, by omega⟩
  have e2 : x.toInt - x.toInt / n * n = x.toInt % n := by rw [Int.emod_def, Int.mul_comm]
  rw [s, e2]
  exact ⟨Int.emod_nonneg _ (by omega), Int.emod_lt_of_pos _ hn⟩
theorem up2_back {V : Vf} {c k : Nat} {x : Int32} : up2 (up2 V c k x) c k (V c k) = V := by
  funext c' k'
  by_cases h : c' = c ∧ k' = k
  · rw [h.1, h.2]
    exact up2_ss
  · rw [up2_pl h, up2_pl h]
theorem up2_twice {V : Vf} {c k : Nat} {x y : Int32} : up2 (up2 V c k x) c k y = up2 V c k y := by
  funext c' k'
  by_cases h : c' = c ∧ k' = k
  · rw [h.1, h.2, up2_ss, up2_ss]
  · rw [up2_pl h, up2_pl h, up2_pl h]
/-- as MO, but for the frame's place in the code -/
def MOa (V : Vf) (Z : XZ) (b d : Nat) : Prop := MO (up2 V 84 d 2147483647) Z b d True True True
theorem MO.a {V : Vf} {Z : XZ} {b d : Nat} (h : MO V Z b d True True True) (k4 : (V 67 d).toInt = 4) (h8 : (V 42 b).toInt ≤ 8200) : MOa V Z b d := by
  have o : ∀ c k, c ≠ 84 → up2 V 84 d 2147483647 c k = V c k := fun c k q => up2_pl (fun a => q a.1)
  refine MO.ch h (ME.up ME.rf rfl (Or.inl ⟨by decide, by decide, Nat.le_refl _⟩)) (o _ _ (by decide)) (o _ _ (by decide)) Or.inr (fun x g => ?_)
  refine FK.k4 (by rw [o 67 d (by decide)]; exact k4) ?_ ?_ (Or.inl ?_) ?_ ?_
  · rw [o 71 d (by decide), o 43 _ (by decide)]
    exact g.1 (by omega)
  · rw [o 70 d (by decide), o 3 13 (by decide)]
    exact g.2.1 (by omega) (by omega)
  · rw [o 42 b (by decide), up2_ss]
    have : Int32.toInt 2147483647 = 2147483647 := by decide
    omega
  · rw [o 68 d (by decide), o 75 d (by decide)]
    exact g.2.2.2.1 k4
  · rw [o 68 d (by decide)]
    exact g.2.2.2.2.2.2.2.2.2 k4
theorem MOa.up {V W : Vf} {Z : XZ} {b d : Nat} {y : Int32} (h : MOa V Z b d) (e : W = up2 V 84 d y) : MOa W Z b d := by
  unfold MOa
  rw [e, up2_twice]
  exact h
theorem MO.upm {V W : Vf} {Z : XZ} {b d : Nat} {w v u : Prop} (h : MO V Z b d w v u) (m : ME V W d) : 0 < (W 43 (5 * b + 2)).toInt ∧ TX W b ∧ CD W b ∧ (W 5 5).toInt = (b : Int) ∧ SL W Z ∧ (∀ o : Nat, (o : Int) < (W 3 13).toInt → (W 26 o).toInt < (W 43 (5 * b + 2)).toInt) ∧ (∀ i : Nat, (i : Int) < (W 5 8).toInt → (W 40 i).toInt < (W 3 13).toInt) ∧ PT W ∧ (W 3 15).toInt ≤ 250000 ∧ LN Z.ln := by
  obtain ⟨g, r, x, h, _⟩ := h
  exact (h.me m).up
theorem cd_lo {V : Vf} {b a : Nat} (h1 : (bdp V b a).1 = true) (h : (V 48 (8200 * b + a)).toInt < 10) : (bdp V b (a + 1)).1 = true := by
  rw [bdp_s]
  show (((bdp V b a).1 && decide ((V 48 (8200 * b + a)).toInt < 10)) || (bdp V b a).2) = true
  rw [h1, decide_eq_true h]
  rfl
theorem cd_op {V W : Vf} {b a0 : Nat} (cd : CD V b) (be : BE V W) (h1 : (bdp V b a0).1 = true) {o : Int} (ho : (V 48 (8200 * b + a0)).toInt = o) (h10 : 10 ≤ o) (a : Nat) (ha : (a : Int) = (a0 : Int) + 1) (hl : (a : Int) < (W 42 b).toInt) : okO W b o (W 48 (8200 * b + a)).toInt ∧ (bdp W b (a + 1)).1 = true := by
  have ea : a = a0 + 1 := by (first | exact om_6a3c06e010e8 ha | omega)
  subst ea
  have e42 := be 42 b (by decide) (by decide)
  rw [e42] at hl
  have h2 : (bdp V b (a0 + 1)).2 = true := by
    rw [bdp_s]
    show ((bdp V b a0).1 && decide (10 ≤ (V 48 (8200 * b + a0)).toInt)) = true
    rw [h1, decide_eq_true (by omega)]
    rfl
  have k := cd.1.2 a0 (by omega) h2
  rw [ho] at k
  refine ⟨?_, ?_⟩
  · unfold okO at k ⊢
    rw [e42, be 48 _ (by decide) (by decide)]
    refine ⟨k.1, k.2.1, fun z => ?_⟩
    rw [be.bd]
    exact k.2.2 z
  · rw [be.bd, bdp_s]
    show (_ || (bdp V b (a0 + 1)).2) = true
    rw [h2, Bool.or_true]

theorem n631 : lw_tbl[631]? = some (Cond.fieldLinkNest RX5 320 "WiringHouse$Book" "codeLength" "I" "WiringHouse") := la9 (n := 155) (i := 476) lz9 (la9 (n := 240) (i := 236) ln9_1 (lb9 (i := 236) (by decide +kernel)))
theorem w1469 : Cond.code yX5_put cX5_put 2 none ∈ GW := gw_k tk9_6 114 (rfl) rfl
theorem w1466 : Cond.methodLink RX5 338 yX5_put ∈ GW := gw_k tk9_6 111 (by decide +kernel) rfl
theorem w1468 : Cond.instanceMethod yX5_put ∈ GW := gw_k tk9_6 113 (by decide +kernel) rfl
theorem w72 : Cond.selects RX5 yX5_put yX5_put ∈ GW := gw_mem 72 (by decide +kernel) rfl
theorem hdV_yX5_put : yX5_put.cls = RX5 ∧ yX5_put.cls ≠ "java/lang/invoke/MethodHandle" ∧ yX5_put.cls ≠ "java/lang/invoke/VarHandle" ∧ (parseMethodDescriptor yX5_put.desc).map (fun d => d.parameters.length) = some 1 := by decide +kernel
theorem n613 : lw_tbl[613]? = some (Cond.fieldLinkNest RX5 344 "WiringHouse$Book" "settingValues" "[I" "WiringHouse") := la9 (n := 155) (i := 458) lz9 (la9 (n := 240) (i := 218) ln9_1 (lb9 (i := 218) (by decide +kernel)))
theorem w1461 : Cond.code yX5_endWork cX5_endWork 2 none ∈ GW := gw_k tk9_6 106 (rfl) rfl
theorem w1458 : Cond.methodLink RX5 310 yX5_endWork ∈ GW := gw_k tk9_6 103 (by decide +kernel) rfl
theorem w1460 : Cond.instanceMethod yX5_endWork ∈ GW := gw_k tk9_6 105 (by decide +kernel) rfl
theorem w70 : Cond.selects RX5 yX5_endWork yX5_endWork ∈ GW := gw_mem 70 (by decide +kernel) rfl
theorem hdV_yX5_endWork : yX5_endWork.cls = RX5 ∧ yX5_endWork.cls ≠ "java/lang/invoke/MethodHandle" ∧ yX5_endWork.cls ≠ "java/lang/invoke/VarHandle" ∧ (parseMethodDescriptor yX5_endWork.desc).map (fun d => d.parameters.length) = some 1 := by decide +kernel
theorem w1485 : Cond.code yX5_pull cX5_pull 1 (some .int) ∈ GW := gw_k tk9_6 130 (rfl) rfl
theorem w1482 : Cond.methodLink RX5 330 yX5_pull ∈ GW := gw_k tk9_6 127 (by decide +kernel) rfl
theorem w1484 : Cond.instanceMethod yX5_pull ∈ GW := gw_k tk9_6 129 (by decide +kernel) rfl
theorem w76 : Cond.selects RX5 yX5_pull yX5_pull ∈ GW := gw_mem 76 (by decide +kernel) rfl
theorem hdV_yX5_pull : yX5_pull.cls = RX5 ∧ yX5_pull.cls ≠ "java/lang/invoke/MethodHandle" ∧ yX5_pull.cls ≠ "java/lang/invoke/VarHandle" ∧ (parseMethodDescriptor yX5_pull.desc).map (fun d => d.parameters.length) = some 0 := by decide +kernel
theorem n1199 : lw_tbl[1199]? = some (Cond.fieldLinkNest RX5 347 "WiringHouse$Frame" "target" "I" "WiringHouse") := la9 (n := 155) (i := 1044) lz9 (la9 (n := 240) (i := 804) ln9_1 (la9 (n := 240) (i := 564) ln9_2 (la9 (n := 240) (i := 324) ln9_3 (la9 (n := 240) (i := 84) ln9_4 (lb9 (i := 84) (by decide +kernel))))))
theorem n1200 : lw_tbl[1200]? = some (Cond.fieldLinkNest RX5 350 "WiringHouse$Frame" "given" "I" "WiringHouse") := la9 (n := 155) (i := 1045) lz9 (la9 (n := 240) (i := 805) ln9_1 (la9 (n := 240) (i := 565) ln9_2 (la9 (n := 240) (i := 325) ln9_3 (la9 (n := 240) (i := 85) ln9_4 (lb9 (i := 85) (by decide +kernel))))))
theorem n624 : lw_tbl[624]? = some (Cond.fieldLinkNest RX5 323 "WiringHouse$Book" "code" "[I" "WiringHouse") := la9 (n := 155) (i := 469) lz9 (la9 (n := 240) (i := 229) ln9_1 (lb9 (i := 229) (by decide +kernel)))
theorem dk9_dX5_worksWith_0_0 : dOk cX5_worksWith [(0, .aload_n 1, 1), (1, .getfield 141, 3), (4, .aload_n 0, 1), (5, .getfield 24, 3), (8, .getfield 320, 3), (11, .if_icmp .ge 18, 3), (29, .iconst 0, 1), (30, .istore_n 3, 1), (31, .aload_n 1, 1), (32, .dup, 1), (33, .getfield 141, 3), (36, .iconst 1, 1), (37, .iadd, 1), (38, .putfield 141, 3), (41, .iload_n 2, 1), (42, .tableswitch 97 10 14 #[34, 41, 84, 63, 56], 34), (76, .aload_n 0, 1), (77, .iload_n 3, 1), (78, .invokevirtual 338, 3), (81, .iconst 1, 1), (82, .ireturn, 1), (83, .aload_n 0, 1), (84, .aload_n 0, 1), (85, .getfield 24, 3)] = true ∧ dOk cX5_worksWith [(88, .getfield 344, 3), (91, .iload_n 3, 1), (92, .iaload, 1), (93, .invokevirtual 338, 3), (96, .iconst 1, 1), (97, .ireturn, 1), (126, .aload_n 0, 1), (127, .iconst 0, 1), (128, .iload_n 3, 1), (129, .invokevirtual 169, 3), (132, .aload_n 0, 1), (133, .aload_n 1, 1), (134, .invokevirtual 310, 3), (137, .iconst 0, 1), (138, .ireturn, 1), (105, .aload_n 1, 1), (106, .aload_n 0, 1), (107, .invokevirtual 330, 3), (110, .ifCond .ne 7, 3), (117, .aload_n 1, 1), (118, .getfield 141, 3), (121, .putfield 141, 3), (124, .iconst 1, 1), (125, .ireturn, 1)] = true ∧ dOk cX5_worksWith [(113, .iload_n 3, 1), (114, .goto 7, 3), (98, .aload_n 1, 1), (99, .iload_n 3, 1), (100, .putfield 141, 3), (103, .iconst 1, 1), (104, .ireturn, 1), (139, .aload_n 1, 1), (140, .iload_n 3, 1), (141, .bipush 20, 2), (143, .idiv, 1), (144, .putfield 109, 3), (147, .aload_n 1, 1), (148, .iload_n 3, 1), (149, .bipush 20, 2), (151, .irem, 1), (152, .putfield 347, 3), (155, .aload_n 1, 1), (156, .aload_n 0, 1), (157, .invokevirtual 330, 3), (160, .putfield 350, 3), (163, .aload_n 1, 1), (164, .bipush 6, 2), (166, .putfield 94, 3)] = true ∧ dOk cX5_worksWith [(169, .iconst 0, 1), (170, .ireturn, 1), (14, .aload_n 0, 1), (15, .getfield 24, 3), (18, .getfield 323, 3), (21, .aload_n 1, 1), (22, .getfield 141, 3), (25, .iaload, 1), (26, .goto 4, 3)] = true := by decide +kernel
theorem dX5_worksWith_0 : decode cX5_worksWith 0 = .ok (.aload_n 1, 1) := dr9 dk9_dX5_worksWith_0_0.1 0 (0, .aload_n 1, 1) rfl
theorem dX5_worksWith_1 : decode cX5_worksWith 1 = .ok (.getfield 141, 3) := dr9 dk9_dX5_worksWith_0_0.1 1 (1, .getfield 141, 3) rfl
theorem dX5_worksWith_4 : decode cX5_worksWith 4 = .ok (.aload_n 0, 1) := dr9 dk9_dX5_worksWith_0_0.1 2 (4, .aload_n 0, 1) rfl
theorem dX5_worksWith_5 : decode cX5_worksWith 5 = .ok (.getfield 24, 3) := dr9 dk9_dX5_worksWith_0_0.1 3 (5, .getfield 24, 3) rfl
theorem dX5_worksWith_8 : decode cX5_worksWith 8 = .ok (.getfield 320, 3) := dr9 dk9_dX5_worksWith_0_0.1 4 (8, .getfield 320, 3) rfl
theorem dX5_worksWith_11 : decode cX5_worksWith 11 = .ok (.if_icmp .ge 18, 3) := dr9 dk9_dX5_worksWith_0_0.1 5 (11, .if_icmp .ge 18, 3) rfl
theorem dX5_worksWith_29 : decode cX5_worksWith 29 = .ok (.iconst 0, 1) := dr9 dk9_dX5_worksWith_0_0.1 6 (29, .iconst 0, 1) rfl
theorem dX5_worksWith_30 : decode cX5_worksWith 30 = .ok (.istore_n 3, 1) := dr9 dk9_dX5_worksWith_0_0.1 7 (30, .istore_n 3, 1) rfl
theorem dX5_worksWith_31 : decode cX5_worksWith 31 = .ok (.aload_n 1, 1) := dr9 dk9_dX5_worksWith_0_0.1 8 (31, .aload_n 1, 1) rfl
theorem dX5_worksWith_32 : decode cX5_worksWith 32 = .ok (.dup, 1) := dr9 dk9_dX5_worksWith_0_0.1 9 (32, .dup, 1) rfl
theorem dX5_worksWith_33 : decode cX5_worksWith 33 = .ok (.getfield 141, 3) := dr9 dk9_dX5_worksWith_0_0.1 10 (33, .getfield 141, 3) rfl
theorem dX5_worksWith_36 : decode cX5_worksWith 36 = .ok (.iconst 1, 1) := dr9 dk9_dX5_worksWith_0_0.1 11 (36, .iconst 1, 1) rfl
theorem dX5_worksWith_37 : decode cX5_worksWith 37 = .ok (.iadd, 1) := dr9 dk9_dX5_worksWith_0_0.1 12 (37, .iadd, 1) rfl
theorem dX5_worksWith_38 : decode cX5_worksWith 38 = .ok (.putfield 141, 3) := dr9 dk9_dX5_worksWith_0_0.1 13 (38, .putfield 141, 3) rfl
theorem dX5_worksWith_41 : decode cX5_worksWith 41 = .ok (.iload_n 2, 1) := dr9 dk9_dX5_worksWith_0_0.1 14 (41, .iload_n 2, 1) rfl
theorem dX5_worksWith_42 : decode cX5_worksWith 42 = .ok (.tableswitch 97 10 14 #[34, 41, 84, 63, 56], 34) := dr9 dk9_dX5_worksWith_0_0.1 15 (42, .tableswitch 97 10 14 #[34, 41, 84, 63, 56], 34) rfl
theorem dX5_worksWith_76 : decode cX5_worksWith 76 = .ok (.aload_n 0, 1) := dr9 dk9_dX5_worksWith_0_0.1 16 (76, .aload_n 0, 1) rfl
theorem dX5_worksWith_77 : decode cX5_worksWith 77 = .ok (.iload_n 3, 1) := dr9 dk9_dX5_worksWith_0_0.1 17 (77, .iload_n 3, 1) rfl
theorem dX5_worksWith_78 : decode cX5_worksWith 78 = .ok (.invokevirtual 338, 3) := dr9 dk9_dX5_worksWith_0_0.1 18 (78, .invokevirtual 338, 3) rfl
theorem dX5_worksWith_81 : decode cX5_worksWith 81 = .ok (.iconst 1, 1) := dr9 dk9_dX5_worksWith_0_0.1 19 (81, .iconst 1, 1) rfl
theorem dX5_worksWith_82 : decode cX5_worksWith 82 = .ok (.ireturn, 1) := dr9 dk9_dX5_worksWith_0_0.1 20 (82, .ireturn, 1) rfl
theorem dX5_worksWith_83 : decode cX5_worksWith 83 = .ok (.aload_n 0, 1) := dr9 dk9_dX5_worksWith_0_0.1 21 (83, .aload_n 0, 1) rfl
theorem dX5_worksWith_84 : decode cX5_worksWith 84 = .ok (.aload_n 0, 1) := dr9 dk9_dX5_worksWith_0_0.1 22 (84, .aload_n 0, 1) rfl
theorem dX5_worksWith_85 : decode cX5_worksWith 85 = .ok (.getfield 24, 3) := dr9 dk9_dX5_worksWith_0_0.1 23 (85, .getfield 24, 3) rfl
theorem dX5_worksWith_88 : decode cX5_worksWith 88 = .ok (.getfield 344, 3) := dr9 dk9_dX5_worksWith_0_0.2.1 0 (88, .getfield 344, 3) rfl
theorem dX5_worksWith_91 : decode cX5_worksWith 91 = .ok (.iload_n 3, 1) := dr9 dk9_dX5_worksWith_0_0.2.1 1 (91, .iload_n 3, 1) rfl
theorem dX5_worksWith_92 : decode cX5_worksWith 92 = .ok (.iaload, 1) := dr9 dk9_dX5_worksWith_0_0.2.1 2 (92, .iaload, 1) rfl
theorem dX5_worksWith_93 : decode cX5_worksWith 93 = .ok (.invokevirtual 338, 3) := dr9 dk9_dX5_worksWith_0_0.2.1 3 (93, .invokevirtual 338, 3) rfl
theorem dX5_worksWith_96 : decode cX5_worksWith 96 = .ok (.iconst 1, 1) := dr9 dk9_dX5_worksWith_0_0.2.1 4 (96, .iconst 1, 1) rfl
theorem dX5_worksWith_97 : decode cX5_worksWith 97 = .ok (.ireturn, 1) := dr9 dk9_dX5_worksWith_0_0.2.1 5 (97, .ireturn, 1) rfl
theorem dX5_worksWith_126 : decode cX5_worksWith 126 = .ok (.aload_n 0, 1) := dr9 dk9_dX5_worksWith_0_0.2.1 6 (126, .aload_n 0, 1) rfl
theorem dX5_worksWith_127 : decode cX5_worksWith 127 = .ok (.iconst 0, 1) := dr9 dk9_dX5_worksWith_0_0.2.1 7 (127, .iconst 0, 1) rfl
theorem dX5_worksWith_128 : decode cX5_worksWith 128 = .ok (.iload_n 3, 1) := dr9 dk9_dX5_worksWith_0_0.2.1 8 (128, .iload_n 3, 1) rfl
theorem dX5_worksWith_129 : decode cX5_worksWith 129 = .ok (.invokevirtual 169, 3) := dr9 dk9_dX5_worksWith_0_0.2.1 9 (129, .invokevirtual 169, 3) rfl
theorem dX5_worksWith_132 : decode cX5_worksWith 132 = .ok (.aload_n 0, 1) := dr9 dk9_dX5_worksWith_0_0.2.1 10 (132, .aload_n 0, 1) rfl
theorem dX5_worksWith_133 : decode cX5_worksWith 133 = .ok (.aload_n 1, 1) := dr9 dk9_dX5_worksWith_0_0.2.1 11 (133, .aload_n 1, 1) rfl
theorem dX5_worksWith_134 : decode cX5_worksWith 134 = .ok (.invokevirtual 310, 3) := dr9 dk9_dX5_worksWith_0_0.2.1 12 (134, .invokevirtual 310, 3) rfl
theorem dX5_worksWith_137 : decode cX5_worksWith 137 = .ok (.iconst 0, 1) := dr9 dk9_dX5_worksWith_0_0.2.1 13 (137, .iconst 0, 1) rfl
theorem dX5_worksWith_138 : decode cX5_worksWith 138 = .ok (.ireturn, 1) := dr9 dk9_dX5_worksWith_0_0.2.1 14 (138, .ireturn, 1) rfl
theorem dX5_worksWith_105 : decode cX5_worksWith 105 = .ok (.aload_n 1, 1) := dr9 dk9_dX5_worksWith_0_0.2.1 15 (105, .aload_n 1, 1) rfl
theorem dX5_worksWith_106 : decode cX5_worksWith 106 = .ok (.aload_n 0, 1) := dr9 dk9_dX5_worksWith_0_0.2.1 16 (106, .aload_n 0, 1) rfl
theorem dX5_worksWith_107 : decode cX5_worksWith 107 = .ok (.invokevirtual 330, 3) := dr9 dk9_dX5_worksWith_0_0.2.1 17 (107, .invokevirtual 330, 3) rfl
theorem dX5_worksWith_110 : decode cX5_worksWith 110 = .ok (.ifCond .ne 7, 3) := dr9 dk9_dX5_worksWith_0_0.2.1 18 (110, .ifCond .ne 7, 3) rfl
theorem dX5_worksWith_117 : decode cX5_worksWith 117 = .ok (.aload_n 1, 1) := dr9 dk9_dX5_worksWith_0_0.2.1 19 (117, .aload_n 1, 1) rfl
theorem dX5_worksWith_118 : decode cX5_worksWith 118 = .ok (.getfield 141, 3) := dr9 dk9_dX5_worksWith_0_0.2.1 20 (118, .getfield 141, 3) rfl
theorem dX5_worksWith_121 : decode cX5_worksWith 121 = .ok (.putfield 141, 3) := dr9 dk9_dX5_worksWith_0_0.2.1 21 (121, .putfield 141, 3) rfl
theorem dX5_worksWith_124 : decode cX5_worksWith 124 = .ok (.iconst 1, 1) := dr9 dk9_dX5_worksWith_0_0.2.1 22 (124, .iconst 1, 1) rfl
theorem dX5_worksWith_125 : decode cX5_worksWith 125 = .ok (.ireturn, 1) := dr9 dk9_dX5_worksWith_0_0.2.1 23 (125, .ireturn, 1) rfl
theorem dX5_worksWith_113 : decode cX5_worksWith 113 = .ok (.iload_n 3, 1) := dr9 dk9_dX5_worksWith_0_0.2.2.1 0 (113, .iload_n 3, 1) rfl
theorem dX5_worksWith_114 : decode cX5_worksWith 114 = .ok (.goto 7, 3) := dr9 dk9_dX5_worksWith_0_0.2.2.1 1 (114, .goto 7, 3) rfl
theorem dX5_worksWith_98 : decode cX5_worksWith 98 = .ok (.aload_n 1, 1) := dr9 dk9_dX5_worksWith_0_0.2.2.1 2 (98, .aload_n 1, 1) rfl
theorem dX5_worksWith_99 : decode cX5_worksWith 99 = .ok (.iload_n 3, 1) := dr9 dk9_dX5_worksWith_0_0.2.2.1 3 (99, .iload_n 3, 1) rfl
theorem dX5_worksWith_100 : decode cX5_worksWith 100 = .ok (.putfield 141, 3) := dr9 dk9_dX5_worksWith_0_0.2.2.1 4 (100, .putfield 141, 3) rfl
theorem dX5_worksWith_103 : decode cX5_worksWith 103 = .ok (.iconst 1, 1) := dr9 dk9_dX5_worksWith_0_0.2.2.1 5 (103, .iconst 1, 1) rfl
theorem dX5_worksWith_104 : decode cX5_worksWith 104 = .ok (.ireturn, 1) := dr9 dk9_dX5_worksWith_0_0.2.2.1 6 (104, .ireturn, 1) rfl
theorem dX5_worksWith_139 : decode cX5_worksWith 139 = .ok (.aload_n 1, 1) := dr9 dk9_dX5_worksWith_0_0.2.2.1 7 (139, .aload_n 1, 1) rfl
theorem dX5_worksWith_140 : decode cX5_worksWith 140 = .ok (.iload_n 3, 1) := dr9 dk9_dX5_worksWith_0_0.2.2.1 8 (140, .iload_n 3, 1) rfl
theorem dX5_worksWith_141 : decode cX5_worksWith 141 = .ok (.bipush 20, 2) := dr9 dk9_dX5_worksWith_0_0.2.2.1 9 (141, .bipush 20, 2) rfl
theorem dX5_worksWith_143 : decode cX5_worksWith 143 = .ok (.idiv, 1) := dr9 dk9_dX5_worksWith_0_0.2.2.1 10 (143, .idiv, 1) rfl
theorem dX5_worksWith_144 : decode cX5_worksWith 144 = .ok (.putfield 109, 3) := dr9 dk9_dX5_worksWith_0_0.2.2.1 11 (144, .putfield 109, 3) rfl
theorem dX5_worksWith_147 : decode cX5_worksWith 147 = .ok (.aload_n 1, 1) := dr9 dk9_dX5_worksWith_0_0.2.2.1 12 (147, .aload_n 1, 1) rfl
theorem dX5_worksWith_148 : decode cX5_worksWith 148 = .ok (.iload_n 3, 1) := dr9 dk9_dX5_worksWith_0_0.2.2.1 13 (148, .iload_n 3, 1) rfl
theorem dX5_worksWith_149 : decode cX5_worksWith 149 = .ok (.bipush 20, 2) := dr9 dk9_dX5_worksWith_0_0.2.2.1 14 (149, .bipush 20, 2) rfl
theorem dX5_worksWith_151 : decode cX5_worksWith 151 = .ok (.irem, 1) := dr9 dk9_dX5_worksWith_0_0.2.2.1 15 (151, .irem, 1) rfl
theorem dX5_worksWith_152 : decode cX5_worksWith 152 = .ok (.putfield 347, 3) := dr9 dk9_dX5_worksWith_0_0.2.2.1 16 (152, .putfield 347, 3) rfl
theorem dX5_worksWith_155 : decode cX5_worksWith 155 = .ok (.aload_n 1, 1) := dr9 dk9_dX5_worksWith_0_0.2.2.1 17 (155, .aload_n 1, 1) rfl
theorem dX5_worksWith_156 : decode cX5_worksWith 156 = .ok (.aload_n 0, 1) := dr9 dk9_dX5_worksWith_0_0.2.2.1 18 (156, .aload_n 0, 1) rfl
theorem dX5_worksWith_157 : decode cX5_worksWith 157 = .ok (.invokevirtual 330, 3) := dr9 dk9_dX5_worksWith_0_0.2.2.1 19 (157, .invokevirtual 330, 3) rfl
theorem dX5_worksWith_160 : decode cX5_worksWith 160 = .ok (.putfield 350, 3) := dr9 dk9_dX5_worksWith_0_0.2.2.1 20 (160, .putfield 350, 3) rfl
theorem dX5_worksWith_163 : decode cX5_worksWith 163 = .ok (.aload_n 1, 1) := dr9 dk9_dX5_worksWith_0_0.2.2.1 21 (163, .aload_n 1, 1) rfl
theorem dX5_worksWith_164 : decode cX5_worksWith 164 = .ok (.bipush 6, 2) := dr9 dk9_dX5_worksWith_0_0.2.2.1 22 (164, .bipush 6, 2) rfl
theorem dX5_worksWith_166 : decode cX5_worksWith 166 = .ok (.putfield 94, 3) := dr9 dk9_dX5_worksWith_0_0.2.2.1 23 (166, .putfield 94, 3) rfl
theorem dX5_worksWith_169 : decode cX5_worksWith 169 = .ok (.iconst 0, 1) := dr9 dk9_dX5_worksWith_0_0.2.2.2 0 (169, .iconst 0, 1) rfl
theorem dX5_worksWith_170 : decode cX5_worksWith 170 = .ok (.ireturn, 1) := dr9 dk9_dX5_worksWith_0_0.2.2.2 1 (170, .ireturn, 1) rfl
theorem dX5_worksWith_14 : decode cX5_worksWith 14 = .ok (.aload_n 0, 1) := dr9 dk9_dX5_worksWith_0_0.2.2.2 2 (14, .aload_n 0, 1) rfl
theorem dX5_worksWith_15 : decode cX5_worksWith 15 = .ok (.getfield 24, 3) := dr9 dk9_dX5_worksWith_0_0.2.2.2 3 (15, .getfield 24, 3) rfl
theorem dX5_worksWith_18 : decode cX5_worksWith 18 = .ok (.getfield 323, 3) := dr9 dk9_dX5_worksWith_0_0.2.2.2 4 (18, .getfield 323, 3) rfl
theorem dX5_worksWith_21 : decode cX5_worksWith 21 = .ok (.aload_n 1, 1) := dr9 dk9_dX5_worksWith_0_0.2.2.2 5 (21, .aload_n 1, 1) rfl
theorem dX5_worksWith_22 : decode cX5_worksWith 22 = .ok (.getfield 141, 3) := dr9 dk9_dX5_worksWith_0_0.2.2.2 6 (22, .getfield 141, 3) rfl
theorem dX5_worksWith_25 : decode cX5_worksWith 25 = .ok (.iaload, 1) := dr9 dk9_dX5_worksWith_0_0.2.2.2 7 (25, .iaload, 1) rfl
theorem dX5_worksWith_26 : decode cX5_worksWith 26 = .ok (.goto 4, 3) := dr9 dk9_dX5_worksWith_0_0.2.2.2 8 (26, .goto 4, 3) rfl
abbrev r_x_endWork2 : Room := { frames := 1, cells := 0, slots := 0, locals := 20 }
abbrev q_x_endWork2 (D : va_G) (ks : KS) (ad : Nat → Nat) (kk : Nat → ClassId) (V : Vf) (L : Lf) (Z : XZ) (b : Nat) (gf : Nat) (A : Nat → Prop) : Array Value → State → Outcome → State → Prop := va_Qv (fun (u : Vf × Lf) => rgd bX u.1 ∧ agr [(5, 6), (5, 7)] [] V u.1 ∧ u.2 = L ∧ (MJ u.1 Z b)) (fun u t => gq D A (xw ad kk u.1 u.2 Z) (xty kk Z) t) A
set_option maxHeartbeats 4000000 in
set_option maxRecDepth 100000 in
theorem x_endWork2 (l : Launch) (D : va_G) (ks : KS) (sz : Nat) (ad : Nat → Nat) (kk : Nat → ClassId) (V : Vf) (L : Lf) (Z : XZ) (b : Nat) (gf : Nat) (hMV : rgd bX V) (hb2 : b < 2) (hgf : gf < Z.nf) (mo : MO V Z b gf True False True) (gd : (gf : Int) + 1 = (V 5 6).toInt) (gk : (V 67 gf).toInt = 4)  : Met l yX5_endWork (Cond.code yX5_endWork cX5_endWork 2 none :: GW) r_x_endWork2 (va_Pc [.ref (ad 5), .ref (Z.fa gf)] (gp D ks (xw ad kk V L Z) (xty kk Z) sz)) (q_x_endWork2 D ks ad kk V L Z  b gf (va_A (xw ad kk V L Z) sz)) 0 0 (va_A (xw ad kk V L Z) sz) := by
  refine g_met (q_x_endWork2 D ks ad kk V L Z  b gf) (by decide) (Nat.le_of_ble_eq_true rfl) ?_
  intro p e s m below meth c A ls H locs hx hb hr hml hown hg hlocks hin hnw hgk hP hK hD hS hA hl
  have hown : s.vm.findClass RX5 = some m.cls := hown
  have hl : lv_has ls 2 [(0, .ref (ad 5)), (1, .ref (Z.fa gf))] := hl
  have hP : va_P D vwCl (xw ad kk V L Z) H := hP
  have hD : va_D A (xw ad kk V L Z) := hD
  have hK : va_K D vwCl (xty kk Z) s := hK
  have agV : agr [(5, 6), (5, 7)] [] V V := agr.rf
  have r1 : 0 ≤ ((V 5 6)).toInt ∧ ((V 5 6)).toInt ≤ 400 := hMV 5 6
  have kdp := i_clamp (x := V 5 6) rfl (by (first | exact om_c66f1b494bd9 gd | omega))
  have hdn : (gf : Int) + 1 ≤ (Z.nf : Int) := by (first | exact om_29efded833ec hgf | omega)
  have mup := MO.up mo
  have msz := mup.1
  have mbk := mup.2.2.2.1
  obtain ⟨xk, fk⟩ := MO.fk mo
  have r2 : (-1) ≤ ((V 71 gf)).toInt ∧ ((V 71 gf)).toInt ≤ 23 := hMV 71 gf
  have r3 : 0 ≤ ((V 75 gf)).toInt ∧ ((V 75 gf)).toInt ≤ 12 := hMV 75 gf
  have r4 : 0 ≤ ((V 80 gf)).toInt ∧ ((V 80 gf)).toInt ≤ 300 := hMV 80 gf
  have r5 : 0 ≤ ((V 84 gf)).toInt ∧ ((V 84 gf)).toInt ≤ 2147483647 := hMV 84 gf
  have r6 : 0 ≤ ((V 5 8)).toInt ∧ ((V 5 8)).toInt ≤ 300 := hMV 5 8
  have r7 : 0 ≤ ((V 5 9)).toInt ∧ ((V 5 9)).toInt ≤ 3 := hMV 5 9
  have r8 : 0 ≤ ((V 3 13)).toInt ∧ ((V 3 13)).toInt ≤ 300 := hMV 3 13
  have r9 : 0 ≤ ((V 43 (5 * b + 2))).toInt ∧ ((V 43 (5 * b + 2))).toInt ≤ ((xcap (5 * b + 2) : Nat) : Int) := hMV 43 (5 * b + 2)
  have r10 : xcap (5 * b + 2) = 24 := xcap_2
  have r11 : 0 ≤ ((V 41 b)).toInt ∧ ((V 41 b)).toInt ≤ 12 := hMV 41 b
  have r12 : 0 ≤ ((V 42 b)).toInt ∧ ((V 42 b)).toInt ≤ 8200 := hMV 42 b
  have fc := fk.1 (by omega)
  have fo := fk.2.1 (by omega) (by omega)
  have ft := fk.2.2.1 (by omega)
  have fq := fk.2.2.2.1 (by omega)
  refine lv_aload_n hx hb dX5_endWork_0 rfl (lv_at hl 0 rfl) ?_
  refine lv_aload_n hx hb dX5_endWork_1 rfl (lv_at hl 1 rfl) ?_
  refine va_getN (D := D) (ci := 4) (v := .int (V 85 gf)) (fs := (xfFrame V gf)) (C := RX4) (T := TX4) (N := 19) hx hb hg inX4 hown hK hP (336 + gf) (xgFrame hgf) rfl 18 (by decide) (hnw.use 1207 n1207 rfl) (fun _ h9 => h9) rfl dX5_endWork_2 ?_
  have r13 : 0 ≤ ((V 85 gf)).toInt ∧ ((V 85 gf)).toInt ≤ 2048 := hMV 85 gf
  refine va_put (D := D) (ci := 5) (v := .int (V 85 gf)) (ty := tyX5 7) (fs := (xfMachine ad V L Z)) (C := RX5) (T := TX5) (N := 15) hx hb hg inX5 tyX5 tyX5_ok nmX5 hown hK hP hD hS 5 xgMachine rfl 7 (by decide) (hg _ w674) (fun _ h9 => h9) rfl (tyX5_ok 7 (by decide)) rfl rfl (Nat.le_of_ble_eq_true rfl) dX5_endWork_5 (fun H locs hP hD hS => ?_)
  obtain ⟨V14, hV14⟩ : ∃ z, z = up2 V 5 7 (V 85 gf) := ⟨_, rfl⟩
  have ew15 : (xw ad kk V L Z).set 5 ((ad 5), .inr (5, (xfMachine ad V L Z).set 7 (.int (V 85 gf)))) = xw ad kk V14 L Z := by rw [hV14]; exact xw_ss (by decide) rfl (xb_si (by decide))
  have hP : va_P D vwCl (xw ad kk V14 L Z) H := by rw [← ew15]; exact hP
  have hD : va_D A (xw ad kk V14 L Z) := by rw [← ew15]; exact hD
  have hMV14 : rgd bX V14 := hMV.put hV14 (show 0 ≤ ((V 85 gf)).toInt ∧ ((V 85 gf)).toInt ≤ 2048 from by first | exact om_01b7a0d43c7e r13.1 r13.2 | first | omega | ((try (have i_mo := Imp.go mo (by omega))); omega))
  have agV14 : agr [(5, 6), (5, 7)] [] V V14 := agV.up hV14 rfl
  refine lv_aload_n hx hb dX5_endWork_8 rfl (lv_at hl 0 rfl) ?_
  have pq16 : (V14 5 6).toInt = ((V 5 6)).toInt := congrArg Int32.toInt (up2_k hV14 (by decide))
  refine gA_void (gA_runV (As := []) (rest := []) (ci := 5) (q0 := 5) hx hb hml hown hg hP hD hK hS hA hnw hgk (x_leave l D ks H.size ad kk V14 L Z  hMV14 (show 1 ≤ (V14 5 6).toInt from by first | exact om_0cac171fa40c gd pq16 | first | omega | ((try (have i_mo := Imp.go mo (by omega))); omega))) w1308 w1310 w50 w171 w1311 rfl xgMachine hdV_yX5_leave ⟨Nat.le_of_ble_eq_true rfl, Nat.le_of_ble_eq_true rfl⟩ rfl hl.1 rfl (Nat.le_of_ble_eq_true rfl) dX5_endWork_9 ⟨Nat.le_of_ble_eq_true rfl, Nat.le_of_ble_eq_true rfl⟩) hP hD hK hS hA (fun u18 H locs w19 hP hD hK hS => ?_)
  obtain ⟨V21, L22⟩ := u18
  obtain ⟨hMV21, ajV21, axL22, t20⟩ := w19
  have axL22 : L = L22 := Eq.symm axL22
  subst axL22
  have hP : va_P D vwCl (xw ad kk V21 L Z) H := hP
  have hD : va_D A (xw ad kk V21 L Z) := hD
  have hMV21 : rgd bX V21 := hMV21
  have ajV21 : agr [(5, 6)] [] V14 V21 := ajV21
  have agV21 : agr [(5, 6), (5, 7)] [] V V21 := agV14.tr ajV21 (by decide) (by decide)
  have t20 : (V21 5 6).toInt = (V14 5 6).toInt - 1 := t20
  have r23 : 0 ≤ ((V21 5 6)).toInt ∧ ((V21 5 6)).toInt ≤ 400 := hMV21 5 6
  have me24 : ME V V21 gf := (ME.tr (ME.up ME.rf hV14 (Or.inr (by omega))) (ME.ag ajV21 (by decide)))
  have pq25 : (V21 67 gf).toInt = ((V 67 gf)).toInt := congrArg Int32.toInt ((ajV21 67 gf rfl).trans (up2_o hV14 (by decide)))
  have pq26 : (V21 68 gf).toInt = ((V 68 gf)).toInt := congrArg Int32.toInt ((ajV21 68 gf rfl).trans (up2_o hV14 (by decide)))
  have pq27 : (V21 70 gf).toInt = ((V 70 gf)).toInt := congrArg Int32.toInt ((ajV21 70 gf rfl).trans (up2_o hV14 (by decide)))
  have pq28 : (V21 71 gf).toInt = ((V 71 gf)).toInt := congrArg Int32.toInt ((ajV21 71 gf rfl).trans (up2_o hV14 (by decide)))
  have pq29 : (V21 75 gf).toInt = ((V 75 gf)).toInt := congrArg Int32.toInt ((ajV21 75 gf rfl).trans (up2_o hV14 (by decide)))
  have pq30 : (V21 76 gf).toInt = ((V 76 gf)).toInt := congrArg Int32.toInt ((ajV21 76 gf rfl).trans (up2_o hV14 (by decide)))
  have pq31 : (V21 80 gf).toInt = ((V 80 gf)).toInt := congrArg Int32.toInt ((ajV21 80 gf rfl).trans (up2_o hV14 (by decide)))
  have pq32 : (V21 84 gf).toInt = ((V 84 gf)).toInt := congrArg Int32.toInt ((ajV21 84 gf rfl).trans (up2_o hV14 (by decide)))
  have pq33 : (V21 5 8).toInt = ((V 5 8)).toInt := congrArg Int32.toInt ((ajV21 5 8 rfl).trans (up2_k hV14 (by decide)))
  have pq34 : (V21 5 9).toInt = ((V 5 9)).toInt := congrArg Int32.toInt ((ajV21 5 9 rfl).trans (up2_k hV14 (by decide)))
  have pq35 : (V21 3 13).toInt = ((V 3 13)).toInt := congrArg Int32.toInt ((ajV21 3 13 rfl).trans (up2_o hV14 (by decide)))
  have pq36 : (V21 43 (5 * b + 2)).toInt = ((V 43 (5 * b + 2))).toInt := congrArg Int32.toInt ((ajV21 43 (5 * b + 2) rfl).trans (up2_o hV14 (by decide)))
  have pq37 : (V21 42 b).toInt = ((V 42 b)).toInt := congrArg Int32.toInt ((ajV21 42 b rfl).trans (up2_o hV14 (by decide)))
  have pq38 : (V21 41 b).toInt = ((V 41 b)).toInt := congrArg Int32.toInt ((ajV21 41 b rfl).trans (up2_o hV14 (by decide)))
  have rp39 : MJ V21 Z b := MP.lv (MO.mp mo) me24 (by (first | exact om_5ac7632c8ef3 gd pq16 t20 | omega)) (fun _ => Or.inl (by omega))
  exact W.vret hx hb hr (fun t ht hW => ⟨⟨(V21, L), rfl, ⟨hMV21, agV21, rfl, rp39⟩, by rw [ht]; exact hP, va_K.moved hW.alike hK, hD⟩, hS.F ht⟩) hS.2.2 dX5_endWork_12
abbrev r_x_worksWith : Room := { frames := 2, cells := 0, slots := 0, locals := 41 }
abbrev q_x_worksWith (D : va_G) (ks : KS) (ad : Nat → Nat) (kk : Nat → ClassId) (V : Vf) (L : Lf) (Z : XZ) (p1 : Int32) (b : Nat) (gf : Nat) (A : Nat → Prop) : Array Value → State → Outcome → State → Prop := va_Qi (fun (r : Int32) (u : Vf × Lf) => rgd bX u.1 ∧ agr [(5, 6), (5, 7), (5, 9), (5, 11), (5, 12)] [39, 68, 75, 77, 78, 84] V u.1 ∧ u.2 = L ∧ (0 ≤ r.toInt ∧ r.toInt ≤ 1) ∧ (Imp (r.toInt = 1) (MO u.1 Z b gf True True True)) ∧ (Imp (r.toInt = 0) (MJ u.1 Z b)) ∧ (Imp (r.toInt = 1) ((u.1 5 6).toInt = (V 5 6).toInt ∧ (u.1 67 gf).toInt = 4 ∧ (u.1 68 gf).toInt = 0))) (fun u t => gq D A (xw ad kk u.1 u.2 Z) (xty kk Z) t) A
set_option maxHeartbeats 4000000 in
set_option maxRecDepth 100000 in
theorem x_worksWith (l : Launch) (D : va_G) (ks : KS) (sz : Nat) (ad : Nat → Nat) (kk : Nat → ClassId) (V : Vf) (L : Lf) (Z : XZ) (p1 : Int32) (b : Nat) (gf : Nat) (hMV : rgd bX V) (rg_p1 : 10 ≤ p1.toInt ∧ p1.toInt ≤ 15) (hb2 : b < 2) (hgf : gf < Z.nf) (moa : MOa V Z b gf) (gd : (gf : Int) + 1 = (V 5 6).toInt) (gk : (V 67 gf).toInt = 4) (gph : (V 68 gf).toInt = 0) (hal : (V 84 gf).toInt ≤ 8200) (hop : ∀ a : Nat, (a : Int) = (V 84 gf).toInt → (a : Int) < (V 42 b).toInt → okO V b p1.toInt (V 48 (8200 * b + a)).toInt ∧ (bdp V b (a + 1)).1 = true)  : Met l yX5_worksWith (Cond.code yX5_worksWith cX5_worksWith 4 (some .boolean) :: GW) r_x_worksWith (va_Pc [.ref (ad 5), .ref (Z.fa gf), .int p1] (gp D ks (xw ad kk V L Z) (xty kk Z) sz)) (q_x_worksWith D ks ad kk V L Z p1 b gf (va_A (xw ad kk V L Z) sz)) 0 0 (va_A (xw ad kk V L Z) sz) := by
  refine g_met (q_x_worksWith D ks ad kk V L Z p1 b gf) (by decide) (Nat.le_of_ble_eq_true rfl) ?_
  intro p e s m below meth c A ls H locs hx hb hr hml hown hg hlocks hin hnw hgk hP hK hD hS hA hl
  have hown : s.vm.findClass RX5 = some m.cls := hown
  have hl : lv_has ls 4 [(0, .ref (ad 5)), (1, .ref (Z.fa gf)), (2, .int p1)] := hl
  have hP : va_P D vwCl (xw ad kk V L Z) H := hP
  have hD : va_D A (xw ad kk V L Z) := hD
  have hK : va_K D vwCl (xty kk Z) s := hK
  have agV : agr [(5, 6), (5, 7), (5, 9), (5, 11), (5, 12)] [39, 68, 75, 77, 78, 84] V V := agr.rf
  have r1 : 0 ≤ ((V 5 6)).toInt ∧ ((V 5 6)).toInt ≤ 400 := hMV 5 6
  have r2 : 0 ≤ ((V 84 gf)).toInt ∧ ((V 84 gf)).toInt ≤ 2147483647 := hMV 84 gf
  have kdp := i_clamp (x := V 5 6) rfl (by (first | exact om_c66f1b494bd9 gd | omega))
  have hdn : (gf : Int) + 1 ≤ (Z.nf : Int) := by (first | exact om_29efded833ec hgf | omega)
  obtain ⟨Va, hVa⟩ : ∃ z, z = up2 V 84 gf 2147483647 := ⟨_, rfl⟩
  have mo : MO Va Z b gf True True True := by rw [hVa]; exact moa
  have hVV : V = up2 Va 84 gf (V 84 gf) := by rw [hVa]; exact up2_back.symm
  have mV : ME Va V gf := ME.up ME.rf hVV (Or.inl ⟨by decide, by decide, Nat.le_refl _⟩)
  have ea67 : Va 67 gf = V 67 gf := by rw [hVa]; exact up2_pl (by omega)
  have eb67 := congrArg Int32.toInt ea67
  have ea68 : Va 68 gf = V 68 gf := by rw [hVa]; exact up2_pl (by omega)
  have eb68 := congrArg Int32.toInt ea68
  have ea70 : Va 70 gf = V 70 gf := by rw [hVa]; exact up2_pl (by omega)
  have eb70 := congrArg Int32.toInt ea70
  have ea71 : Va 71 gf = V 71 gf := by rw [hVa]; exact up2_pl (by omega)
  have eb71 := congrArg Int32.toInt ea71
  have ea75 : Va 75 gf = V 75 gf := by rw [hVa]; exact up2_pl (by omega)
  have eb75 := congrArg Int32.toInt ea75
  have ea76 : Va 76 gf = V 76 gf := by rw [hVa]; exact up2_pl (by omega)
  have eb76 := congrArg Int32.toInt ea76
  have ea80 : Va 80 gf = V 80 gf := by rw [hVa]; exact up2_pl (by omega)
  have eb80 := congrArg Int32.toInt ea80
  have ea43 : Va 43 (5 * b + 2) = V 43 (5 * b + 2) := by rw [hVa]; exact up2_pl (by omega)
  have eb43 := congrArg Int32.toInt ea43
  have ea42 : Va 42 b = V 42 b := by rw [hVa]; exact up2_pl (by omega)
  have eb42 := congrArg Int32.toInt ea42
  have ea41 : Va 41 b = V 41 b := by rw [hVa]; exact up2_pl (by omega)
  have eb41 := congrArg Int32.toInt ea41
  have ea3 : Va 3 13 = V 3 13 := by rw [hVa]; exact up2_pl (by omega)
  have eb3 := congrArg Int32.toInt ea3
  have ea5 : Va 5 8 = V 5 8 := by rw [hVa]; exact up2_pl (by omega)
  have eb5 := congrArg Int32.toInt ea5
  have mup := MO.upm mo mV
  have msz := mup.1
  have mbk := mup.2.2.2.1
  obtain ⟨xk, fk⟩ := MO.fk mo
  have r3 : (-1) ≤ ((V 71 gf)).toInt ∧ ((V 71 gf)).toInt ≤ 23 := hMV 71 gf
  have r4 : 0 ≤ ((V 75 gf)).toInt ∧ ((V 75 gf)).toInt ≤ 12 := hMV 75 gf
  have r5 : 0 ≤ ((V 80 gf)).toInt ∧ ((V 80 gf)).toInt ≤ 300 := hMV 80 gf
  have r6 : 0 ≤ ((V 5 8)).toInt ∧ ((V 5 8)).toInt ≤ 300 := hMV 5 8
  have r7 : 0 ≤ ((V 5 9)).toInt ∧ ((V 5 9)).toInt ≤ 3 := hMV 5 9
  have r8 : 0 ≤ ((V 3 13)).toInt ∧ ((V 3 13)).toInt ≤ 300 := hMV 3 13
  have r9 : 0 ≤ ((V 43 (5 * b + 2))).toInt ∧ ((V 43 (5 * b + 2))).toInt ≤ ((xcap (5 * b + 2) : Nat) : Int) := hMV 43 (5 * b + 2)
  have r10 : xcap (5 * b + 2) = 24 := xcap_2
  have r11 : 0 ≤ ((V 41 b)).toInt ∧ ((V 41 b)).toInt ≤ 12 := hMV 41 b
  have r12 : 0 ≤ ((V 42 b)).toInt ∧ ((V 42 b)).toInt ≤ 8200 := hMV 42 b
  have fc := fk.1 (by omega)
  have fo := fk.2.1 (by omega) (by omega)
  refine lv_aload_n hx hb dX5_worksWith_0 rfl (lv_at hl 1 rfl) ?_
  refine va_getN (D := D) (ci := 4) (v := .int (V 84 gf)) (fs := (xfFrame V gf)) (C := RX4) (T := TX4) (N := 19) hx hb hg inX4 hown hK hP (336 + gf) (xgFrame hgf) rfl 17 (by decide) (hnw.use 1206 n1206 rfl) (fun _ h9 => h9) rfl dX5_worksWith_1 ?_
  refine lv_aload_n hx hb dX5_worksWith_4 rfl (lv_at hl 0 rfl) ?_
  refine va_get (D := D) (ci := 5) (v := .ref (ad (38 + Int32.toNatClampNeg (V 5 5)))) (fs := (xfMachine ad V L Z)) (C := RX5) (T := TX5) (N := 15) hx hb hg inX5 hown hK hP 5 xgMachine rfl 5 (by decide) (hg _ w672) (fun _ h9 => h9) rfl dX5_worksWith_5 ?_
  have r13 : 0 ≤ ((V 5 5)).toInt ∧ ((V 5 5)).toInt ≤ 1 := hMV 5 5
  refine g_topv (v := .ref (ad (38 + b))) (rfP (by first | omega | ((try (have i_hop := Imp.go hop (by omega))); (try (have i_moa := Imp.go moa (by omega))); (try (have i_moa := Imp.go moa (by omega))); (try (have i_hop := Imp.go hop (by omega))); omega))) ?_
  refine va_getN (D := D) (ci := 0) (v := .int (V 42 b)) (fs := (xfBook ad V b)) (C := RX0) (T := TX0) (N := 13) hx hb hg inX0 hown hK hP (38 + b) (xgBook hb2) rfl 12 (by decide) (hnw.use 631 n631 rfl) (fun _ h9 => h9) rfl dX5_worksWith_8 ?_
  refine lv_icmp_ge (tgt := 29) hx hb dX5_worksWith_11 (by decide) (fun c14 => ?_) (fun c14 => ?_)
  · skip
    have f15 : ((V 42 b)).toInt ≤ ((V 84 gf)).toInt := b_le rfl rfl c14
    refine lv_iconst (v := 0) hx hb dX5_worksWith_29 (by decide) ?_
    refine lv_istore_n (lv' := [(3, .int 0), (0, .ref (ad 5)), (1, .ref (Z.fa gf)), (2, .int p1)]) hx hb dX5_worksWith_30 rfl hl (by decide) rfl (fun ls hl => ?_)
    refine lv_aload_n hx hb dX5_worksWith_31 rfl (lv_at hl 2 rfl) ?_
    refine lv_dup hx hb dX5_worksWith_32 rfl ?_
    refine va_getN (D := D) (ci := 4) (v := .int (V 84 gf)) (fs := (xfFrame V gf)) (C := RX4) (T := TX4) (N := 19) hx hb hg inX4 hown hK hP (336 + gf) (xgFrame hgf) rfl 17 (by decide) (hnw.use 1206 n1206 rfl) (fun _ h9 => h9) rfl dX5_worksWith_33 ?_
    refine lv_iconst (v := 1) hx hb dX5_worksWith_36 (by decide) ?_
    refine lv_iadd hx hb dX5_worksWith_37 ?_
    have r16 := i_full (V 84 gf)
    refine lv_topi (fun z17 ez17 => ?_)
    have hz17 : Imp (-2147483648 ≤ ((V 84 gf)).toInt + 1 ∧ ((V 84 gf)).toInt + 1 ≤ 2147483647) (z17.toInt = ((V 84 gf)).toInt + 1) := Imp.mk (fun hp => i_add ez17 rfl (by decide) hp)
    refine va_putN (D := D) (ci := 4) (v := .int z17) (ty := tyX4 17) (fs := (xfFrame V gf)) (C := RX4) (T := TX4) (N := 19) hx hb hg inX4 tyX4 tyX4_ok nmX4 hown hK hP hD hS (336 + gf) (xgFrame hgf) rfl 17 (by decide) (hnw.use 1206 n1206 rfl) (fun _ h9 => h9) rfl (tyX4_ok 17 (by decide)) rfl rfl (Nat.le_of_ble_eq_true rfl) dX5_worksWith_38 (fun H locs hP hD hS => ?_)
    obtain ⟨V18, hV18⟩ : ∃ z, z = up2 V 84 gf z17 := ⟨_, rfl⟩
    have ew19 : (xw ad kk V L Z).set (336 + gf) ((Z.fa gf), .inr (4, (xfFrame V gf).set 17 (.int z17))) = xw ad kk V18 L Z := by rw [hV18]; exact xpFrame_at hgf
    have hP : va_P D vwCl (xw ad kk V18 L Z) H := by rw [← ew19]; exact hP
    have hD : va_D A (xw ad kk V18 L Z) := by rw [← ew19]; exact hD
    have hMV18 : rgd bX V18 := hMV.put hV18 (show 0 ≤ z17.toInt ∧ z17.toInt ≤ 2147483647 from by first | omega | ((try (have i_hz17 := Imp.go hz17 (by omega))); (try (have i_hop := Imp.go hop (by omega))); (try (have i_moa := Imp.go moa (by omega))); (try (have i_moa := Imp.go moa (by omega))); (try (have i_hop := Imp.go hop (by omega))); (try (have i_hz17 := Imp.go hz17 (by omega))); omega))
    have agV18 : agr [(5, 6), (5, 7), (5, 9), (5, 11), (5, 12)] [39, 68, 75, 77, 78, 84] V V18 := agV.up hV18 rfl
    have atn : (V 42 b).toInt ≤ z17.toInt ∨ (bdp V b z17.toInt.toNat).1 = true := Or.inl (by first | omega | ((try (have i_hz17 := Imp.go hz17 (by omega))); (try (have i_hop := Imp.go hop (by omega))); (try (have i_moa := Imp.go moa (by omega))); (try (have i_moa := Imp.go moa (by omega))); (try (have i_hop := Imp.go hop (by omega))); (try (have i_hz17 := Imp.go hz17 (by omega))); omega))
    have at0 : (V 42 b).toInt ≤ Int32.toInt 0 ∨ (bdp V b (Int32.toInt 0).toNat).1 = true := Or.inr rfl
    refine lv_iload_n hx hb dX5_worksWith_41 rfl (lv_at hl 3 rfl) ?_
    by_cases q20 : p1 = 10
    · refine g_top (v := 10) q20 ?_
      have fq20 : p1.toInt = 10 := b_eq rfl (by decide) q20
      refine lv_tableIn (x := 10) (off := 34) (tgt := 76) hx hb dX5_worksWith_42 (by decide) (by decide) (by decide) (by decide) ?_
      refine lv_aload_n hx hb dX5_worksWith_76 rfl (lv_at hl 1 rfl) ?_
      refine lv_iload_n hx hb dX5_worksWith_77 rfl (lv_at hl 0 rfl) ?_
      have r21 : Int32.toInt 0 = 0 := by decide
      refine gA_void (gA_runV (As := [.int 0]) (rest := []) (ci := 5) (q0 := 5) hx hb hml hown hg hP hD hK hS hA hnw hgk (x_mput l D ks H.size ad kk V18 L Z 0 hMV18 ) w1466 w1468 w72 w171 w1469 rfl xgMachine hdV_yX5_put ⟨Nat.le_of_ble_eq_true rfl, Nat.le_of_ble_eq_true rfl⟩ rfl hl.1 rfl (Nat.le_of_ble_eq_true rfl) dX5_worksWith_78 ⟨Nat.le_of_ble_eq_true rfl, Nat.le_of_ble_eq_true rfl⟩) hP hD hK hS hA (fun u23 H locs w24 hP hD hK hS => ?_)
      obtain ⟨V25, L26⟩ := u23
      obtain ⟨hMV25, ajV25, axL26⟩ := w24
      have axL26 : L = L26 := Eq.symm axL26
      subst axL26
      have hP : va_P D vwCl (xw ad kk V25 L Z) H := hP
      have hD : va_D A (xw ad kk V25 L Z) := hD
      have hMV25 : rgd bX V25 := hMV25
      have ajV25 : agr [(5, 7)] [39] V18 V25 := ajV25
      have agV25 : agr [(5, 6), (5, 7), (5, 9), (5, 11), (5, 12)] [39, 68, 75, 77, 78, 84] V V25 := agV18.tr ajV25 (by decide) (by decide)
      refine lv_iconst (v := 1) hx hb dX5_worksWith_81 (by decide) ?_
      have pq27 : (V25 5 6).toInt = ((V 5 6)).toInt := congrArg Int32.toInt ((ajV25 5 6 rfl).trans (up2_o hV18 (by decide)))
      have pq28 : (V25 67 gf).toInt = ((V 67 gf)).toInt := congrArg Int32.toInt ((ajV25 67 gf rfl).trans (up2_o hV18 (by decide)))
      have pq29 : (V25 68 gf).toInt = ((V 68 gf)).toInt := congrArg Int32.toInt ((ajV25 68 gf rfl).trans (up2_o hV18 (by decide)))
      have me30 : ME Va V25 gf := (ME.tr (ME.up mV hV18 (Or.inl ⟨by decide, by decide, Nat.le_refl _⟩)) (ME.ag ajV25 (by decide)))
      have pq31 : (V25 70 gf).toInt = ((V 70 gf)).toInt := congrArg Int32.toInt ((ajV25 70 gf rfl).trans (up2_o hV18 (by decide)))
      have pq32 : (V25 71 gf).toInt = ((V 71 gf)).toInt := congrArg Int32.toInt ((ajV25 71 gf rfl).trans (up2_o hV18 (by decide)))
      have pq33 : (V25 75 gf).toInt = ((V 75 gf)).toInt := congrArg Int32.toInt ((ajV25 75 gf rfl).trans (up2_o hV18 (by decide)))
      have pq34 : (V25 76 gf).toInt = ((V 76 gf)).toInt := congrArg Int32.toInt ((ajV25 76 gf rfl).trans (up2_o hV18 (by decide)))
      have pq35 : (V25 80 gf).toInt = ((V 80 gf)).toInt := congrArg Int32.toInt ((ajV25 80 gf rfl).trans (up2_o hV18 (by decide)))
      have pq36 : (V25 84 gf).toInt = z17.toInt := congrArg Int32.toInt ((ajV25 84 gf rfl).trans (up2_s hV18))
      have pq37 : (V25 5 8).toInt = ((V 5 8)).toInt := congrArg Int32.toInt ((ajV25 5 8 rfl).trans (up2_o hV18 (by decide)))
      have pq38 : (V25 5 9).toInt = ((V 5 9)).toInt := congrArg Int32.toInt ((ajV25 5 9 rfl).trans (up2_o hV18 (by decide)))
      have pq39 : (V25 3 13).toInt = ((V 3 13)).toInt := congrArg Int32.toInt ((ajV25 3 13 rfl).trans (up2_o hV18 (by decide)))
      have pq40 : (V25 43 (5 * b + 2)).toInt = ((V 43 (5 * b + 2))).toInt := congrArg Int32.toInt ((ajV25 43 (5 * b + 2) rfl).trans (up2_o hV18 (by decide)))
      have pq41 : (V25 42 b).toInt = ((V 42 b)).toInt := congrArg Int32.toInt ((ajV25 42 b rfl).trans (up2_o hV18 (by decide)))
      have pq42 : (V25 41 b).toInt = ((V 41 b)).toInt := congrArg Int32.toInt ((ajV25 41 b rfl).trans (up2_o hV18 (by decide)))
      have me45 : ME V V25 0 := (ME.tr (ME.up ME.rf hV18 (Or.inl ⟨by decide, by decide, by first | omega | ((try (have i_hz17 := Imp.go hz17 (by omega))); (try (have i_hop := Imp.go hop (by omega))); (try (have i_moa := Imp.go moa (by omega))); (try (have i_moa := Imp.go moa (by omega))); (try (have i_hop := Imp.go hop (by omega))); (try (have i_hz17 := Imp.go hz17 (by omega))); omega)⟩)) (ME.ag ajV25 (by decide)))
      have af44 : (V25 42 b).toInt ≤ (V25 84 gf).toInt ∨ (bdp V25 b (V25 84 gf).toInt.toNat).1 = true := by rw [((ajV25 84 gf rfl).trans (up2_s hV18)), me45.1.bd, me45.1 42 b (by decide) (by decide)]; exact atn
      have mo43 : MO V25 Z b gf True True True := MO.ch mo me30 ((ajV25 67 gf rfl).trans ((up2_o hV18 (by decide)).trans ea67.symm)) ((ajV25 80 gf rfl).trans ((up2_o hV18 (by decide)).trans ea80.symm)) (fun _ => Or.inl (by omega)) (fun x h => FK.k4 (by first | omega | ((try (have i_hz17 := Imp.go hz17 (by omega))); (try (have i_hop := Imp.go hop (by omega))); (try (have i_moa := Imp.go moa (by omega))); (try (have i_moa := Imp.go moa (by omega))); (try (have i_hop := Imp.go hop (by omega))); (try (have i_hz17 := Imp.go hz17 (by omega))); omega)) (by first | omega | ((try (have i_hz17 := Imp.go hz17 (by omega))); (try (have i_hop := Imp.go hop (by omega))); (try (have i_moa := Imp.go moa (by omega))); (try (have i_moa := Imp.go moa (by omega))); (try (have i_hop := Imp.go hop (by omega))); (try (have i_hz17 := Imp.go hz17 (by omega))); omega)) (by first | omega | ((try (have i_hz17 := Imp.go hz17 (by omega))); (try (have i_hop := Imp.go hop (by omega))); (try (have i_moa := Imp.go moa (by omega))); (try (have i_moa := Imp.go moa (by omega))); (try (have i_hop := Imp.go hop (by omega))); (try (have i_hz17 := Imp.go hz17 (by omega))); omega)) af44 (by first | omega | ((try (have i_hz17 := Imp.go hz17 (by omega))); (try (have i_hop := Imp.go hop (by omega))); (try (have i_moa := Imp.go moa (by omega))); (try (have i_moa := Imp.go moa (by omega))); (try (have i_hop := Imp.go hop (by omega))); (try (have i_hz17 := Imp.go hz17 (by omega))); omega)) (fun hph => absurd hph (by omega)))
      exact W.zret (v := 1) hx hb hr rfl (fun t ht hW => ⟨⟨1, (V25, L), rfl, ⟨hMV25, agV25, rfl, (by decide), (Imp.mk (fun _ => mo43)), (Imp.mk (fun hp => absurd hp (by decide))), (Imp.mk (fun _ => (show (V25 5 6).toInt = (V 5 6).toInt ∧ (V25 67 gf).toInt = 4 ∧ (V25 68 gf).toInt = 0 from by first | exact om_a46bf36ddf1a gk gph pq27 pq28 pq29 | first | omega | ((try (have i_hz17 := Imp.go hz17 (by omega))); (try (have i_hop := Imp.go hop (by omega))); (try (have i_moa := Imp.go moa (by omega))); (try (have i_moa := Imp.go moa (by omega))); (try (have i_hop := Imp.go hop (by omega))); (try (have i_hz17 := Imp.go hz17 (by omega))); omega))))⟩, by rw [ht]; exact hP, va_K.moved hW.alike hK, hD⟩, hS.F ht⟩) hS.2.2 dX5_worksWith_82
    have gq20 : p1.toInt ≠ 10 := b_neq rfl (by decide) q20
    by_cases q46 : p1 = 11
    · refine g_top (v := 11) q46 ?_
      have fq46 : p1.toInt = 11 := b_eq rfl (by decide) q46
      refine lv_tableIn (x := 11) (off := 41) (tgt := 83) hx hb dX5_worksWith_42 (by decide) (by decide) (by decide) (by decide) ?_
      refine lv_aload_n hx hb dX5_worksWith_83 rfl (lv_at hl 1 rfl) ?_
      refine lv_aload_n hx hb dX5_worksWith_84 rfl (lv_at hl 1 rfl) ?_
      refine va_get (D := D) (ci := 5) (v := .ref (ad (38 + Int32.toNatClampNeg (V18 5 5)))) (fs := (xfMachine ad V18 L Z)) (C := RX5) (T := TX5) (N := 15) hx hb hg inX5 hown hK hP 5 xgMachine rfl 5 (by decide) (hg _ w672) (fun _ h9 => h9) rfl dX5_worksWith_85 ?_
      have pq47 : (V18 5 5).toInt = ((V 5 5)).toInt := congrArg Int32.toInt (up2_o hV18 (by decide))
      refine g_topv (v := .ref (ad (38 + b))) (rfP (by first | omega | ((try (have i_hz17 := Imp.go hz17 (by omega))); (try (have i_hop := Imp.go hop (by omega))); (try (have i_moa := Imp.go moa (by omega))); (try (have i_moa := Imp.go moa (by omega))); (try (have i_hop := Imp.go hop (by omega))); (try (have i_hz17 := Imp.go hz17 (by omega))); omega))) ?_
      refine va_getN (D := D) (ci := 0) (v := .ref (ad (62 + b))) (fs := (xfBook ad V18 b)) (C := RX0) (T := TX0) (N := 13) hx hb hg inX0 hown hK hP (38 + b) (xgBook hb2) rfl 6 (by decide) (hnw.use 613 n613 rfl) (fun _ h9 => h9) rfl dX5_worksWith_88 ?_
      refine lv_iload_n hx hb dX5_worksWith_91 rfl (lv_at hl 0 rfl) ?_
      have il48 : b < 2 := by first | exact om_f940a4667dd6 hb2 | first | omega | ((try (have i_hz17 := Imp.go hz17 (by omega))); (try (have i_hop := Imp.go hop (by omega))); (try (have i_moa := Imp.go moa (by omega))); (try (have i_moa := Imp.go moa (by omega))); (try (have i_hop := Imp.go hop (by omega))); (try (have i_hz17 := Imp.go hz17 (by omega))); omega)
      refine va_iald (D := D) (i := 0) hx hb hK hP (62 + b) (55 + b) (xgsettingValues il48) (xtsettingValues il48) (i_in (a := 0) (by decide) (by decide)) dX5_worksWith_92 ?_
      have kc49 : Int32.toNatClampNeg 0 = 0 := by decide
      refine g_top (v := V18 46 (12 * b + (Int32.toNatClampNeg 0))) (if_pos (by first | omega | ((try (have i_hz17 := Imp.go hz17 (by omega))); (try (have i_hop := Imp.go hop (by omega))); (try (have i_moa := Imp.go moa (by omega))); (try (have i_moa := Imp.go moa (by omega))); (try (have i_hop := Imp.go hop (by omega))); (try (have i_hz17 := Imp.go hz17 (by omega))); omega))) ?_
      refine g_top (v := (V 46 (12 * b + (Int32.toNatClampNeg 0)))) (up2_o hV18 (by decide)) ?_
      refine gA_void (gA_runV (As := [.int (V 46 (12 * b + (Int32.toNatClampNeg 0)))]) (rest := []) (ci := 5) (q0 := 5) hx hb hml hown hg hP hD hK hS hA hnw hgk (x_mput l D ks H.size ad kk V18 L Z (V 46 (12 * b + (Int32.toNatClampNeg 0))) hMV18 ) w1466 w1468 w72 w171 w1469 rfl xgMachine hdV_yX5_put ⟨Nat.le_of_ble_eq_true rfl, Nat.le_of_ble_eq_true rfl⟩ rfl hl.1 rfl (Nat.le_of_ble_eq_true rfl) dX5_worksWith_93 ⟨Nat.le_of_ble_eq_true rfl, Nat.le_of_ble_eq_true rfl⟩) hP hD hK hS hA (fun u51 H locs w52 hP hD hK hS => ?_)
      obtain ⟨V53, L54⟩ := u51
      obtain ⟨hMV53, ajV53, axL54⟩ := w52
      have axL54 : L = L54 := Eq.symm axL54
      subst axL54
      have hP : va_P D vwCl (xw ad kk V53 L Z) H := hP
      have hD : va_D A (xw ad kk V53 L Z) := hD
      have hMV53 : rgd bX V53 := hMV53
      have ajV53 : agr [(5, 7)] [39] V18 V53 := ajV53
      have agV53 : agr [(5, 6), (5, 7), (5, 9), (5, 11), (5, 12)] [39, 68, 75, 77, 78, 84] V V53 := agV18.tr ajV53 (by decide) (by decide)
      refine lv_iconst (v := 1) hx hb dX5_worksWith_96 (by decide) ?_
      have pq55 : (V53 5 6).toInt = ((V 5 6)).toInt := congrArg Int32.toInt ((ajV53 5 6 rfl).trans (up2_o hV18 (by decide)))
      have pq56 : (V53 67 gf).toInt = ((V 67 gf)).toInt := congrArg Int32.toInt ((ajV53 67 gf rfl).trans (up2_o hV18 (by decide)))
      have pq57 : (V53 68 gf).toInt = ((V 68 gf)).toInt := congrArg Int32.toInt ((ajV53 68 gf rfl).trans (up2_o hV18 (by decide)))
      have me58 : ME Va V53 gf := (ME.tr (ME.up mV hV18 (Or.inl ⟨by decide, by decide, Nat.le_refl _⟩)) (ME.ag ajV53 (by decide)))
      have pq59 : (V53 70 gf).toInt = ((V 70 gf)).toInt := congrArg Int32.toInt ((ajV53 70 gf rfl).trans (up2_o hV18 (by decide)))
      have pq60 : (V53 71 gf).toInt = ((V 71 gf)).toInt := congrArg Int32.toInt ((ajV53 71 gf rfl).trans (up2_o hV18 (by decide)))
      have pq61 : (V53 75 gf).toInt = ((V 75 gf)).toInt := congrArg Int32.toInt ((ajV53 75 gf rfl).trans (up2_o hV18 (by decide)))
      have pq62 : (V53 76 gf).toInt = ((V 76 gf)).toInt := congrArg Int32.toInt ((ajV53 76 gf rfl).trans (up2_o hV18 (by decide)))
      have pq63 : (V53 80 gf).toInt = ((V 80 gf)).toInt := congrArg Int32.toInt ((ajV53 80 gf rfl).trans (up2_o hV18 (by decide)))
      have pq64 : (V53 84 gf).toInt = z17.toInt := congrArg Int32.toInt ((ajV53 84 gf rfl).trans (up2_s hV18))
      have pq65 : (V53 5 8).toInt = ((V 5 8)).toInt := congrArg Int32.toInt ((ajV53 5 8 rfl).trans (up2_o hV18 (by decide)))
      have pq66 : (V53 5 9).toInt = ((V 5 9)).toInt := congrArg Int32.toInt ((ajV53 5 9 rfl).trans (up2_o hV18 (by decide)))
      have pq67 : (V53 3 13).toInt = ((V 3 13)).toInt := congrArg Int32.toInt ((ajV53 3 13 rfl).trans (up2_o hV18 (by decide)))
      have pq68 : (V53 43 (5 * b + 2)).toInt = ((V 43 (5 * b + 2))).toInt := congrArg Int32.toInt ((ajV53 43 (5 * b + 2) rfl).trans (up2_o hV18 (by decide)))
      have pq69 : (V53 42 b).toInt = ((V 42 b)).toInt := congrArg Int32.toInt ((ajV53 42 b rfl).trans (up2_o hV18 (by decide)))
      have pq70 : (V53 41 b).toInt = ((V 41 b)).toInt := congrArg Int32.toInt ((ajV53 41 b rfl).trans (up2_o hV18 (by decide)))
      have me73 : ME V V53 0 := (ME.tr (ME.up ME.rf hV18 (Or.inl ⟨by decide, by decide, by first | omega | ((try (have i_hz17 := Imp.go hz17 (by omega))); (try (have i_hop := Imp.go hop (by omega))); (try (have i_moa := Imp.go moa (by omega))); (try (have i_moa := Imp.go moa (by omega))); (try (have i_hop := Imp.go hop (by omega))); (try (have i_hz17 := Imp.go hz17 (by omega))); omega)⟩)) (ME.ag ajV53 (by decide)))
      have af72 : (V53 42 b).toInt ≤ (V53 84 gf).toInt ∨ (bdp V53 b (V53 84 gf).toInt.toNat).1 = true := by rw [((ajV53 84 gf rfl).trans (up2_s hV18)), me73.1.bd, me73.1 42 b (by decide) (by decide)]; exact atn
      have mo71 : MO V53 Z b gf True True True := MO.ch mo me58 ((ajV53 67 gf rfl).trans ((up2_o hV18 (by decide)).trans ea67.symm)) ((ajV53 80 gf rfl).trans ((up2_o hV18 (by decide)).trans ea80.symm)) (fun _ => Or.inl (by omega)) (fun x h => FK.k4 (by first | omega | ((try (have i_hz17 := Imp.go hz17 (by omega))); (try (have i_hop := Imp.go hop (by omega))); (try (have i_moa := Imp.go moa (by omega))); (try (have i_moa := Imp.go moa (by omega))); (try (have i_hop := Imp.go hop (by omega))); (try (have i_hz17 := Imp.go hz17 (by omega))); omega)) (by first | omega | ((try (have i_hz17 := Imp.go hz17 (by omega))); (try (have i_hop := Imp.go hop (by omega))); (try (have i_moa := Imp.go moa (by omega))); (try (have i_moa := Imp.go moa (by omega))); (try (have i_hop := Imp.go hop (by omega))); (try (have i_hz17 := Imp.go hz17 (by omega))); omega)) (by first | omega | ((try (have i_hz17 := Imp.go hz17 (by omega))); (try (have i_hop := Imp.go hop (by omega))); (try (have i_moa := Imp.go moa (by omega))); (try (have i_moa := Imp.go moa (by omega))); (try (have i_hop := Imp.go hop (by omega))); (try (have i_hz17 := Imp.go hz17 (by omega))); omega)) af72 (by first | omega | ((try (have i_hz17 := Imp.go hz17 (by omega))); (try (have i_hop := Imp.go hop (by omega))); (try (have i_moa := Imp.go moa (by omega))); (try (have i_moa := Imp.go moa (by omega))); (try (have i_hop := Imp.go hop (by omega))); (try (have i_hz17 := Imp.go hz17 (by omega))); omega)) (fun hph => absurd hph (by omega)))
      exact W.zret (v := 1) hx hb hr rfl (fun t ht hW => ⟨⟨1, (V53, L), rfl, ⟨hMV53, agV53, rfl, (by decide), (Imp.mk (fun _ => mo71)), (Imp.mk (fun hp => absurd hp (by decide))), (Imp.mk (fun _ => (show (V53 5 6).toInt = (V 5 6).toInt ∧ (V53 67 gf).toInt = 4 ∧ (V53 68 gf).toInt = 0 from by first | exact om_a46bf36ddf1a gk gph pq55 pq56 pq57 | first | omega | ((try (have i_hz17 := Imp.go hz17 (by omega))); (try (have i_hop := Imp.go hop (by omega))); (try (have i_moa := Imp.go moa (by omega))); (try (have i_moa := Imp.go moa (by omega))); (try (have i_hop := Imp.go hop (by omega))); (try (have i_hz17 := Imp.go hz17 (by omega))); omega))))⟩, by rw [ht]; exact hP, va_K.moved hW.alike hK, hD⟩, hS.F ht⟩) hS.2.2 dX5_worksWith_97
    have gq46 : p1.toInt ≠ 11 := b_neq rfl (by decide) q46
    by_cases q74 : p1 = 12
    · refine g_top (v := 12) q74 ?_
      have fq74 : p1.toInt = 12 := b_eq rfl (by decide) q74
      refine lv_tableIn (x := 12) (off := 84) (tgt := 126) hx hb dX5_worksWith_42 (by decide) (by decide) (by decide) (by decide) ?_
      refine lv_aload_n hx hb dX5_worksWith_126 rfl (lv_at hl 1 rfl) ?_
      refine lv_iconst (v := 0) hx hb dX5_worksWith_127 (by decide) ?_
      refine lv_iload_n hx hb dX5_worksWith_128 rfl (lv_at hl 0 rfl) ?_
      have r75 : Int32.toInt 0 = 0 := by decide
      refine gA_void (gA_runV (As := [.int 0, .int 0]) (rest := []) (ci := 5) (q0 := 5) hx hb hml hown hg hP hD hK hS hA hnw hgk (x_failWith l D ks H.size ad kk V18 L Z 0 0 hMV18 ) w1261 w1263 w46 w171 w1264 rfl xgMachine hdV_yX5_failWith ⟨Nat.le_of_ble_eq_true rfl, Nat.le_of_ble_eq_true rfl⟩ rfl hl.1 rfl (Nat.le_of_ble_eq_true rfl) dX5_worksWith_129 ⟨Nat.le_of_ble_eq_true rfl, Nat.le_of_ble_eq_true rfl⟩) hP hD hK hS hA (fun u77 H locs w78 hP hD hK hS => ?_)
      obtain ⟨V80, L81⟩ := u77
      obtain ⟨hMV80, ajV80, axL81, t79⟩ := w78
      have axL81 : L = L81 := Eq.symm axL81
      subst axL81
      have hP : va_P D vwCl (xw ad kk V80 L Z) H := hP
      have hD : va_D A (xw ad kk V80 L Z) := hD
      have hMV80 : rgd bX V80 := hMV80
      have ajV80 : agr [(5, 9), (5, 11), (5, 12)] [] V18 V80 := ajV80
      have agV80 : agr [(5, 6), (5, 7), (5, 9), (5, 11), (5, 12)] [39, 68, 75, 77, 78, 84] V V80 := agV18.tr ajV80 (by decide) (by decide)
      have t79 : (V80 5 9).toInt = 2 := t79
      have r82 : 0 ≤ ((V80 5 9)).toInt ∧ ((V80 5 9)).toInt ≤ 3 := hMV80 5 9
      refine lv_aload_n hx hb dX5_worksWith_132 rfl (lv_at hl 1 rfl) ?_
      refine lv_aload_n hx hb dX5_worksWith_133 rfl (lv_at hl 2 rfl) ?_
      have pq83 : (V80 5 6).toInt = ((V 5 6)).toInt := congrArg Int32.toInt ((ajV80 5 6 rfl).trans (up2_o hV18 (by decide)))
      have pq84 : (V80 67 gf).toInt = ((V 67 gf)).toInt := congrArg Int32.toInt ((ajV80 67 gf rfl).trans (up2_o hV18 (by decide)))
      have me85 : ME Va V80 gf := (ME.tr (ME.up mV hV18 (Or.inl ⟨by decide, by decide, Nat.le_refl _⟩)) (ME.ag ajV80 (by decide)))
      have pq86 : (V80 68 gf).toInt = ((V 68 gf)).toInt := congrArg Int32.toInt ((ajV80 68 gf rfl).trans (up2_o hV18 (by decide)))
      have pq87 : (V80 70 gf).toInt = ((V 70 gf)).toInt := congrArg Int32.toInt ((ajV80 70 gf rfl).trans (up2_o hV18 (by decide)))
      have pq88 : (V80 71 gf).toInt = ((V 71 gf)).toInt := congrArg Int32.toInt ((ajV80 71 gf rfl).trans (up2_o hV18 (by decide)))
      have pq89 : (V80 75 gf).toInt = ((V 75 gf)).toInt := congrArg Int32.toInt ((ajV80 75 gf rfl).trans (up2_o hV18 (by decide)))
      have pq90 : (V80 76 gf).toInt = ((V 76 gf)).toInt := congrArg Int32.toInt ((ajV80 76 gf rfl).trans (up2_o hV18 (by decide)))
      have pq91 : (V80 80 gf).toInt = ((V 80 gf)).toInt := congrArg Int32.toInt ((ajV80 80 gf rfl).trans (up2_o hV18 (by decide)))
      have pq92 : (V80 84 gf).toInt = z17.toInt := congrArg Int32.toInt ((ajV80 84 gf rfl).trans (up2_s hV18))
      have pq93 : (V80 5 8).toInt = ((V 5 8)).toInt := congrArg Int32.toInt ((ajV80 5 8 rfl).trans (up2_o hV18 (by decide)))
      have pq94 : (V80 3 13).toInt = ((V 3 13)).toInt := congrArg Int32.toInt ((ajV80 3 13 rfl).trans (up2_o hV18 (by decide)))
      have pq95 : (V80 43 (5 * b + 2)).toInt = ((V 43 (5 * b + 2))).toInt := congrArg Int32.toInt ((ajV80 43 (5 * b + 2) rfl).trans (up2_o hV18 (by decide)))
      have pq96 : (V80 42 b).toInt = ((V 42 b)).toInt := congrArg Int32.toInt ((ajV80 42 b rfl).trans (up2_o hV18 (by decide)))
      have pq97 : (V80 41 b).toInt = ((V 41 b)).toInt := congrArg Int32.toInt ((ajV80 41 b rfl).trans (up2_o hV18 (by decide)))
      have me100 : ME V V80 0 := (ME.tr (ME.up ME.rf hV18 (Or.inl ⟨by decide, by decide, by first | omega | ((try (have i_hz17 := Imp.go hz17 (by omega))); (try (have i_hop := Imp.go hop (by omega))); (try (have i_moa := Imp.go moa (by omega))); (try (have i_moa := Imp.go moa (by omega))); (try (have i_hop := Imp.go hop (by omega))); (try (have i_hz17 := Imp.go hz17 (by omega))); omega)⟩)) (ME.ag ajV80 (by decide)))
      have af99 : (V80 42 b).toInt ≤ (V80 84 gf).toInt ∨ (bdp V80 b (V80 84 gf).toInt.toNat).1 = true := by rw [((ajV80 84 gf rfl).trans (up2_s hV18)), me100.1.bd, me100.1 42 b (by decide) (by decide)]; exact atn
      have mo98 : MO V80 Z b gf True False True := MO.ch mo me85 ((ajV80 67 gf rfl).trans ((up2_o hV18 (by decide)).trans ea67.symm)) ((ajV80 80 gf rfl).trans ((up2_o hV18 (by decide)).trans ea80.symm)) (fun _ => Or.inl (by omega)) (fun x h => FK.k4 (by first | omega | ((try (have i_hz17 := Imp.go hz17 (by omega))); (try (have i_hop := Imp.go hop (by omega))); (try (have i_moa := Imp.go moa (by omega))); (try (have i_moa := Imp.go moa (by omega))); (try (have i_hop := Imp.go hop (by omega))); (try (have i_hz17 := Imp.go hz17 (by omega))); omega)) (by first | omega | ((try (have i_hz17 := Imp.go hz17 (by omega))); (try (have i_hop := Imp.go hop (by omega))); (try (have i_moa := Imp.go moa (by omega))); (try (have i_moa := Imp.go moa (by omega))); (try (have i_hop := Imp.go hop (by omega))); (try (have i_hz17 := Imp.go hz17 (by omega))); omega)) (by first | omega | ((try (have i_hz17 := Imp.go hz17 (by omega))); (try (have i_hop := Imp.go hop (by omega))); (try (have i_moa := Imp.go moa (by omega))); (try (have i_moa := Imp.go moa (by omega))); (try (have i_hop := Imp.go hop (by omega))); (try (have i_hz17 := Imp.go hz17 (by omega))); omega)) af99 (by first | omega | ((try (have i_hz17 := Imp.go hz17 (by omega))); (try (have i_hop := Imp.go hop (by omega))); (try (have i_moa := Imp.go moa (by omega))); (try (have i_moa := Imp.go moa (by omega))); (try (have i_hop := Imp.go hop (by omega))); (try (have i_hz17 := Imp.go hz17 (by omega))); omega)) (fun _ z => z.elim))
      refine gA_void (gA_runV (As := [.ref (Z.fa gf)]) (rest := []) (ci := 5) (q0 := 5) hx hb hml hown hg hP hD hK hS hA hnw hgk (x_endWork2 l D ks H.size ad kk V80 L Z (b) (gf) hMV80 (show b < 2 from by first | exact om_f940a4667dd6 hb2 | first | omega | ((try (have i_hz17 := Imp.go hz17 (by omega))); (try (have i_hop := Imp.go hop (by omega))); (try (have i_moa := Imp.go moa (by omega))); (try (have i_moa := Imp.go moa (by omega))); (try (have i_hop := Imp.go hop (by omega))); (try (have i_hz17 := Imp.go hz17 (by omega))); omega)) (show gf < Z.nf from by first | exact om_8c5722e49bb1 hgf | first | omega | ((try (have i_hz17 := Imp.go hz17 (by omega))); (try (have i_hop := Imp.go hop (by omega))); (try (have i_moa := Imp.go moa (by omega))); (try (have i_moa := Imp.go moa (by omega))); (try (have i_hop := Imp.go hop (by omega))); (try (have i_hz17 := Imp.go hz17 (by omega))); omega)) mo98 (show (gf : Int) + 1 = (V80 5 6).toInt from by first | exact om_6e5bbaaa0e03 gd pq83 | first | omega | ((try (have i_hz17 := Imp.go hz17 (by omega))); (try (have i_hop := Imp.go hop (by omega))); (try (have i_moa := Imp.go moa (by omega))); (try (have i_moa := Imp.go moa (by omega))); (try (have i_hop := Imp.go hop (by omega))); (try (have i_hz17 := Imp.go hz17 (by omega))); omega)) (show (V80 67 gf).toInt = 4 from by first | exact om_ac6651f4ff0c gk pq84 | first | omega | ((try (have i_hz17 := Imp.go hz17 (by omega))); (try (have i_hop := Imp.go hop (by omega))); (try (have i_moa := Imp.go moa (by omega))); (try (have i_moa := Imp.go moa (by omega))); (try (have i_hop := Imp.go hop (by omega))); (try (have i_hz17 := Imp.go hz17 (by omega))); omega))) w1458 w1460 w70 w171 w1461 rfl xgMachine hdV_yX5_endWork ⟨Nat.le_of_ble_eq_true rfl, Nat.le_of_ble_eq_true rfl⟩ rfl hl.1 rfl (Nat.le_of_ble_eq_true rfl) dX5_worksWith_134 ⟨Nat.le_of_ble_eq_true rfl, Nat.le_of_ble_eq_true rfl⟩) hP hD hK hS hA (fun u102 H locs w103 hP hD hK hS => ?_)
      obtain ⟨V105, L106⟩ := u102
      obtain ⟨hMV105, ajV105, axL106, t104⟩ := w103
      have axL106 : L = L106 := Eq.symm axL106
      subst axL106
      have hP : va_P D vwCl (xw ad kk V105 L Z) H := hP
      have hD : va_D A (xw ad kk V105 L Z) := hD
      have hMV105 : rgd bX V105 := hMV105
      have ajV105 : agr [(5, 6), (5, 7)] [] V80 V105 := ajV105
      have agV105 : agr [(5, 6), (5, 7), (5, 9), (5, 11), (5, 12)] [39, 68, 75, 77, 78, 84] V V105 := agV80.tr ajV105 (by decide) (by decide)
      have t104 : MJ V105 Z b := t104
      refine lv_iconst (v := 0) hx hb dX5_worksWith_137 (by decide) ?_
      have r107 : 0 ≤ ((V105 5 6)).toInt ∧ ((V105 5 6)).toInt ≤ 400 := hMV105 5 6
      have pq108 : (V105 67 gf).toInt = ((V 67 gf)).toInt := congrArg Int32.toInt ((ajV105 67 gf rfl).trans ((ajV80 67 gf rfl).trans (up2_o hV18 (by decide))))
      have pq109 : (V105 68 gf).toInt = ((V 68 gf)).toInt := congrArg Int32.toInt ((ajV105 68 gf rfl).trans ((ajV80 68 gf rfl).trans (up2_o hV18 (by decide))))
      exact W.zret (v := 0) hx hb hr rfl (fun t ht hW => ⟨⟨0, (V105, L), rfl, ⟨hMV105, agV105, rfl, (by decide), (Imp.mk (fun hp => absurd hp (by decide))), (Imp.mk (fun _ => t104)), (Imp.mk (fun hp => absurd hp (by decide)))⟩, by rw [ht]; exact hP, va_K.moved hW.alike hK, hD⟩, hS.F ht⟩) hS.2.2 dX5_worksWith_138
    have gq74 : p1.toInt ≠ 12 := b_neq rfl (by decide) q74
    by_cases q110 : p1 = 13
    · refine g_top (v := 13) q110 ?_
      have fq110 : p1.toInt = 13 := b_eq rfl (by decide) q110
      refine lv_tableIn (x := 13) (off := 63) (tgt := 105) hx hb dX5_worksWith_42 (by decide) (by decide) (by decide) (by decide) ?_
      refine lv_aload_n hx hb dX5_worksWith_105 rfl (lv_at hl 2 rfl) ?_
      refine lv_aload_n hx hb dX5_worksWith_106 rfl (lv_at hl 1 rfl) ?_
      refine gA_int (gA_runV (As := []) (rest := [.ref (Z.fa gf)]) (ci := 5) (q0 := 5) hx hb hml hown hg hP hD hK hS hA hnw hgk (x_mpull l D ks H.size ad kk V18 L Z  hMV18 ) w1482 w1484 w76 w171 w1485 rfl xgMachine hdV_yX5_pull ⟨Nat.le_of_ble_eq_true rfl, Nat.le_of_ble_eq_true rfl⟩ rfl hl.1 rfl (Nat.le_of_ble_eq_true rfl) dX5_worksWith_107 ⟨Nat.le_of_ble_eq_true rfl, Nat.le_of_ble_eq_true rfl⟩) hP hD hK hS hA (fun z111 u112 H locs w113 hP hD hK hS => ?_)
      obtain ⟨V114, L115⟩ := u112
      obtain ⟨hMV114, ajV114, axL115⟩ := w113
      have axL115 : L = L115 := Eq.symm axL115
      subst axL115
      have hP : va_P D vwCl (xw ad kk V114 L Z) H := hP
      have hD : va_D A (xw ad kk V114 L Z) := hD
      have hMV114 : rgd bX V114 := hMV114
      have ajV114 : agr [(5, 7)] [] V18 V114 := ajV114
      have agV114 : agr [(5, 6), (5, 7), (5, 9), (5, 11), (5, 12)] [39, 68, 75, 77, 78, 84] V V114 := agV18.tr ajV114 (by decide) (by decide)
      refine lv_if_ne (tgt := 117) hx hb dX5_worksWith_110 (by decide) (fun c116 => ?_) (fun c116 => ?_)
      · skip
        have f117 : z111.toInt ≠ 0 := b_neq rfl (by decide) c116
        refine lv_aload_n hx hb dX5_worksWith_117 rfl (lv_at hl 2 rfl) ?_
        refine va_getN (D := D) (ci := 4) (v := .int (V114 84 gf)) (fs := (xfFrame V114 gf)) (C := RX4) (T := TX4) (N := 19) hx hb hg inX4 hown hK hP (336 + gf) (xgFrame hgf) rfl 17 (by decide) (hnw.use 1206 n1206 rfl) (fun _ h9 => h9) rfl dX5_worksWith_118 ?_
        refine g_top (v := z17) ((ajV114 84 gf rfl).trans (up2_s hV18)) ?_
        refine va_putN (D := D) (ci := 4) (v := .int z17) (ty := tyX4 17) (fs := (xfFrame V114 gf)) (C := RX4) (T := TX4) (N := 19) hx hb hg inX4 tyX4 tyX4_ok nmX4 hown hK hP hD hS (336 + gf) (xgFrame hgf) rfl 17 (by decide) (hnw.use 1206 n1206 rfl) (fun _ h9 => h9) rfl (tyX4_ok 17 (by decide)) rfl rfl (Nat.le_of_ble_eq_true rfl) dX5_worksWith_121 (fun H locs hP hD hS => ?_)
        obtain ⟨V118, hV118⟩ : ∃ z, z = up2 V114 84 gf z17 := ⟨_, rfl⟩
        have ew119 : (xw ad kk V114 L Z).set (336 + gf) ((Z.fa gf), .inr (4, (xfFrame V114 gf).set 17 (.int z17))) = xw ad kk V118 L Z := by rw [hV118]; exact xpFrame_at hgf
        have hP : va_P D vwCl (xw ad kk V118 L Z) H := by rw [← ew119]; exact hP
        have hD : va_D A (xw ad kk V118 L Z) := by rw [← ew119]; exact hD
        have hMV118 : rgd bX V118 := hMV114.put hV118 (show 0 ≤ z17.toInt ∧ z17.toInt ≤ 2147483647 from by first | omega | ((try (have i_hz17 := Imp.go hz17 (by omega))); (try (have i_hop := Imp.go hop (by omega))); (try (have i_moa := Imp.go moa (by omega))); (try (have i_moa := Imp.go moa (by omega))); (try (have i_hop := Imp.go hop (by omega))); (try (have i_hz17 := Imp.go hz17 (by omega))); omega))
        have agV118 : agr [(5, 6), (5, 7), (5, 9), (5, 11), (5, 12)] [39, 68, 75, 77, 78, 84] V V118 := agV114.up hV118 rfl
        refine lv_iconst (v := 1) hx hb dX5_worksWith_124 (by decide) ?_
        have pq120 : (V118 5 6).toInt = ((V 5 6)).toInt := congrArg Int32.toInt ((up2_o hV118 (by decide)).trans ((ajV114 5 6 rfl).trans (up2_o hV18 (by decide))))
        have pq121 : (V118 67 gf).toInt = ((V 67 gf)).toInt := congrArg Int32.toInt ((up2_o hV118 (by decide)).trans ((ajV114 67 gf rfl).trans (up2_o hV18 (by decide))))
        have pq122 : (V118 68 gf).toInt = ((V 68 gf)).toInt := congrArg Int32.toInt ((up2_o hV118 (by decide)).trans ((ajV114 68 gf rfl).trans (up2_o hV18 (by decide))))
        have me123 : ME Va V118 gf := (ME.up (ME.tr (ME.up mV hV18 (Or.inl ⟨by decide, by decide, Nat.le_refl _⟩)) (ME.ag ajV114 (by decide))) hV118 (Or.inl ⟨by decide, by decide, Nat.le_refl _⟩))
        have pq124 : (V118 70 gf).toInt = ((V 70 gf)).toInt := congrArg Int32.toInt ((up2_o hV118 (by decide)).trans ((ajV114 70 gf rfl).trans (up2_o hV18 (by decide))))
        have pq125 : (V118 71 gf).toInt = ((V 71 gf)).toInt := congrArg Int32.toInt ((up2_o hV118 (by decide)).trans ((ajV114 71 gf rfl).trans (up2_o hV18 (by decide))))
        have pq126 : (V118 75 gf).toInt = ((V 75 gf)).toInt := congrArg Int32.toInt ((up2_o hV118 (by decide)).trans ((ajV114 75 gf rfl).trans (up2_o hV18 (by decide))))
        have pq127 : (V118 76 gf).toInt = ((V 76 gf)).toInt := congrArg Int32.toInt ((up2_o hV118 (by decide)).trans ((ajV114 76 gf rfl).trans (up2_o hV18 (by decide))))
        have pq128 : (V118 80 gf).toInt = ((V 80 gf)).toInt := congrArg Int32.toInt ((up2_o hV118 (by decide)).trans ((ajV114 80 gf rfl).trans (up2_o hV18 (by decide))))
        have pq129 : (V118 84 gf).toInt = z17.toInt := congrArg Int32.toInt (up2_s hV118)
        have pq130 : (V118 5 8).toInt = ((V 5 8)).toInt := congrArg Int32.toInt ((up2_o hV118 (by decide)).trans ((ajV114 5 8 rfl).trans (up2_o hV18 (by decide))))
        have pq131 : (V118 5 9).toInt = ((V 5 9)).toInt := congrArg Int32.toInt ((up2_o hV118 (by decide)).trans ((ajV114 5 9 rfl).trans (up2_o hV18 (by decide))))
        have pq132 : (V118 3 13).toInt = ((V 3 13)).toInt := congrArg Int32.toInt ((up2_o hV118 (by decide)).trans ((ajV114 3 13 rfl).trans (up2_o hV18 (by decide))))
        have pq133 : (V118 43 (5 * b + 2)).toInt = ((V 43 (5 * b + 2))).toInt := congrArg Int32.toInt ((up2_o hV118 (by decide)).trans ((ajV114 43 (5 * b + 2) rfl).trans (up2_o hV18 (by decide))))
        have pq134 : (V118 42 b).toInt = ((V 42 b)).toInt := congrArg Int32.toInt ((up2_o hV118 (by decide)).trans ((ajV114 42 b rfl).trans (up2_o hV18 (by decide))))
        have pq135 : (V118 41 b).toInt = ((V 41 b)).toInt := congrArg Int32.toInt ((up2_o hV118 (by decide)).trans ((ajV114 41 b rfl).trans (up2_o hV18 (by decide))))
        have me138 : ME V V118 0 := (ME.up (ME.tr (ME.up ME.rf hV18 (Or.inl ⟨by decide, by decide, by first | omega | ((try (have i_hz17 := Imp.go hz17 (by omega))); (try (have i_hop := Imp.go hop (by omega))); (try (have i_moa := Imp.go moa (by omega))); (try (have i_moa := Imp.go moa (by omega))); (try (have i_hop := Imp.go hop (by omega))); (try (have i_hz17 := Imp.go hz17 (by omega))); omega)⟩)) (ME.ag ajV114 (by decide))) hV118 (Or.inl ⟨by decide, by decide, by first | omega | ((try (have i_hz17 := Imp.go hz17 (by omega))); (try (have i_hop := Imp.go hop (by omega))); (try (have i_moa := Imp.go moa (by omega))); (try (have i_moa := Imp.go moa (by omega))); (try (have i_hop := Imp.go hop (by omega))); (try (have i_hz17 := Imp.go hz17 (by omega))); omega)⟩))
        have af137 : (V118 42 b).toInt ≤ (V118 84 gf).toInt ∨ (bdp V118 b (V118 84 gf).toInt.toNat).1 = true := by rw [(up2_s hV118), me138.1.bd, me138.1 42 b (by decide) (by decide)]; exact atn
        have mo136 : MO V118 Z b gf True True True := MO.ch mo me123 ((up2_o hV118 (by decide)).trans ((ajV114 67 gf rfl).trans ((up2_o hV18 (by decide)).trans ea67.symm))) ((up2_o hV118 (by decide)).trans ((ajV114 80 gf rfl).trans ((up2_o hV18 (by decide)).trans ea80.symm))) (fun _ => Or.inl (by omega)) (fun x h => FK.k4 (by first | omega | ((try (have i_hz17 := Imp.go hz17 (by omega))); (try (have i_hop := Imp.go hop (by omega))); (try (have i_moa := Imp.go moa (by omega))); (try (have i_moa := Imp.go moa (by omega))); (try (have i_hop := Imp.go hop (by omega))); (try (have i_hz17 := Imp.go hz17 (by omega))); omega)) (by first | omega | ((try (have i_hz17 := Imp.go hz17 (by omega))); (try (have i_hop := Imp.go hop (by omega))); (try (have i_moa := Imp.go moa (by omega))); (try (have i_moa := Imp.go moa (by omega))); (try (have i_hop := Imp.go hop (by omega))); (try (have i_hz17 := Imp.go hz17 (by omega))); omega)) (by first | omega | ((try (have i_hz17 := Imp.go hz17 (by omega))); (try (have i_hop := Imp.go hop (by omega))); (try (have i_moa := Imp.go moa (by omega))); (try (have i_moa := Imp.go moa (by omega))); (try (have i_hop := Imp.go hop (by omega))); (try (have i_hz17 := Imp.go hz17 (by omega))); omega)) af137 (by first | omega | ((try (have i_hz17 := Imp.go hz17 (by omega))); (try (have i_hop := Imp.go hop (by omega))); (try (have i_moa := Imp.go moa (by omega))); (try (have i_moa := Imp.go moa (by omega))); (try (have i_hop := Imp.go hop (by omega))); (try (have i_hz17 := Imp.go hz17 (by omega))); omega)) (fun hph => absurd hph (by omega)))
        exact W.zret (v := 1) hx hb hr rfl (fun t ht hW => ⟨⟨1, (V118, L), rfl, ⟨hMV118, agV118, rfl, (by decide), (Imp.mk (fun _ => mo136)), (Imp.mk (fun hp => absurd hp (by decide))), (Imp.mk (fun _ => (show (V118 5 6).toInt = (V 5 6).toInt ∧ (V118 67 gf).toInt = 4 ∧ (V118 68 gf).toInt = 0 from by first | exact om_a46bf36ddf1a gk gph pq120 pq121 pq122 | first | omega | ((try (have i_hz17 := Imp.go hz17 (by omega))); (try (have i_hop := Imp.go hop (by omega))); (try (have i_moa := Imp.go moa (by omega))); (try (have i_moa := Imp.go moa (by omega))); (try (have i_hop := Imp.go hop (by omega))); (try (have i_hz17 := Imp.go hz17 (by omega))); omega))))⟩, by rw [ht]; exact hP, va_K.moved hW.alike hK, hD⟩, hS.F ht⟩) hS.2.2 dX5_worksWith_125
      · skip
        have f139 : z111.toInt = 0 := b_eq rfl (by decide) c116
        refine lv_iload_n hx hb dX5_worksWith_113 rfl (lv_at hl 0 rfl) ?_
        refine lv_goto (tgt := 121) hx hb dX5_worksWith_114 (by decide) ?_
        refine va_putN (D := D) (ci := 4) (v := .int 0) (ty := tyX4 17) (fs := (xfFrame V114 gf)) (C := RX4) (T := TX4) (N := 19) hx hb hg inX4 tyX4 tyX4_ok nmX4 hown hK hP hD hS (336 + gf) (xgFrame hgf) rfl 17 (by decide) (hnw.use 1206 n1206 rfl) (fun _ h9 => h9) rfl (tyX4_ok 17 (by decide)) rfl rfl (Nat.le_of_ble_eq_true rfl) dX5_worksWith_121 (fun H locs hP hD hS => ?_)
        obtain ⟨V140, hV140⟩ : ∃ z, z = up2 V114 84 gf 0 := ⟨_, rfl⟩
        have ew141 : (xw ad kk V114 L Z).set (336 + gf) ((Z.fa gf), .inr (4, (xfFrame V114 gf).set 17 (.int 0))) = xw ad kk V140 L Z := by rw [hV140]; exact xpFrame_at hgf
        have hP : va_P D vwCl (xw ad kk V140 L Z) H := by rw [← ew141]; exact hP
        have hD : va_D A (xw ad kk V140 L Z) := by rw [← ew141]; exact hD
        have hMV140 : rgd bX V140 := hMV114.put hV140 (show 0 ≤ Int32.toInt 0 ∧ Int32.toInt 0 ≤ 2147483647 from by decide)
        have agV140 : agr [(5, 6), (5, 7), (5, 9), (5, 11), (5, 12)] [39, 68, 75, 77, 78, 84] V V140 := agV114.up hV140 rfl
        refine lv_iconst (v := 1) hx hb dX5_worksWith_124 (by decide) ?_
        have pq142 : (V140 5 6).toInt = ((V 5 6)).toInt := congrArg Int32.toInt ((up2_o hV140 (by decide)).trans ((ajV114 5 6 rfl).trans (up2_o hV18 (by decide))))
        have pq143 : (V140 67 gf).toInt = ((V 67 gf)).toInt := congrArg Int32.toInt ((up2_o hV140 (by decide)).trans ((ajV114 67 gf rfl).trans (up2_o hV18 (by decide))))
        have pq144 : (V140 68 gf).toInt = ((V 68 gf)).toInt := congrArg Int32.toInt ((up2_o hV140 (by decide)).trans ((ajV114 68 gf rfl).trans (up2_o hV18 (by decide))))
        have me145 : ME Va V140 gf := (ME.up (ME.tr (ME.up mV hV18 (Or.inl ⟨by decide, by decide, Nat.le_refl _⟩)) (ME.ag ajV114 (by decide))) hV140 (Or.inl ⟨by decide, by decide, Nat.le_refl _⟩))
        have pq146 : (V140 70 gf).toInt = ((V 70 gf)).toInt := congrArg Int32.toInt ((up2_o hV140 (by decide)).trans ((ajV114 70 gf rfl).trans (up2_o hV18 (by decide))))
        have pq147 : (V140 71 gf).toInt = ((V 71 gf)).toInt := congrArg Int32.toInt ((up2_o hV140 (by decide)).trans ((ajV114 71 gf rfl).trans (up2_o hV18 (by decide))))
        have pq148 : (V140 75 gf).toInt = ((V 75 gf)).toInt := congrArg Int32.toInt ((up2_o hV140 (by decide)).trans ((ajV114 75 gf rfl).trans (up2_o hV18 (by decide))))
        have pq149 : (V140 76 gf).toInt = ((V 76 gf)).toInt := congrArg Int32.toInt ((up2_o hV140 (by decide)).trans ((ajV114 76 gf rfl).trans (up2_o hV18 (by decide))))
        have pq150 : (V140 80 gf).toInt = ((V 80 gf)).toInt := congrArg Int32.toInt ((up2_o hV140 (by decide)).trans ((ajV114 80 gf rfl).trans (up2_o hV18 (by decide))))
        have pq151 : (V140 84 gf).toInt = 0 := (congrArg Int32.toInt (up2_s hV140)).trans (by decide)
        have pq152 : (V140 5 8).toInt = ((V 5 8)).toInt := congrArg Int32.toInt ((up2_o hV140 (by decide)).trans ((ajV114 5 8 rfl).trans (up2_o hV18 (by decide))))
        have pq153 : (V140 5 9).toInt = ((V 5 9)).toInt := congrArg Int32.toInt ((up2_o hV140 (by decide)).trans ((ajV114 5 9 rfl).trans (up2_o hV18 (by decide))))
        have pq154 : (V140 3 13).toInt = ((V 3 13)).toInt := congrArg Int32.toInt ((up2_o hV140 (by decide)).trans ((ajV114 3 13 rfl).trans (up2_o hV18 (by decide))))
        have pq155 : (V140 43 (5 * b + 2)).toInt = ((V 43 (5 * b + 2))).toInt := congrArg Int32.toInt ((up2_o hV140 (by decide)).trans ((ajV114 43 (5 * b + 2) rfl).trans (up2_o hV18 (by decide))))
        have pq156 : (V140 42 b).toInt = ((V 42 b)).toInt := congrArg Int32.toInt ((up2_o hV140 (by decide)).trans ((ajV114 42 b rfl).trans (up2_o hV18 (by decide))))
        have pq157 : (V140 41 b).toInt = ((V 41 b)).toInt := congrArg Int32.toInt ((up2_o hV140 (by decide)).trans ((ajV114 41 b rfl).trans (up2_o hV18 (by decide))))
        have me160 : ME V V140 0 := (ME.up (ME.tr (ME.up ME.rf hV18 (Or.inl ⟨by decide, by decide, by first | omega | ((try (have i_hz17 := Imp.go hz17 (by omega))); (try (have i_hop := Imp.go hop (by omega))); (try (have i_moa := Imp.go moa (by omega))); (try (have i_moa := Imp.go moa (by omega))); (try (have i_hop := Imp.go hop (by omega))); (try (have i_hz17 := Imp.go hz17 (by omega))); omega)⟩)) (ME.ag ajV114 (by decide))) hV140 (Or.inl ⟨by decide, by decide, by first | omega | ((try (have i_hz17 := Imp.go hz17 (by omega))); (try (have i_hop := Imp.go hop (by omega))); (try (have i_moa := Imp.go moa (by omega))); (try (have i_moa := Imp.go moa (by omega))); (try (have i_hop := Imp.go hop (by omega))); (try (have i_hz17 := Imp.go hz17 (by omega))); omega)⟩))
        have af159 : (V140 42 b).toInt ≤ (V140 84 gf).toInt ∨ (bdp V140 b (V140 84 gf).toInt.toNat).1 = true := by rw [(up2_s hV140), me160.1.bd, me160.1 42 b (by decide) (by decide)]; exact at0
        have mo158 : MO V140 Z b gf True True True := MO.ch mo me145 ((up2_o hV140 (by decide)).trans ((ajV114 67 gf rfl).trans ((up2_o hV18 (by decide)).trans ea67.symm))) ((up2_o hV140 (by decide)).trans ((ajV114 80 gf rfl).trans ((up2_o hV18 (by decide)).trans ea80.symm))) (fun _ => Or.inl (by omega)) (fun x h => FK.k4 (by first | omega | ((try (have i_hz17 := Imp.go hz17 (by omega))); (try (have i_hop := Imp.go hop (by omega))); (try (have i_moa := Imp.go moa (by omega))); (try (have i_moa := Imp.go moa (by omega))); (try (have i_hop := Imp.go hop (by omega))); (try (have i_hz17 := Imp.go hz17 (by omega))); omega)) (by first | omega | ((try (have i_hz17 := Imp.go hz17 (by omega))); (try (have i_hop := Imp.go hop (by omega))); (try (have i_moa := Imp.go moa (by omega))); (try (have i_moa := Imp.go moa (by omega))); (try (have i_hop := Imp.go hop (by omega))); (try (have i_hz17 := Imp.go hz17 (by omega))); omega)) (by first | omega | ((try (have i_hz17 := Imp.go hz17 (by omega))); (try (have i_hop := Imp.go hop (by omega))); (try (have i_moa := Imp.go moa (by omega))); (try (have i_moa := Imp.go moa (by omega))); (try (have i_hop := Imp.go hop (by omega))); (try (have i_hz17 := Imp.go hz17 (by omega))); omega)) af159 (by first | omega | ((try (have i_hz17 := Imp.go hz17 (by omega))); (try (have i_hop := Imp.go hop (by omega))); (try (have i_moa := Imp.go moa (by omega))); (try (have i_moa := Imp.go moa (by omega))); (try (have i_hop := Imp.go hop (by omega))); (try (have i_hz17 := Imp.go hz17 (by omega))); omega)) (fun hph => absurd hph (by omega)))
        exact W.zret (v := 1) hx hb hr rfl (fun t ht hW => ⟨⟨1, (V140, L), rfl, ⟨hMV140, agV140, rfl, (by decide), (Imp.mk (fun _ => mo158)), (Imp.mk (fun hp => absurd hp (by decide))), (Imp.mk (fun _ => (show (V140 5 6).toInt = (V 5 6).toInt ∧ (V140 67 gf).toInt = 4 ∧ (V140 68 gf).toInt = 0 from by first | exact om_a46bf36ddf1a gk gph pq142 pq143 pq144 | first | omega | ((try (have i_hz17 := Imp.go hz17 (by omega))); (try (have i_hop := Imp.go hop (by omega))); (try (have i_moa := Imp.go moa (by omega))); (try (have i_moa := Imp.go moa (by omega))); (try (have i_hop := Imp.go hop (by omega))); (try (have i_hz17 := Imp.go hz17 (by omega))); omega))))⟩, by rw [ht]; exact hP, va_K.moved hW.alike hK, hD⟩, hS.F ht⟩) hS.2.2 dX5_worksWith_125
    have gq110 : p1.toInt ≠ 13 := b_neq rfl (by decide) q110
    by_cases q161 : p1 = 14
    · refine g_top (v := 14) q161 ?_
      have fq161 : p1.toInt = 14 := b_eq rfl (by decide) q161
      refine lv_tableIn (x := 14) (off := 56) (tgt := 98) hx hb dX5_worksWith_42 (by decide) (by decide) (by decide) (by decide) ?_
      refine lv_aload_n hx hb dX5_worksWith_98 rfl (lv_at hl 2 rfl) ?_
      refine lv_iload_n hx hb dX5_worksWith_99 rfl (lv_at hl 0 rfl) ?_
      refine va_putN (D := D) (ci := 4) (v := .int 0) (ty := tyX4 17) (fs := (xfFrame V18 gf)) (C := RX4) (T := TX4) (N := 19) hx hb hg inX4 tyX4 tyX4_ok nmX4 hown hK hP hD hS (336 + gf) (xgFrame hgf) rfl 17 (by decide) (hnw.use 1206 n1206 rfl) (fun _ h9 => h9) rfl (tyX4_ok 17 (by decide)) rfl rfl (Nat.le_of_ble_eq_true rfl) dX5_worksWith_100 (fun H locs hP hD hS => ?_)
      obtain ⟨V162, hV162⟩ : ∃ z, z = up2 V18 84 gf 0 := ⟨_, rfl⟩
      have ew163 : (xw ad kk V18 L Z).set (336 + gf) ((Z.fa gf), .inr (4, (xfFrame V18 gf).set 17 (.int 0))) = xw ad kk V162 L Z := by rw [hV162]; exact xpFrame_at hgf
      have hP : va_P D vwCl (xw ad kk V162 L Z) H := by rw [← ew163]; exact hP
      have hD : va_D A (xw ad kk V162 L Z) := by rw [← ew163]; exact hD
      have hMV162 : rgd bX V162 := hMV18.put hV162 (show 0 ≤ Int32.toInt 0 ∧ Int32.toInt 0 ≤ 2147483647 from by decide)
      have agV162 : agr [(5, 6), (5, 7), (5, 9), (5, 11), (5, 12)] [39, 68, 75, 77, 78, 84] V V162 := agV18.up hV162 rfl
      refine lv_iconst (v := 1) hx hb dX5_worksWith_103 (by decide) ?_
      have pq164 : (V162 5 6).toInt = ((V 5 6)).toInt := congrArg Int32.toInt ((up2_o hV162 (by decide)).trans (up2_o hV18 (by decide)))
      have pq165 : (V162 67 gf).toInt = ((V 67 gf)).toInt := congrArg Int32.toInt ((up2_o hV162 (by decide)).trans (up2_o hV18 (by decide)))
      have pq166 : (V162 68 gf).toInt = ((V 68 gf)).toInt := congrArg Int32.toInt ((up2_o hV162 (by decide)).trans (up2_o hV18 (by decide)))
      have me167 : ME Va V162 gf := (ME.up (ME.up mV hV18 (Or.inl ⟨by decide, by decide, Nat.le_refl _⟩)) hV162 (Or.inl ⟨by decide, by decide, Nat.le_refl _⟩))
      have pq168 : (V162 70 gf).toInt = ((V 70 gf)).toInt := congrArg Int32.toInt ((up2_o hV162 (by decide)).trans (up2_o hV18 (by decide)))
      have pq169 : (V162 71 gf).toInt = ((V 71 gf)).toInt := congrArg Int32.toInt ((up2_o hV162 (by decide)).trans (up2_o hV18 (by decide)))
      have pq170 : (V162 75 gf).toInt = ((V 75 gf)).toInt := congrArg Int32.toInt ((up2_o hV162 (by decide)).trans (up2_o hV18 (by decide)))
      have pq171 : (V162 76 gf).toInt = ((V 76 gf)).toInt := congrArg Int32.toInt ((up2_o hV162 (by decide)).trans (up2_o hV18 (by decide)))
      have pq172 : (V162 80 gf).toInt = ((V 80 gf)).toInt := congrArg Int32.toInt ((up2_o hV162 (by decide)).trans (up2_o hV18 (by decide)))
      have pq173 : (V162 84 gf).toInt = 0 := (congrArg Int32.toInt (up2_s hV162)).trans (by decide)
      have pq174 : (V162 5 8).toInt = ((V 5 8)).toInt := congrArg Int32.toInt ((up2_o hV162 (by decide)).trans (up2_o hV18 (by decide)))
      have pq175 : (V162 5 9).toInt = ((V 5 9)).toInt := congrArg Int32.toInt ((up2_o hV162 (by decide)).trans (up2_o hV18 (by decide)))
      have pq176 : (V162 3 13).toInt = ((V 3 13)).toInt := congrArg Int32.toInt ((up2_o hV162 (by decide)).trans (up2_o hV18 (by decide)))
      have pq177 : (V162 43 (5 * b + 2)).toInt = ((V 43 (5 * b + 2))).toInt := congrArg Int32.toInt ((up2_o hV162 (by decide)).trans (up2_o hV18 (by decide)))
      have pq178 : (V162 42 b).toInt = ((V 42 b)).toInt := congrArg Int32.toInt ((up2_o hV162 (by decide)).trans (up2_o hV18 (by decide)))
      have pq179 : (V162 41 b).toInt = ((V 41 b)).toInt := congrArg Int32.toInt ((up2_o hV162 (by decide)).trans (up2_o hV18 (by decide)))
      have me182 : ME V V162 0 := (ME.up (ME.up ME.rf hV18 (Or.inl ⟨by decide, by decide, by first | omega | ((try (have i_hz17 := Imp.go hz17 (by omega))); (try (have i_hop := Imp.go hop (by omega))); (try (have i_moa := Imp.go moa (by omega))); (try (have i_moa := Imp.go moa (by omega))); (try (have i_hop := Imp.go hop (by omega))); (try (have i_hz17 := Imp.go hz17 (by omega))); omega)⟩)) hV162 (Or.inl ⟨by decide, by decide, by first | omega | ((try (have i_hz17 := Imp.go hz17 (by omega))); (try (have i_hop := Imp.go hop (by omega))); (try (have i_moa := Imp.go moa (by omega))); (try (have i_moa := Imp.go moa (by omega))); (try (have i_hop := Imp.go hop (by omega))); (try (have i_hz17 := Imp.go hz17 (by omega))); omega)⟩))
      have af181 : (V162 42 b).toInt ≤ (V162 84 gf).toInt ∨ (bdp V162 b (V162 84 gf).toInt.toNat).1 = true := by rw [(up2_s hV162), me182.1.bd, me182.1 42 b (by decide) (by decide)]; exact at0
      have mo180 : MO V162 Z b gf True True True := MO.ch mo me167 ((up2_o hV162 (by decide)).trans ((up2_o hV18 (by decide)).trans ea67.symm)) ((up2_o hV162 (by decide)).trans ((up2_o hV18 (by decide)).trans ea80.symm)) (fun _ => Or.inl (by omega)) (fun x h => FK.k4 (by first | omega | ((try (have i_hz17 := Imp.go hz17 (by omega))); (try (have i_hop := Imp.go hop (by omega))); (try (have i_moa := Imp.go moa (by omega))); (try (have i_moa := Imp.go moa (by omega))); (try (have i_hop := Imp.go hop (by omega))); (try (have i_hz17 := Imp.go hz17 (by omega))); omega)) (by first | omega | ((try (have i_hz17 := Imp.go hz17 (by omega))); (try (have i_hop := Imp.go hop (by omega))); (try (have i_moa := Imp.go moa (by omega))); (try (have i_moa := Imp.go moa (by omega))); (try (have i_hop := Imp.go hop (by omega))); (try (have i_hz17 := Imp.go hz17 (by omega))); omega)) (by first | omega | ((try (have i_hz17 := Imp.go hz17 (by omega))); (try (have i_hop := Imp.go hop (by omega))); (try (have i_moa := Imp.go moa (by omega))); (try (have i_moa := Imp.go moa (by omega))); (try (have i_hop := Imp.go hop (by omega))); (try (have i_hz17 := Imp.go hz17 (by omega))); omega)) af181 (by first | omega | ((try (have i_hz17 := Imp.go hz17 (by omega))); (try (have i_hop := Imp.go hop (by omega))); (try (have i_moa := Imp.go moa (by omega))); (try (have i_moa := Imp.go moa (by omega))); (try (have i_hop := Imp.go hop (by omega))); (try (have i_hz17 := Imp.go hz17 (by omega))); omega)) (fun hph => absurd hph (by omega)))
      exact W.zret (v := 1) hx hb hr rfl (fun t ht hW => ⟨⟨1, (V162, L), rfl, ⟨hMV162, agV162, rfl, (by decide), (Imp.mk (fun _ => mo180)), (Imp.mk (fun hp => absurd hp (by decide))), (Imp.mk (fun _ => (show (V162 5 6).toInt = (V 5 6).toInt ∧ (V162 67 gf).toInt = 4 ∧ (V162 68 gf).toInt = 0 from by first | exact om_a46bf36ddf1a gk gph pq164 pq165 pq166 | first | omega | ((try (have i_hz17 := Imp.go hz17 (by omega))); (try (have i_hop := Imp.go hop (by omega))); (try (have i_moa := Imp.go moa (by omega))); (try (have i_moa := Imp.go moa (by omega))); (try (have i_hop := Imp.go hop (by omega))); (try (have i_hz17 := Imp.go hz17 (by omega))); omega))))⟩, by rw [ht]; exact hP, va_K.moved hW.alike hK, hD⟩, hS.F ht⟩) hS.2.2 dX5_worksWith_104
    have gq161 : p1.toInt ≠ 14 := b_neq rfl (by decide) q161
    refine lv_tableOut (x := p1) (tgt := 139) hx hb dX5_worksWith_42 (by omega) (by decide) ?_
    refine lv_aload_n hx hb dX5_worksWith_139 rfl (lv_at hl 2 rfl) ?_
    refine lv_iload_n hx hb dX5_worksWith_140 rfl (lv_at hl 0 rfl) ?_
    refine lv_bipush (v := 20) hx hb dX5_worksWith_141 (by decide) ?_
    refine lv_idiv hx hb dX5_worksWith_143 (by decide) ?_
    refine g_top (v := 0) (by decide) ?_
    refine va_putN (D := D) (ci := 4) (v := .int 0) (ty := tyX4 8) (fs := (xfFrame V18 gf)) (C := RX4) (T := TX4) (N := 19) hx hb hg inX4 tyX4 tyX4_ok nmX4 hown hK hP hD hS (336 + gf) (xgFrame hgf) rfl 8 (by decide) (hnw.use 1197 n1197 rfl) (fun _ h9 => h9) rfl (tyX4_ok 8 (by decide)) rfl rfl (Nat.le_of_ble_eq_true rfl) dX5_worksWith_144 (fun H locs hP hD hS => ?_)
    obtain ⟨V183, hV183⟩ : ∃ z, z = up2 V18 75 gf 0 := ⟨_, rfl⟩
    have ew184 : (xw ad kk V18 L Z).set (336 + gf) ((Z.fa gf), .inr (4, (xfFrame V18 gf).set 8 (.int 0))) = xw ad kk V183 L Z := by rw [hV183]; exact xpFrame_position hgf
    have hP : va_P D vwCl (xw ad kk V183 L Z) H := by rw [← ew184]; exact hP
    have hD : va_D A (xw ad kk V183 L Z) := by rw [← ew184]; exact hD
    have hMV183 : rgd bX V183 := hMV18.put hV183 (show 0 ≤ Int32.toInt 0 ∧ Int32.toInt 0 ≤ 12 from by decide)
    have agV183 : agr [(5, 6), (5, 7), (5, 9), (5, 11), (5, 12)] [39, 68, 75, 77, 78, 84] V V183 := agV18.up hV183 rfl
    refine lv_aload_n hx hb dX5_worksWith_147 rfl (lv_at hl 2 rfl) ?_
    refine lv_iload_n hx hb dX5_worksWith_148 rfl (lv_at hl 0 rfl) ?_
    refine lv_bipush (v := 20) hx hb dX5_worksWith_149 (by decide) ?_
    refine lv_irem hx hb dX5_worksWith_151 (by decide) ?_
    refine g_top (v := 0) (by decide) ?_
    refine va_putN (D := D) (ci := 4) (v := .int 0) (ty := tyX4 10) (fs := (xfFrame V183 gf)) (C := RX4) (T := TX4) (N := 19) hx hb hg inX4 tyX4 tyX4_ok nmX4 hown hK hP hD hS (336 + gf) (xgFrame hgf) rfl 10 (by decide) (hnw.use 1199 n1199 rfl) (fun _ h9 => h9) rfl (tyX4_ok 10 (by decide)) rfl rfl (Nat.le_of_ble_eq_true rfl) dX5_worksWith_152 (fun H locs hP hD hS => ?_)
    obtain ⟨V185, hV185⟩ : ∃ z, z = up2 V183 77 gf 0 := ⟨_, rfl⟩
    have ew186 : (xw ad kk V183 L Z).set (336 + gf) ((Z.fa gf), .inr (4, (xfFrame V183 gf).set 10 (.int 0))) = xw ad kk V185 L Z := by rw [hV185]; exact xpFrame_target hgf
    have hP : va_P D vwCl (xw ad kk V185 L Z) H := by rw [← ew186]; exact hP
    have hD : va_D A (xw ad kk V185 L Z) := by rw [← ew186]; exact hD
    have hMV185 : rgd bX V185 := hMV183.put hV185 (show 0 ≤ Int32.toInt 0 ∧ Int32.toInt 0 ≤ 19 from by decide)
    have agV185 : agr [(5, 6), (5, 7), (5, 9), (5, 11), (5, 12)] [39, 68, 75, 77, 78, 84] V V185 := agV183.up hV185 rfl
    refine lv_aload_n hx hb dX5_worksWith_155 rfl (lv_at hl 2 rfl) ?_
    refine lv_aload_n hx hb dX5_worksWith_156 rfl (lv_at hl 1 rfl) ?_
    refine gA_int (gA_runV (As := []) (rest := [.ref (Z.fa gf)]) (ci := 5) (q0 := 5) hx hb hml hown hg hP hD hK hS hA hnw hgk (x_mpull l D ks H.size ad kk V185 L Z  hMV185 ) w1482 w1484 w76 w171 w1485 rfl xgMachine hdV_yX5_pull ⟨Nat.le_of_ble_eq_true rfl, Nat.le_of_ble_eq_true rfl⟩ rfl hl.1 rfl (Nat.le_of_ble_eq_true rfl) dX5_worksWith_157 ⟨Nat.le_of_ble_eq_true rfl, Nat.le_of_ble_eq_true rfl⟩) hP hD hK hS hA (fun z187 u188 H locs w189 hP hD hK hS => ?_)
    obtain ⟨V190, L191⟩ := u188
    obtain ⟨hMV190, ajV190, axL191⟩ := w189
    have axL191 : L = L191 := Eq.symm axL191
    subst axL191
    have hP : va_P D vwCl (xw ad kk V190 L Z) H := hP
    have hD : va_D A (xw ad kk V190 L Z) := hD
    have hMV190 : rgd bX V190 := hMV190
    have ajV190 : agr [(5, 7)] [] V185 V190 := ajV190
    have agV190 : agr [(5, 6), (5, 7), (5, 9), (5, 11), (5, 12)] [39, 68, 75, 77, 78, 84] V V190 := agV185.tr ajV190 (by decide) (by decide)
    refine va_putN (D := D) (ci := 4) (v := .int z187) (ty := tyX4 11) (fs := (xfFrame V190 gf)) (C := RX4) (T := TX4) (N := 19) hx hb hg inX4 tyX4 tyX4_ok nmX4 hown hK hP hD hS (336 + gf) (xgFrame hgf) rfl 11 (by decide) (hnw.use 1200 n1200 rfl) (fun _ h9 => h9) rfl (tyX4_ok 11 (by decide)) rfl rfl (Nat.le_of_ble_eq_true rfl) dX5_worksWith_160 (fun H locs hP hD hS => ?_)
    obtain ⟨V192, hV192⟩ : ∃ z, z = up2 V190 78 gf z187 := ⟨_, rfl⟩
    have ew193 : (xw ad kk V190 L Z).set (336 + gf) ((Z.fa gf), .inr (4, (xfFrame V190 gf).set 11 (.int z187))) = xw ad kk V192 L Z := by rw [hV192]; exact xpFrame_given hgf
    have hP : va_P D vwCl (xw ad kk V192 L Z) H := by rw [← ew193]; exact hP
    have hD : va_D A (xw ad kk V192 L Z) := by rw [← ew193]; exact hD
    have hMV192 : rgd bX V192 := hMV190.put hV192 (i_full _)
    have agV192 : agr [(5, 6), (5, 7), (5, 9), (5, 11), (5, 12)] [39, 68, 75, 77, 78, 84] V V192 := agV190.up hV192 rfl
    refine lv_aload_n hx hb dX5_worksWith_163 rfl (lv_at hl 2 rfl) ?_
    refine lv_bipush (v := 6) hx hb dX5_worksWith_164 (by decide) ?_
    refine va_putN (D := D) (ci := 4) (v := .int 6) (ty := tyX4 1) (fs := (xfFrame V192 gf)) (C := RX4) (T := TX4) (N := 19) hx hb hg inX4 tyX4 tyX4_ok nmX4 hown hK hP hD hS (336 + gf) (xgFrame hgf) rfl 1 (by decide) (hnw.use 1190 n1190 rfl) (fun _ h9 => h9) rfl (tyX4_ok 1 (by decide)) rfl rfl (Nat.le_of_ble_eq_true rfl) dX5_worksWith_166 (fun H locs hP hD hS => ?_)
    obtain ⟨V194, hV194⟩ : ∃ z, z = up2 V192 68 gf 6 := ⟨_, rfl⟩
    have ew195 : (xw ad kk V192 L Z).set (336 + gf) ((Z.fa gf), .inr (4, (xfFrame V192 gf).set 1 (.int 6))) = xw ad kk V194 L Z := by rw [hV194]; exact xpFrame_phase hgf
    have hP : va_P D vwCl (xw ad kk V194 L Z) H := by rw [← ew195]; exact hP
    have hD : va_D A (xw ad kk V194 L Z) := by rw [← ew195]; exact hD
    have hMV194 : rgd bX V194 := hMV192.put hV194 (i_full _)
    have agV194 : agr [(5, 6), (5, 7), (5, 9), (5, 11), (5, 12)] [39, 68, 75, 77, 78, 84] V V194 := agV192.up hV194 rfl
    refine lv_iconst (v := 0) hx hb dX5_worksWith_169 (by decide) ?_
    have pq196 : (V194 5 6).toInt = ((V 5 6)).toInt := congrArg Int32.toInt ((up2_o hV194 (by decide)).trans ((up2_o hV192 (by decide)).trans ((ajV190 5 6 rfl).trans ((up2_o hV185 (by decide)).trans ((up2_o hV183 (by decide)).trans (up2_o hV18 (by decide)))))))
    have pq197 : (V194 67 gf).toInt = ((V 67 gf)).toInt := congrArg Int32.toInt ((up2_o hV194 (by decide)).trans ((up2_o hV192 (by decide)).trans ((ajV190 67 gf rfl).trans ((up2_o hV185 (by decide)).trans ((up2_o hV183 (by decide)).trans (up2_o hV18 (by decide)))))))
    have pq198 : (V194 68 gf).toInt = 6 := (congrArg Int32.toInt (up2_s hV194)).trans (by decide)
    have me199 : ME Va V194 gf := (ME.up (ME.up (ME.tr (ME.up (ME.up (ME.up mV hV18 (Or.inl ⟨by decide, by decide, Nat.le_refl _⟩)) hV183 (Or.inl ⟨by decide, by decide, Nat.le_refl _⟩)) hV185 (Or.inl ⟨by decide, by decide, Nat.le_refl _⟩)) (ME.ag ajV190 (by decide))) hV192 (Or.inl ⟨by decide, by decide, Nat.le_refl _⟩)) hV194 (Or.inl ⟨by decide, by decide, Nat.le_refl _⟩))
    have pq200 : (V194 70 gf).toInt = ((V 70 gf)).toInt := congrArg Int32.toInt ((up2_o hV194 (by decide)).trans ((up2_o hV192 (by decide)).trans ((ajV190 70 gf rfl).trans ((up2_o hV185 (by decide)).trans ((up2_o hV183 (by decide)).trans (up2_o hV18 (by decide)))))))
    have pq201 : (V194 71 gf).toInt = ((V 71 gf)).toInt := congrArg Int32.toInt ((up2_o hV194 (by decide)).trans ((up2_o hV192 (by decide)).trans ((ajV190 71 gf rfl).trans ((up2_o hV185 (by decide)).trans ((up2_o hV183 (by decide)).trans (up2_o hV18 (by decide)))))))
    have pq202 : (V194 75 gf).toInt = 0 := (congrArg Int32.toInt ((up2_o hV194 (by decide)).trans ((up2_o hV192 (by decide)).trans ((ajV190 75 gf rfl).trans ((up2_o hV185 (by decide)).trans (up2_s hV183)))))).trans (by decide)
    have pq203 : (V194 76 gf).toInt = ((V 76 gf)).toInt := congrArg Int32.toInt ((up2_o hV194 (by decide)).trans ((up2_o hV192 (by decide)).trans ((ajV190 76 gf rfl).trans ((up2_o hV185 (by decide)).trans ((up2_o hV183 (by decide)).trans (up2_o hV18 (by decide)))))))
    have pq204 : (V194 80 gf).toInt = ((V 80 gf)).toInt := congrArg Int32.toInt ((up2_o hV194 (by decide)).trans ((up2_o hV192 (by decide)).trans ((ajV190 80 gf rfl).trans ((up2_o hV185 (by decide)).trans ((up2_o hV183 (by decide)).trans (up2_o hV18 (by decide)))))))
    have pq205 : (V194 84 gf).toInt = z17.toInt := congrArg Int32.toInt ((up2_o hV194 (by decide)).trans ((up2_o hV192 (by decide)).trans ((ajV190 84 gf rfl).trans ((up2_o hV185 (by decide)).trans ((up2_o hV183 (by decide)).trans (up2_s hV18))))))
    have pq206 : (V194 5 8).toInt = ((V 5 8)).toInt := congrArg Int32.toInt ((up2_o hV194 (by decide)).trans ((up2_o hV192 (by decide)).trans ((ajV190 5 8 rfl).trans ((up2_o hV185 (by decide)).trans ((up2_o hV183 (by decide)).trans (up2_o hV18 (by decide)))))))
    have pq207 : (V194 5 9).toInt = ((V 5 9)).toInt := congrArg Int32.toInt ((up2_o hV194 (by decide)).trans ((up2_o hV192 (by decide)).trans ((ajV190 5 9 rfl).trans ((up2_o hV185 (by decide)).trans ((up2_o hV183 (by decide)).trans (up2_o hV18 (by decide)))))))
    have pq208 : (V194 3 13).toInt = ((V 3 13)).toInt := congrArg Int32.toInt ((up2_o hV194 (by decide)).trans ((up2_o hV192 (by decide)).trans ((ajV190 3 13 rfl).trans ((up2_o hV185 (by decide)).trans ((up2_o hV183 (by decide)).trans (up2_o hV18 (by decide)))))))
    have pq209 : (V194 43 (5 * b + 2)).toInt = ((V 43 (5 * b + 2))).toInt := congrArg Int32.toInt ((up2_o hV194 (by decide)).trans ((up2_o hV192 (by decide)).trans ((ajV190 43 (5 * b + 2) rfl).trans ((up2_o hV185 (by decide)).trans ((up2_o hV183 (by decide)).trans (up2_o hV18 (by decide)))))))
    have pq210 : (V194 42 b).toInt = ((V 42 b)).toInt := congrArg Int32.toInt ((up2_o hV194 (by decide)).trans ((up2_o hV192 (by decide)).trans ((ajV190 42 b rfl).trans ((up2_o hV185 (by decide)).trans ((up2_o hV183 (by decide)).trans (up2_o hV18 (by decide)))))))
    have pq211 : (V194 41 b).toInt = ((V 41 b)).toInt := congrArg Int32.toInt ((up2_o hV194 (by decide)).trans ((up2_o hV192 (by decide)).trans ((ajV190 41 b rfl).trans ((up2_o hV185 (by decide)).trans ((up2_o hV183 (by decide)).trans (up2_o hV18 (by decide)))))))
    have me214 : ME V V194 0 := (ME.up (ME.up (ME.tr (ME.up (ME.up (ME.up ME.rf hV18 (Or.inl ⟨by decide, by decide, by first | omega | ((try (have i_hz17 := Imp.go hz17 (by omega))); (try (have i_hop := Imp.go hop (by omega))); (try (have i_moa := Imp.go moa (by omega))); (try (have i_moa := Imp.go moa (by omega))); (try (have i_hop := Imp.go hop (by omega))); (try (have i_hz17 := Imp.go hz17 (by omega))); omega)⟩)) hV183 (Or.inl ⟨by decide, by decide, by first | omega | ((try (have i_hz17 := Imp.go hz17 (by omega))); (try (have i_hop := Imp.go hop (by omega))); (try (have i_moa := Imp.go moa (by omega))); (try (have i_moa := Imp.go moa (by omega))); (try (have i_hop := Imp.go hop (by omega))); (try (have i_hz17 := Imp.go hz17 (by omega))); omega)⟩)) hV185 (Or.inl ⟨by decide, by decide, by first | omega | ((try (have i_hz17 := Imp.go hz17 (by omega))); (try (have i_hop := Imp.go hop (by omega))); (try (have i_moa := Imp.go moa (by omega))); (try (have i_moa := Imp.go moa (by omega))); (try (have i_hop := Imp.go hop (by omega))); (try (have i_hz17 := Imp.go hz17 (by omega))); omega)⟩)) (ME.ag ajV190 (by decide))) hV192 (Or.inl ⟨by decide, by decide, by first | omega | ((try (have i_hz17 := Imp.go hz17 (by omega))); (try (have i_hop := Imp.go hop (by omega))); (try (have i_moa := Imp.go moa (by omega))); (try (have i_moa := Imp.go moa (by omega))); (try (have i_hop := Imp.go hop (by omega))); (try (have i_hz17 := Imp.go hz17 (by omega))); omega)⟩)) hV194 (Or.inl ⟨by decide, by decide, by first | omega | ((try (have i_hz17 := Imp.go hz17 (by omega))); (try (have i_hop := Imp.go hop (by omega))); (try (have i_moa := Imp.go moa (by omega))); (try (have i_moa := Imp.go moa (by omega))); (try (have i_hop := Imp.go hop (by omega))); (try (have i_hz17 := Imp.go hz17 (by omega))); omega)⟩))
    have ep215 : V194 84 gf = z17 := ((up2_o hV194 (by decide)).trans ((up2_o hV192 (by decide)).trans ((ajV190 84 gf rfl).trans ((up2_o hV185 (by decide)).trans ((up2_o hV183 (by decide)).trans (up2_s hV18))))))
    have af213 : (V194 42 b).toInt ≤ (V194 84 gf).toInt ∨ (bdp V194 b (V194 84 gf).toInt.toNat).1 = true := by rw [ep215, me214.1.bd, me214.1 42 b (by decide) (by decide)]; exact atn
    have mo212 : MO V194 Z b gf True (QN V194 b) (QN V194 b) := MO.ch mo me199 ((up2_o hV194 (by decide)).trans ((up2_o hV192 (by decide)).trans ((ajV190 67 gf rfl).trans ((up2_o hV185 (by decide)).trans ((up2_o hV183 (by decide)).trans ((up2_o hV18 (by decide)).trans ea67.symm)))))) ((up2_o hV194 (by decide)).trans ((up2_o hV192 (by decide)).trans ((ajV190 80 gf rfl).trans ((up2_o hV185 (by decide)).trans ((up2_o hV183 (by decide)).trans ((up2_o hV18 (by decide)).trans ea80.symm)))))) (fun _ => Or.inl (by omega)) (fun x h => FK.k4 (by first | omega | ((try (have i_hz17 := Imp.go hz17 (by omega))); (try (have i_hop := Imp.go hop (by omega))); (try (have i_moa := Imp.go moa (by omega))); (try (have i_moa := Imp.go moa (by omega))); (try (have i_hop := Imp.go hop (by omega))); (try (have i_hz17 := Imp.go hz17 (by omega))); omega)) (by first | omega | ((try (have i_hz17 := Imp.go hz17 (by omega))); (try (have i_hop := Imp.go hop (by omega))); (try (have i_moa := Imp.go moa (by omega))); (try (have i_moa := Imp.go moa (by omega))); (try (have i_hop := Imp.go hop (by omega))); (try (have i_hz17 := Imp.go hz17 (by omega))); omega)) (by first | omega | ((try (have i_hz17 := Imp.go hz17 (by omega))); (try (have i_hop := Imp.go hop (by omega))); (try (have i_moa := Imp.go moa (by omega))); (try (have i_moa := Imp.go moa (by omega))); (try (have i_hop := Imp.go hop (by omega))); (try (have i_hz17 := Imp.go hz17 (by omega))); omega)) af213 (by first | omega | ((try (have i_hz17 := Imp.go hz17 (by omega))); (try (have i_hop := Imp.go hop (by omega))); (try (have i_moa := Imp.go moa (by omega))); (try (have i_moa := Imp.go moa (by omega))); (try (have i_hop := Imp.go hop (by omega))); (try (have i_hz17 := Imp.go hz17 (by omega))); omega)) (fun hph => absurd hph (by omega)))
    have rp216 : MJ V194 Z b := MO.mj mo212 (by (first | exact om_c09d41618ed8 hgf | omega)) (by (first | exact om_82fa09255765 gd pq196 | omega)) id id Or.inr
    exact W.zret (v := 0) hx hb hr rfl (fun t ht hW => ⟨⟨0, (V194, L), rfl, ⟨hMV194, agV194, rfl, (by decide), (Imp.mk (fun hp => absurd hp (by decide))), (Imp.mk (fun _ => rp216)), (Imp.mk (fun hp => absurd hp (by decide)))⟩, by rw [ht]; exact hP, va_K.moved hW.alike hK, hD⟩, hS.F ht⟩) hS.2.2 dX5_worksWith_170
  · skip
    have f217 : ((V 84 gf)).toInt < ((V 42 b)).toInt := b_nle rfl rfl c14
    refine lv_aload_n hx hb dX5_worksWith_14 rfl (lv_at hl 0 rfl) ?_
    refine va_get (D := D) (ci := 5) (v := .ref (ad (38 + Int32.toNatClampNeg (V 5 5)))) (fs := (xfMachine ad V L Z)) (C := RX5) (T := TX5) (N := 15) hx hb hg inX5 hown hK hP 5 xgMachine rfl 5 (by decide) (hg _ w672) (fun _ h9 => h9) rfl dX5_worksWith_15 ?_
    refine g_topv (v := .ref (ad (38 + b))) (rfP (by first | omega | ((try (have i_hop := Imp.go hop (by omega))); (try (have i_moa := Imp.go moa (by omega))); (try (have i_moa := Imp.go moa (by omega))); (try (have i_hop := Imp.go hop (by omega))); omega))) ?_
    refine va_getN (D := D) (ci := 0) (v := .ref (ad (70 + b))) (fs := (xfBook ad V b)) (C := RX0) (T := TX0) (N := 13) hx hb hg inX0 hown hK hP (38 + b) (xgBook hb2) rfl 10 (by decide) (hnw.use 624 n624 rfl) (fun _ h9 => h9) rfl dX5_worksWith_18 ?_
    refine lv_aload_n hx hb dX5_worksWith_21 rfl (lv_at hl 1 rfl) ?_
    refine va_getN (D := D) (ci := 4) (v := .int (V 84 gf)) (fs := (xfFrame V gf)) (C := RX4) (T := TX4) (N := 19) hx hb hg inX4 hown hK hP (336 + gf) (xgFrame hgf) rfl 17 (by decide) (hnw.use 1206 n1206 rfl) (fun _ h9 => h9) rfl dX5_worksWith_22 ?_
    have il218 : b < 2 := by first | exact om_f940a4667dd6 hb2 | first | omega | ((try (have i_hop := Imp.go hop (by omega))); (try (have i_moa := Imp.go moa (by omega))); (try (have i_moa := Imp.go moa (by omega))); (try (have i_hop := Imp.go hop (by omega))); omega)
    refine va_iald (D := D) (i := (V 84 gf)) hx hb hK hP (70 + b) (63 + b) (xgcode il218) (xtcode il218) (i_in (a := ((V 84 gf)).toInt) rfl (by first | exact om_86430a6a9738 r2.1 r12.2 f217 | first | omega | ((try (have i_hop := Imp.go hop (by omega))); (try (have i_moa := Imp.go moa (by omega))); (try (have i_moa := Imp.go moa (by omega))); (try (have i_hop := Imp.go hop (by omega))); omega))) dX5_worksWith_25 ?_
    have kc219 := i_clamp (x := (V 84 gf)) rfl (by first | exact om_eafa9039069c r2.1 | first | omega | ((try (have i_hop := Imp.go hop (by omega))); (try (have i_moa := Imp.go moa (by omega))); (try (have i_moa := Imp.go moa (by omega))); (try (have i_hop := Imp.go hop (by omega))); omega))
    refine g_top (v := V 48 (8200 * b + (Int32.toNatClampNeg (V 84 gf)))) (if_pos (by first | omega | ((try (have i_hop := Imp.go hop (by omega))); (try (have i_moa := Imp.go moa (by omega))); (try (have i_moa := Imp.go moa (by omega))); (try (have i_hop := Imp.go hop (by omega))); omega))) ?_
    refine lv_goto (tgt := 30) hx hb dX5_worksWith_26 (by decide) ?_
    refine lv_istore_n (lv' := [(3, .int (V 48 (8200 * b + (Int32.toNatClampNeg (V 84 gf))))), (0, .ref (ad 5)), (1, .ref (Z.fa gf)), (2, .int p1)]) hx hb dX5_worksWith_30 rfl hl (by decide) rfl (fun ls hl => ?_)
    refine lv_aload_n hx hb dX5_worksWith_31 rfl (lv_at hl 2 rfl) ?_
    refine lv_dup hx hb dX5_worksWith_32 rfl ?_
    refine va_getN (D := D) (ci := 4) (v := .int (V 84 gf)) (fs := (xfFrame V gf)) (C := RX4) (T := TX4) (N := 19) hx hb hg inX4 hown hK hP (336 + gf) (xgFrame hgf) rfl 17 (by decide) (hnw.use 1206 n1206 rfl) (fun _ h9 => h9) rfl dX5_worksWith_33 ?_
    refine lv_iconst (v := 1) hx hb dX5_worksWith_36 (by decide) ?_
    refine lv_iadd hx hb dX5_worksWith_37 ?_
    refine lv_topi (fun z220 ez220 => ?_)
    have hz220 : z220.toInt = ((V 84 gf)).toInt + 1 := i_add ez220 rfl (by decide) (by (first | exact om_5262a3c18483 r2.1 r12.2 f217 | omega))
    refine va_putN (D := D) (ci := 4) (v := .int z220) (ty := tyX4 17) (fs := (xfFrame V gf)) (C := RX4) (T := TX4) (N := 19) hx hb hg inX4 tyX4 tyX4_ok nmX4 hown hK hP hD hS (336 + gf) (xgFrame hgf) rfl 17 (by decide) (hnw.use 1206 n1206 rfl) (fun _ h9 => h9) rfl (tyX4_ok 17 (by decide)) rfl rfl (Nat.le_of_ble_eq_true rfl) dX5_worksWith_38 (fun H locs hP hD hS => ?_)
    obtain ⟨V221, hV221⟩ : ∃ z, z = up2 V 84 gf z220 := ⟨_, rfl⟩
    have ew222 : (xw ad kk V L Z).set (336 + gf) ((Z.fa gf), .inr (4, (xfFrame V gf).set 17 (.int z220))) = xw ad kk V221 L Z := by rw [hV221]; exact xpFrame_at hgf
    have hP : va_P D vwCl (xw ad kk V221 L Z) H := by rw [← ew222]; exact hP
    have hD : va_D A (xw ad kk V221 L Z) := by rw [← ew222]; exact hD
    have hMV221 : rgd bX V221 := hMV.put hV221 (show 0 ≤ z220.toInt ∧ z220.toInt ≤ 2147483647 from by first | exact om_013d27fd8c38 r2.1 r12.2 f217 hz220 | first | omega | ((try (have i_hop := Imp.go hop (by omega))); (try (have i_moa := Imp.go moa (by omega))); (try (have i_moa := Imp.go moa (by omega))); (try (have i_hop := Imp.go hop (by omega))); omega))
    have agV221 : agr [(5, 6), (5, 7), (5, 9), (5, 11), (5, 12)] [39, 68, 75, 77, 78, 84] V V221 := agV.up hV221 rfl
    have kca := i_clamp (x := V 84 gf) rfl (by (first | exact om_eafa9039069c r2.1 | omega))
    have hop1 := hop (Int32.toNatClampNeg (V 84 gf)) (by omega) (by omega)
    have atn : (V 42 b).toInt ≤ z220.toInt ∨ (bdp V b z220.toInt.toNat).1 = true := Or.inr (by rw [show z220.toInt.toNat = Int32.toNatClampNeg (V 84 gf) + 1 from by first | omega | ((try (have i_hop := Imp.go hop (by omega))); (try (have i_moa := Imp.go moa (by omega))); (try (have i_moa := Imp.go moa (by omega))); (try (have i_hop := Imp.go hop (by omega))); omega)]; exact hop1.2)
    refine lv_iload_n hx hb dX5_worksWith_41 rfl (lv_at hl 3 rfl) ?_
    by_cases q223 : p1 = 10
    · refine g_top (v := 10) q223 ?_
      have fq223 : p1.toInt = 10 := b_eq rfl (by decide) q223
      refine lv_tableIn (x := 10) (off := 34) (tgt := 76) hx hb dX5_worksWith_42 (by decide) (by decide) (by decide) (by decide) ?_
      refine lv_aload_n hx hb dX5_worksWith_76 rfl (lv_at hl 1 rfl) ?_
      refine lv_iload_n hx hb dX5_worksWith_77 rfl (lv_at hl 0 rfl) ?_
      refine gA_void (gA_runV (As := [.int (V 48 (8200 * b + (Int32.toNatClampNeg (V 84 gf))))]) (rest := []) (ci := 5) (q0 := 5) hx hb hml hown hg hP hD hK hS hA hnw hgk (x_mput l D ks H.size ad kk V221 L Z (V 48 (8200 * b + (Int32.toNatClampNeg (V 84 gf)))) hMV221 ) w1466 w1468 w72 w171 w1469 rfl xgMachine hdV_yX5_put ⟨Nat.le_of_ble_eq_true rfl, Nat.le_of_ble_eq_true rfl⟩ rfl hl.1 rfl (Nat.le_of_ble_eq_true rfl) dX5_worksWith_78 ⟨Nat.le_of_ble_eq_true rfl, Nat.le_of_ble_eq_true rfl⟩) hP hD hK hS hA (fun u225 H locs w226 hP hD hK hS => ?_)
      obtain ⟨V227, L228⟩ := u225
      obtain ⟨hMV227, ajV227, axL228⟩ := w226
      have axL228 : L = L228 := Eq.symm axL228
      subst axL228
      have hP : va_P D vwCl (xw ad kk V227 L Z) H := hP
      have hD : va_D A (xw ad kk V227 L Z) := hD
      have hMV227 : rgd bX V227 := hMV227
      have ajV227 : agr [(5, 7)] [39] V221 V227 := ajV227
      have agV227 : agr [(5, 6), (5, 7), (5, 9), (5, 11), (5, 12)] [39, 68, 75, 77, 78, 84] V V227 := agV221.tr ajV227 (by decide) (by decide)
      refine lv_iconst (v := 1) hx hb dX5_worksWith_81 (by decide) ?_
      have pq229 : (V227 5 6).toInt = ((V 5 6)).toInt := congrArg Int32.toInt ((ajV227 5 6 rfl).trans (up2_o hV221 (by decide)))
      have pq230 : (V227 67 gf).toInt = ((V 67 gf)).toInt := congrArg Int32.toInt ((ajV227 67 gf rfl).trans (up2_o hV221 (by decide)))
      have pq231 : (V227 68 gf).toInt = ((V 68 gf)).toInt := congrArg Int32.toInt ((ajV227 68 gf rfl).trans (up2_o hV221 (by decide)))
      have me232 : ME Va V227 gf := (ME.tr (ME.up mV hV221 (Or.inl ⟨by decide, by decide, Nat.le_refl _⟩)) (ME.ag ajV227 (by decide)))
      have pq233 : (V227 70 gf).toInt = ((V 70 gf)).toInt := congrArg Int32.toInt ((ajV227 70 gf rfl).trans (up2_o hV221 (by decide)))
      have pq234 : (V227 71 gf).toInt = ((V 71 gf)).toInt := congrArg Int32.toInt ((ajV227 71 gf rfl).trans (up2_o hV221 (by decide)))
      have pq235 : (V227 75 gf).toInt = ((V 75 gf)).toInt := congrArg Int32.toInt ((ajV227 75 gf rfl).trans (up2_o hV221 (by decide)))
      have pq236 : (V227 76 gf).toInt = ((V 76 gf)).toInt := congrArg Int32.toInt ((ajV227 76 gf rfl).trans (up2_o hV221 (by decide)))
      have pq237 : (V227 80 gf).toInt = ((V 80 gf)).toInt := congrArg Int32.toInt ((ajV227 80 gf rfl).trans (up2_o hV221 (by decide)))
      have pq238 : (V227 84 gf).toInt = z220.toInt := congrArg Int32.toInt ((ajV227 84 gf rfl).trans (up2_s hV221))
      have pq239 : (V227 5 8).toInt = ((V 5 8)).toInt := congrArg Int32.toInt ((ajV227 5 8 rfl).trans (up2_o hV221 (by decide)))
      have pq240 : (V227 5 9).toInt = ((V 5 9)).toInt := congrArg Int32.toInt ((ajV227 5 9 rfl).trans (up2_o hV221 (by decide)))
      have pq241 : (V227 3 13).toInt = ((V 3 13)).toInt := congrArg Int32.toInt ((ajV227 3 13 rfl).trans (up2_o hV221 (by decide)))
      have pq242 : (V227 43 (5 * b + 2)).toInt = ((V 43 (5 * b + 2))).toInt := congrArg Int32.toInt ((ajV227 43 (5 * b + 2) rfl).trans (up2_o hV221 (by decide)))
      have pq243 : (V227 42 b).toInt = ((V 42 b)).toInt := congrArg Int32.toInt ((ajV227 42 b rfl).trans (up2_o hV221 (by decide)))
      have pq244 : (V227 41 b).toInt = ((V 41 b)).toInt := congrArg Int32.toInt ((ajV227 41 b rfl).trans (up2_o hV221 (by decide)))
      have me247 : ME V V227 0 := (ME.tr (ME.up ME.rf hV221 (Or.inl ⟨by decide, by decide, by first | omega | ((try (have i_hop := Imp.go hop (by omega))); (try (have i_moa := Imp.go moa (by omega))); (try (have i_moa := Imp.go moa (by omega))); (try (have i_hop := Imp.go hop (by omega))); omega)⟩)) (ME.ag ajV227 (by decide)))
      have af246 : (V227 42 b).toInt ≤ (V227 84 gf).toInt ∨ (bdp V227 b (V227 84 gf).toInt.toNat).1 = true := by rw [((ajV227 84 gf rfl).trans (up2_s hV221)), me247.1.bd, me247.1 42 b (by decide) (by decide)]; exact atn
      have mo245 : MO V227 Z b gf True True True := MO.ch mo me232 ((ajV227 67 gf rfl).trans ((up2_o hV221 (by decide)).trans ea67.symm)) ((ajV227 80 gf rfl).trans ((up2_o hV221 (by decide)).trans ea80.symm)) (fun _ => Or.inl (by omega)) (fun x h => FK.k4 (by first | omega | ((try (have i_hop := Imp.go hop (by omega))); (try (have i_moa := Imp.go moa (by omega))); (try (have i_moa := Imp.go moa (by omega))); (try (have i_hop := Imp.go hop (by omega))); omega)) (by first | omega | ((try (have i_hop := Imp.go hop (by omega))); (try (have i_moa := Imp.go moa (by omega))); (try (have i_moa := Imp.go moa (by omega))); (try (have i_hop := Imp.go hop (by omega))); omega)) (by first | omega | ((try (have i_hop := Imp.go hop (by omega))); (try (have i_moa := Imp.go moa (by omega))); (try (have i_moa := Imp.go moa (by omega))); (try (have i_hop := Imp.go hop (by omega))); omega)) af246 (by first | omega | ((try (have i_hop := Imp.go hop (by omega))); (try (have i_moa := Imp.go moa (by omega))); (try (have i_moa := Imp.go moa (by omega))); (try (have i_hop := Imp.go hop (by omega))); omega)) (fun hph => absurd hph (by omega)))
      exact W.zret (v := 1) hx hb hr rfl (fun t ht hW => ⟨⟨1, (V227, L), rfl, ⟨hMV227, agV227, rfl, (by decide), (Imp.mk (fun _ => mo245)), (Imp.mk (fun hp => absurd hp (by decide))), (Imp.mk (fun _ => (show (V227 5 6).toInt = (V 5 6).toInt ∧ (V227 67 gf).toInt = 4 ∧ (V227 68 gf).toInt = 0 from by first | exact om_a46bf36ddf1a gk gph pq229 pq230 pq231 | first | omega | ((try (have i_hop := Imp.go hop (by omega))); (try (have i_moa := Imp.go moa (by omega))); (try (have i_moa := Imp.go moa (by omega))); (try (have i_hop := Imp.go hop (by omega))); omega))))⟩, by rw [ht]; exact hP, va_K.moved hW.alike hK, hD⟩, hS.F ht⟩) hS.2.2 dX5_worksWith_82
    have gq223 : p1.toInt ≠ 10 := b_neq rfl (by decide) q223
    by_cases q248 : p1 = 11
    · refine g_top (v := 11) q248 ?_
      have fq248 : p1.toInt = 11 := b_eq rfl (by decide) q248
      refine lv_tableIn (x := 11) (off := 41) (tgt := 83) hx hb dX5_worksWith_42 (by decide) (by decide) (by decide) (by decide) ?_
      have hwo := hop1.1.1 (by omega)
      refine lv_aload_n hx hb dX5_worksWith_83 rfl (lv_at hl 1 rfl) ?_
      refine lv_aload_n hx hb dX5_worksWith_84 rfl (lv_at hl 1 rfl) ?_
      refine va_get (D := D) (ci := 5) (v := .ref (ad (38 + Int32.toNatClampNeg (V221 5 5)))) (fs := (xfMachine ad V221 L Z)) (C := RX5) (T := TX5) (N := 15) hx hb hg inX5 hown hK hP 5 xgMachine rfl 5 (by decide) (hg _ w672) (fun _ h9 => h9) rfl dX5_worksWith_85 ?_
      have pq249 : (V221 5 5).toInt = ((V 5 5)).toInt := congrArg Int32.toInt (up2_o hV221 (by decide))
      refine g_topv (v := .ref (ad (38 + b))) (rfP (by first | omega | ((try (have i_hop := Imp.go hop (by omega))); (try (have i_moa := Imp.go moa (by omega))); (try (have i_moa := Imp.go moa (by omega))); (try (have i_hop := Imp.go hop (by omega))); omega))) ?_
      refine va_getN (D := D) (ci := 0) (v := .ref (ad (62 + b))) (fs := (xfBook ad V221 b)) (C := RX0) (T := TX0) (N := 13) hx hb hg inX0 hown hK hP (38 + b) (xgBook hb2) rfl 6 (by decide) (hnw.use 613 n613 rfl) (fun _ h9 => h9) rfl dX5_worksWith_88 ?_
      refine lv_iload_n hx hb dX5_worksWith_91 rfl (lv_at hl 0 rfl) ?_
      have il250 : b < 2 := by first | exact om_f940a4667dd6 hb2 | first | omega | ((try (have i_hop := Imp.go hop (by omega))); (try (have i_moa := Imp.go moa (by omega))); (try (have i_moa := Imp.go moa (by omega))); (try (have i_hop := Imp.go hop (by omega))); omega)
      refine va_iald (D := D) (i := (V 48 (8200 * b + (Int32.toNatClampNeg (V 84 gf))))) hx hb hK hP (62 + b) (55 + b) (xgsettingValues il250) (xtsettingValues il250) (i_in (a := ((V 48 (8200 * b + (Int32.toNatClampNeg (V 84 gf))))).toInt) rfl (by first | omega | ((try (have i_hop := Imp.go hop (by omega))); (try (have i_moa := Imp.go moa (by omega))); (try (have i_moa := Imp.go moa (by omega))); (try (have i_hop := Imp.go hop (by omega))); omega))) dX5_worksWith_92 ?_
      have kc251 := i_clamp (x := (V 48 (8200 * b + (Int32.toNatClampNeg (V 84 gf))))) rfl (by first | omega | ((try (have i_hop := Imp.go hop (by omega))); (try (have i_moa := Imp.go moa (by omega))); (try (have i_moa := Imp.go moa (by omega))); (try (have i_hop := Imp.go hop (by omega))); omega))
      refine g_top (v := V221 46 (12 * b + (Int32.toNatClampNeg (V 48 (8200 * b + (Int32.toNatClampNeg (V 84 gf))))))) (if_pos (by first | omega | ((try (have i_hop := Imp.go hop (by omega))); (try (have i_moa := Imp.go moa (by omega))); (try (have i_moa := Imp.go moa (by omega))); (try (have i_hop := Imp.go hop (by omega))); omega))) ?_
      refine g_top (v := (V 46 (12 * b + (Int32.toNatClampNeg (V 48 (8200 * b + (Int32.toNatClampNeg (V 84 gf)))))))) (up2_o hV221 (by decide)) ?_
      refine gA_void (gA_runV (As := [.int (V 46 (12 * b + (Int32.toNatClampNeg (V 48 (8200 * b + (Int32.toNatClampNeg (V 84 gf)))))))]) (rest := []) (ci := 5) (q0 := 5) hx hb hml hown hg hP hD hK hS hA hnw hgk (x_mput l D ks H.size ad kk V221 L Z (V 46 (12 * b + (Int32.toNatClampNeg (V 48 (8200 * b + (Int32.toNatClampNeg (V 84 gf))))))) hMV221 ) w1466 w1468 w72 w171 w1469 rfl xgMachine hdV_yX5_put ⟨Nat.le_of_ble_eq_true rfl, Nat.le_of_ble_eq_true rfl⟩ rfl hl.1 rfl (Nat.le_of_ble_eq_true rfl) dX5_worksWith_93 ⟨Nat.le_of_ble_eq_true rfl, Nat.le_of_ble_eq_true rfl⟩) hP hD hK hS hA (fun u253 H locs w254 hP hD hK hS => ?_)
      obtain ⟨V255, L256⟩ := u253
      obtain ⟨hMV255, ajV255, axL256⟩ := w254
      have axL256 : L = L256 := Eq.symm axL256
      subst axL256
      have hP : va_P D vwCl (xw ad kk V255 L Z) H := hP
      have hD : va_D A (xw ad kk V255 L Z) := hD
      have hMV255 : rgd bX V255 := hMV255
      have ajV255 : agr [(5, 7)] [39] V221 V255 := ajV255
      have agV255 : agr [(5, 6), (5, 7), (5, 9), (5, 11), (5, 12)] [39, 68, 75, 77, 78, 84] V V255 := agV221.tr ajV255 (by decide) (by decide)
      refine lv_iconst (v := 1) hx hb dX5_worksWith_96 (by decide) ?_
      have pq257 : (V255 5 6).toInt = ((V 5 6)).toInt := congrArg Int32.toInt ((ajV255 5 6 rfl).trans (up2_o hV221 (by decide)))
      have pq258 : (V255 67 gf).toInt = ((V 67 gf)).toInt := congrArg Int32.toInt ((ajV255 67 gf rfl).trans (up2_o hV221 (by decide)))
      have pq259 : (V255 68 gf).toInt = ((V 68 gf)).toInt := congrArg Int32.toInt ((ajV255 68 gf rfl).trans (up2_o hV221 (by decide)))
      have me260 : ME Va V255 gf := (ME.tr (ME.up mV hV221 (Or.inl ⟨by decide, by decide, Nat.le_refl _⟩)) (ME.ag ajV255 (by decide)))
      have pq261 : (V255 70 gf).toInt = ((V 70 gf)).toInt := congrArg Int32.toInt ((ajV255 70 gf rfl).trans (up2_o hV221 (by decide)))
      have pq262 : (V255 71 gf).toInt = ((V 71 gf)).toInt := congrArg Int32.toInt ((ajV255 71 gf rfl).trans (up2_o hV221 (by decide)))
      have pq263 : (V255 75 gf).toInt = ((V 75 gf)).toInt := congrArg Int32.toInt ((ajV255 75 gf rfl).trans (up2_o hV221 (by decide)))
      have pq264 : (V255 76 gf).toInt = ((V 76 gf)).toInt := congrArg Int32.toInt ((ajV255 76 gf rfl).trans (up2_o hV221 (by decide)))
      have pq265 : (V255 80 gf).toInt = ((V 80 gf)).toInt := congrArg Int32.toInt ((ajV255 80 gf rfl).trans (up2_o hV221 (by decide)))
      have pq266 : (V255 84 gf).toInt = z220.toInt := congrArg Int32.toInt ((ajV255 84 gf rfl).trans (up2_s hV221))
      have pq267 : (V255 5 8).toInt = ((V 5 8)).toInt := congrArg Int32.toInt ((ajV255 5 8 rfl).trans (up2_o hV221 (by decide)))
      have pq268 : (V255 5 9).toInt = ((V 5 9)).toInt := congrArg Int32.toInt ((ajV255 5 9 rfl).trans (up2_o hV221 (by decide)))
      have pq269 : (V255 3 13).toInt = ((V 3 13)).toInt := congrArg Int32.toInt ((ajV255 3 13 rfl).trans (up2_o hV221 (by decide)))
      have pq270 : (V255 43 (5 * b + 2)).toInt = ((V 43 (5 * b + 2))).toInt := congrArg Int32.toInt ((ajV255 43 (5 * b + 2) rfl).trans (up2_o hV221 (by decide)))
      have pq271 : (V255 42 b).toInt = ((V 42 b)).toInt := congrArg Int32.toInt ((ajV255 42 b rfl).trans (up2_o hV221 (by decide)))
      have pq272 : (V255 41 b).toInt = ((V 41 b)).toInt := congrArg Int32.toInt ((ajV255 41 b rfl).trans (up2_o hV221 (by decide)))
      have me275 : ME V V255 0 := (ME.tr (ME.up ME.rf hV221 (Or.inl ⟨by decide, by decide, by first | omega | ((try (have i_hop := Imp.go hop (by omega))); (try (have i_moa := Imp.go moa (by omega))); (try (have i_moa := Imp.go moa (by omega))); (try (have i_hop := Imp.go hop (by omega))); omega)⟩)) (ME.ag ajV255 (by decide)))
      have af274 : (V255 42 b).toInt ≤ (V255 84 gf).toInt ∨ (bdp V255 b (V255 84 gf).toInt.toNat).1 = true := by rw [((ajV255 84 gf rfl).trans (up2_s hV221)), me275.1.bd, me275.1 42 b (by decide) (by decide)]; exact atn
      have mo273 : MO V255 Z b gf True True True := MO.ch mo me260 ((ajV255 67 gf rfl).trans ((up2_o hV221 (by decide)).trans ea67.symm)) ((ajV255 80 gf rfl).trans ((up2_o hV221 (by decide)).trans ea80.symm)) (fun _ => Or.inl (by omega)) (fun x h => FK.k4 (by first | omega | ((try (have i_hop := Imp.go hop (by omega))); (try (have i_moa := Imp.go moa (by omega))); (try (have i_moa := Imp.go moa (by omega))); (try (have i_hop := Imp.go hop (by omega))); omega)) (by first | omega | ((try (have i_hop := Imp.go hop (by omega))); (try (have i_moa := Imp.go moa (by omega))); (try (have i_moa := Imp.go moa (by omega))); (try (have i_hop := Imp.go hop (by omega))); omega)) (by first | omega | ((try (have i_hop := Imp.go hop (by omega))); (try (have i_moa := Imp.go moa (by omega))); (try (have i_moa := Imp.go moa (by omega))); (try (have i_hop := Imp.go hop (by omega))); omega)) af274 (by first | omega | ((try (have i_hop := Imp.go hop (by omega))); (try (have i_moa := Imp.go moa (by omega))); (try (have i_moa := Imp.go moa (by omega))); (try (have i_hop := Imp.go hop (by omega))); omega)) (fun hph => absurd hph (by omega)))
      exact W.zret (v := 1) hx hb hr rfl (fun t ht hW => ⟨⟨1, (V255, L), rfl, ⟨hMV255, agV255, rfl, (by decide), (Imp.mk (fun _ => mo273)), (Imp.mk (fun hp => absurd hp (by decide))), (Imp.mk (fun _ => (show (V255 5 6).toInt = (V 5 6).toInt ∧ (V255 67 gf).toInt = 4 ∧ (V255 68 gf).toInt = 0 from by first | exact om_a46bf36ddf1a gk gph pq257 pq258 pq259 | first | omega | ((try (have i_hop := Imp.go hop (by omega))); (try (have i_moa := Imp.go moa (by omega))); (try (have i_moa := Imp.go moa (by omega))); (try (have i_hop := Imp.go hop (by omega))); omega))))⟩, by rw [ht]; exact hP, va_K.moved hW.alike hK, hD⟩, hS.F ht⟩) hS.2.2 dX5_worksWith_97
    have gq248 : p1.toInt ≠ 11 := b_neq rfl (by decide) q248
    by_cases q276 : p1 = 12
    · refine g_top (v := 12) q276 ?_
      have fq276 : p1.toInt = 12 := b_eq rfl (by decide) q276
      refine lv_tableIn (x := 12) (off := 84) (tgt := 126) hx hb dX5_worksWith_42 (by decide) (by decide) (by decide) (by decide) ?_
      refine lv_aload_n hx hb dX5_worksWith_126 rfl (lv_at hl 1 rfl) ?_
      refine lv_iconst (v := 0) hx hb dX5_worksWith_127 (by decide) ?_
      refine lv_iload_n hx hb dX5_worksWith_128 rfl (lv_at hl 0 rfl) ?_
      have r277 : Int32.toInt 0 = 0 := by decide
      refine gA_void (gA_runV (As := [.int 0, .int (V 48 (8200 * b + (Int32.toNatClampNeg (V 84 gf))))]) (rest := []) (ci := 5) (q0 := 5) hx hb hml hown hg hP hD hK hS hA hnw hgk (x_failWith l D ks H.size ad kk V221 L Z 0 (V 48 (8200 * b + (Int32.toNatClampNeg (V 84 gf)))) hMV221 ) w1261 w1263 w46 w171 w1264 rfl xgMachine hdV_yX5_failWith ⟨Nat.le_of_ble_eq_true rfl, Nat.le_of_ble_eq_true rfl⟩ rfl hl.1 rfl (Nat.le_of_ble_eq_true rfl) dX5_worksWith_129 ⟨Nat.le_of_ble_eq_true rfl, Nat.le_of_ble_eq_true rfl⟩) hP hD hK hS hA (fun u279 H locs w280 hP hD hK hS => ?_)
      obtain ⟨V282, L283⟩ := u279
      obtain ⟨hMV282, ajV282, axL283, t281⟩ := w280
      have axL283 : L = L283 := Eq.symm axL283
      subst axL283
      have hP : va_P D vwCl (xw ad kk V282 L Z) H := hP
      have hD : va_D A (xw ad kk V282 L Z) := hD
      have hMV282 : rgd bX V282 := hMV282
      have ajV282 : agr [(5, 9), (5, 11), (5, 12)] [] V221 V282 := ajV282
      have agV282 : agr [(5, 6), (5, 7), (5, 9), (5, 11), (5, 12)] [39, 68, 75, 77, 78, 84] V V282 := agV221.tr ajV282 (by decide) (by decide)
      have t281 : (V282 5 9).toInt = 2 := t281
      have r284 : 0 ≤ ((V282 5 9)).toInt ∧ ((V282 5 9)).toInt ≤ 3 := hMV282 5 9
      refine lv_aload_n hx hb dX5_worksWith_132 rfl (lv_at hl 1 rfl) ?_
      refine lv_aload_n hx hb dX5_worksWith_133 rfl (lv_at hl 2 rfl) ?_
      have pq285 : (V282 5 6).toInt = ((V 5 6)).toInt := congrArg Int32.toInt ((ajV282 5 6 rfl).trans (up2_o hV221 (by decide)))
      have pq286 : (V282 67 gf).toInt = ((V 67 gf)).toInt := congrArg Int32.toInt ((ajV282 67 gf rfl).trans (up2_o hV221 (by decide)))
      have me287 : ME Va V282 gf := (ME.tr (ME.up mV hV221 (Or.inl ⟨by decide, by decide, Nat.le_refl _⟩)) (ME.ag ajV282 (by decide)))
      have pq288 : (V282 68 gf).toInt = ((V 68 gf)).toInt := congrArg Int32.toInt ((ajV282 68 gf rfl).trans (up2_o hV221 (by decide)))
      have pq289 : (V282 70 gf).toInt = ((V 70 gf)).toInt := congrArg Int32.toInt ((ajV282 70 gf rfl).trans (up2_o hV221 (by decide)))
      have pq290 : (V282 71 gf).toInt = ((V 71 gf)).toInt := congrArg Int32.toInt ((ajV282 71 gf rfl).trans (up2_o hV221 (by decide)))
      have pq291 : (V282 75 gf).toInt = ((V 75 gf)).toInt := congrArg Int32.toInt ((ajV282 75 gf rfl).trans (up2_o hV221 (by decide)))
      have pq292 : (V282 76 gf).toInt = ((V 76 gf)).toInt := congrArg Int32.toInt ((ajV282 76 gf rfl).trans (up2_o hV221 (by decide)))
      have pq293 : (V282 80 gf).toInt = ((V 80 gf)).toInt := congrArg Int32.toInt ((ajV282 80 gf rfl).trans (up2_o hV221 (by decide)))
      have pq294 : (V282 84 gf).toInt = z220.toInt := congrArg Int32.toInt ((ajV282 84 gf rfl).trans (up2_s hV221))
      have pq295 : (V282 5 8).toInt = ((V 5 8)).toInt := congrArg Int32.toInt ((ajV282 5 8 rfl).trans (up2_o hV221 (by decide)))
      have pq296 : (V282 3 13).toInt = ((V 3 13)).toInt := congrArg Int32.toInt ((ajV282 3 13 rfl).trans (up2_o hV221 (by decide)))
      have pq297 : (V282 43 (5 * b + 2)).toInt = ((V 43 (5 * b + 2))).toInt := congrArg Int32.toInt ((ajV282 43 (5 * b + 2) rfl).trans (up2_o hV221 (by decide)))
      have pq298 : (V282 42 b).toInt = ((V 42 b)).toInt := congrArg Int32.toInt ((ajV282 42 b rfl).trans (up2_o hV221 (by decide)))
      have pq299 : (V282 41 b).toInt = ((V 41 b)).toInt := congrArg Int32.toInt ((ajV282 41 b rfl).trans (up2_o hV221 (by decide)))
      have me302 : ME V V282 0 := (ME.tr (ME.up ME.rf hV221 (Or.inl ⟨by decide, by decide, by first | omega | ((try (have i_hop := Imp.go hop (by omega))); (try (have i_moa := Imp.go moa (by omega))); (try (have i_moa := Imp.go moa (by omega))); (try (have i_hop := Imp.go hop (by omega))); omega)⟩)) (ME.ag ajV282 (by decide)))
      have af301 : (V282 42 b).toInt ≤ (V282 84 gf).toInt ∨ (bdp V282 b (V282 84 gf).toInt.toNat).1 = true := by rw [((ajV282 84 gf rfl).trans (up2_s hV221)), me302.1.bd, me302.1 42 b (by decide) (by decide)]; exact atn
      have mo300 : MO V282 Z b gf True False True := MO.ch mo me287 ((ajV282 67 gf rfl).trans ((up2_o hV221 (by decide)).trans ea67.symm)) ((ajV282 80 gf rfl).trans ((up2_o hV221 (by decide)).trans ea80.symm)) (fun _ => Or.inl (by omega)) (fun x h => FK.k4 (by first | omega | ((try (have i_hop := Imp.go hop (by omega))); (try (have i_moa := Imp.go moa (by omega))); (try (have i_moa := Imp.go moa (by omega))); (try (have i_hop := Imp.go hop (by omega))); omega)) (by first | omega | ((try (have i_hop := Imp.go hop (by omega))); (try (have i_moa := Imp.go moa (by omega))); (try (have i_moa := Imp.go moa (by omega))); (try (have i_hop := Imp.go hop (by omega))); omega)) (by first | omega | ((try (have i_hop := Imp.go hop (by omega))); (try (have i_moa := Imp.go moa (by omega))); (try (have i_moa := Imp.go moa (by omega))); (try (have i_hop := Imp.go hop (by omega))); omega)) af301 (by first | omega | ((try (have i_hop := Imp.go hop (by omega))); (try (have i_moa := Imp.go moa (by omega))); (try (have i_moa := Imp.go moa (by omega))); (try (have i_hop := Imp.go hop (by omega))); omega)) (fun _ z => z.elim))
      refine gA_void (gA_runV (As := [.ref (Z.fa gf)]) (rest := []) (ci := 5) (q0 := 5) hx hb hml hown hg hP hD hK hS hA hnw hgk (x_endWork2 l D ks H.size ad kk V282 L Z (b) (gf) hMV282 (show b < 2 from by first | exact om_f940a4667dd6 hb2 | first | omega | ((try (have i_hop := Imp.go hop (by omega))); (try (have i_moa := Imp.go moa (by omega))); (try (have i_moa := Imp.go moa (by omega))); (try (have i_hop := Imp.go hop (by omega))); omega)) (show gf < Z.nf from by first | exact om_8c5722e49bb1 hgf | first | omega | ((try (have i_hop := Imp.go hop (by omega))); (try (have i_moa := Imp.go moa (by omega))); (try (have i_moa := Imp.go moa (by omega))); (try (have i_hop := Imp.go hop (by omega))); omega)) mo300 (show (gf : Int) + 1 = (V282 5 6).toInt from by first | exact om_6e5bbaaa0e03 gd pq285 | first | omega | ((try (have i_hop := Imp.go hop (by omega))); (try (have i_moa := Imp.go moa (by omega))); (try (have i_moa := Imp.go moa (by omega))); (try (have i_hop := Imp.go hop (by omega))); omega)) (show (V282 67 gf).toInt = 4 from by first | exact om_ac6651f4ff0c gk pq286 | first | omega | ((try (have i_hop := Imp.go hop (by omega))); (try (have i_moa := Imp.go moa (by omega))); (try (have i_moa := Imp.go moa (by omega))); (try (have i_hop := Imp.go hop (by omega))); omega))) w1458 w1460 w70 w171 w1461 rfl xgMachine hdV_yX5_endWork ⟨Nat.le_of_ble_eq_true rfl, Nat.le_of_ble_eq_true rfl⟩ rfl hl.1 rfl (Nat.le_of_ble_eq_true rfl) dX5_worksWith_134 ⟨Nat.le_of_ble_eq_true rfl, Nat.le_of_ble_eq_true rfl⟩) hP hD hK hS hA (fun u304 H locs w305 hP hD hK hS => ?_)
      obtain ⟨V307, L308⟩ := u304
      obtain ⟨hMV307, ajV307, axL308, t306⟩ := w305
      have axL308 : L = L308 := Eq.symm axL308
      subst axL308
      have hP : va_P D vwCl (xw ad kk V307 L Z) H := hP
      have hD : va_D A (xw ad kk V307 L Z) := hD
      have hMV307 : rgd bX V307 := hMV307
      have ajV307 : agr [(5, 6), (5, 7)] [] V282 V307 := ajV307
      have agV307 : agr [(5, 6), (5, 7), (5, 9), (5, 11), (5, 12)] [39, 68, 75, 77, 78, 84] V V307 := agV282.tr ajV307 (by decide) (by decide)
      have t306 : MJ V307 Z b := t306
      refine lv_iconst (v := 0) hx hb dX5_worksWith_137 (by decide) ?_
      have r309 : 0 ≤ ((V307 5 6)).toInt ∧ ((V307 5 6)).toInt ≤ 400 := hMV307 5 6
      have pq310 : (V307 67 gf).toInt = ((V 67 gf)).toInt := congrArg Int32.toInt ((ajV307 67 gf rfl).trans ((ajV282 67 gf rfl).trans (up2_o hV221 (by decide))))
      have pq311 : (V307 68 gf).toInt = ((V 68 gf)).toInt := congrArg Int32.toInt ((ajV307 68 gf rfl).trans ((ajV282 68 gf rfl).trans (up2_o hV221 (by decide))))
      exact W.zret (v := 0) hx hb hr rfl (fun t ht hW => ⟨⟨0, (V307, L), rfl, ⟨hMV307, agV307, rfl, (by decide), (Imp.mk (fun hp => absurd hp (by decide))), (Imp.mk (fun _ => t306)), (Imp.mk (fun hp => absurd hp (by decide)))⟩, by rw [ht]; exact hP, va_K.moved hW.alike hK, hD⟩, hS.F ht⟩) hS.2.2 dX5_worksWith_138
    have gq276 : p1.toInt ≠ 12 := b_neq rfl (by decide) q276
    by_cases q312 : p1 = 13
    · refine g_top (v := 13) q312 ?_
      have fq312 : p1.toInt = 13 := b_eq rfl (by decide) q312
      refine lv_tableIn (x := 13) (off := 63) (tgt := 105) hx hb dX5_worksWith_42 (by decide) (by decide) (by decide) (by decide) ?_
      have hjm := hop1.1.2.2 (by omega)
      have hfw := i_full (V 48 (8200 * b + (Int32.toNatClampNeg (V 84 gf))))
      have hj0 : 0 ≤ (V 48 (8200 * b + (Int32.toNatClampNeg (V 84 gf)))).toInt := by rcases hjm with h | h <;> omega
      have atw : (V 42 b).toInt ≤ (V 48 (8200 * b + (Int32.toNatClampNeg (V 84 gf)))).toInt ∨ (bdp V b (V 48 (8200 * b + (Int32.toNatClampNeg (V 84 gf)))).toInt.toNat).1 = true := hjm.elim (fun h => Or.inl (by omega)) (fun h => Or.inr h.2.2)
      refine lv_aload_n hx hb dX5_worksWith_105 rfl (lv_at hl 2 rfl) ?_
      refine lv_aload_n hx hb dX5_worksWith_106 rfl (lv_at hl 1 rfl) ?_
      refine gA_int (gA_runV (As := []) (rest := [.ref (Z.fa gf)]) (ci := 5) (q0 := 5) hx hb hml hown hg hP hD hK hS hA hnw hgk (x_mpull l D ks H.size ad kk V221 L Z  hMV221 ) w1482 w1484 w76 w171 w1485 rfl xgMachine hdV_yX5_pull ⟨Nat.le_of_ble_eq_true rfl, Nat.le_of_ble_eq_true rfl⟩ rfl hl.1 rfl (Nat.le_of_ble_eq_true rfl) dX5_worksWith_107 ⟨Nat.le_of_ble_eq_true rfl, Nat.le_of_ble_eq_true rfl⟩) hP hD hK hS hA (fun z313 u314 H locs w315 hP hD hK hS => ?_)
      obtain ⟨V316, L317⟩ := u314
      obtain ⟨hMV316, ajV316, axL317⟩ := w315
      have axL317 : L = L317 := Eq.symm axL317
      subst axL317
      have hP : va_P D vwCl (xw ad kk V316 L Z) H := hP
      have hD : va_D A (xw ad kk V316 L Z) := hD
      have hMV316 : rgd bX V316 := hMV316
      have ajV316 : agr [(5, 7)] [] V221 V316 := ajV316
      have agV316 : agr [(5, 6), (5, 7), (5, 9), (5, 11), (5, 12)] [39, 68, 75, 77, 78, 84] V V316 := agV221.tr ajV316 (by decide) (by decide)
      refine lv_if_ne (tgt := 117) hx hb dX5_worksWith_110 (by decide) (fun c318 => ?_) (fun c318 => ?_)
      · skip
        have f319 : z313.toInt ≠ 0 := b_neq rfl (by decide) c318
        refine lv_aload_n hx hb dX5_worksWith_117 rfl (lv_at hl 2 rfl) ?_
        refine va_getN (D := D) (ci := 4) (v := .int (V316 84 gf)) (fs := (xfFrame V316 gf)) (C := RX4) (T := TX4) (N := 19) hx hb hg inX4 hown hK hP (336 + gf) (xgFrame hgf) rfl 17 (by decide) (hnw.use 1206 n1206 rfl) (fun _ h9 => h9) rfl dX5_worksWith_118 ?_
        refine g_top (v := z220) ((ajV316 84 gf rfl).trans (up2_s hV221)) ?_
        refine va_putN (D := D) (ci := 4) (v := .int z220) (ty := tyX4 17) (fs := (xfFrame V316 gf)) (C := RX4) (T := TX4) (N := 19) hx hb hg inX4 tyX4 tyX4_ok nmX4 hown hK hP hD hS (336 + gf) (xgFrame hgf) rfl 17 (by decide) (hnw.use 1206 n1206 rfl) (fun _ h9 => h9) rfl (tyX4_ok 17 (by decide)) rfl rfl (Nat.le_of_ble_eq_true rfl) dX5_worksWith_121 (fun H locs hP hD hS => ?_)
        obtain ⟨V320, hV320⟩ : ∃ z, z = up2 V316 84 gf z220 := ⟨_, rfl⟩
        have ew321 : (xw ad kk V316 L Z).set (336 + gf) ((Z.fa gf), .inr (4, (xfFrame V316 gf).set 17 (.int z220))) = xw ad kk V320 L Z := by rw [hV320]; exact xpFrame_at hgf
        have hP : va_P D vwCl (xw ad kk V320 L Z) H := by rw [← ew321]; exact hP
        have hD : va_D A (xw ad kk V320 L Z) := by rw [← ew321]; exact hD
        have hMV320 : rgd bX V320 := hMV316.put hV320 (show 0 ≤ z220.toInt ∧ z220.toInt ≤ 2147483647 from by first | exact om_013d27fd8c38 r2.1 r12.2 f217 hz220 | first | omega | ((try (have i_hop := Imp.go hop (by omega))); (try (have i_moa := Imp.go moa (by omega))); (try (have i_moa := Imp.go moa (by omega))); (try (have i_hop := Imp.go hop (by omega))); omega))
        have agV320 : agr [(5, 6), (5, 7), (5, 9), (5, 11), (5, 12)] [39, 68, 75, 77, 78, 84] V V320 := agV316.up hV320 rfl
        refine lv_iconst (v := 1) hx hb dX5_worksWith_124 (by decide) ?_
        have pq322 : (V320 5 6).toInt = ((V 5 6)).toInt := congrArg Int32.toInt ((up2_o hV320 (by decide)).trans ((ajV316 5 6 rfl).trans (up2_o hV221 (by decide))))
        have pq323 : (V320 67 gf).toInt = ((V 67 gf)).toInt := congrArg Int32.toInt ((up2_o hV320 (by decide)).trans ((ajV316 67 gf rfl).trans (up2_o hV221 (by decide))))
        have pq324 : (V320 68 gf).toInt = ((V 68 gf)).toInt := congrArg Int32.toInt ((up2_o hV320 (by decide)).trans ((ajV316 68 gf rfl).trans (up2_o hV221 (by decide))))
        have me325 : ME Va V320 gf := (ME.up (ME.tr (ME.up mV hV221 (Or.inl ⟨by decide, by decide, Nat.le_refl _⟩)) (ME.ag ajV316 (by decide))) hV320 (Or.inl ⟨by decide, by decide, Nat.le_refl _⟩))
        have pq326 : (V320 70 gf).toInt = ((V 70 gf)).toInt := congrArg Int32.toInt ((up2_o hV320 (by decide)).trans ((ajV316 70 gf rfl).trans (up2_o hV221 (by decide))))
        have pq327 : (V320 71 gf).toInt = ((V 71 gf)).toInt := congrArg Int32.toInt ((up2_o hV320 (by decide)).trans ((ajV316 71 gf rfl).trans (up2_o hV221 (by decide))))
        have pq328 : (V320 75 gf).toInt = ((V 75 gf)).toInt := congrArg Int32.toInt ((up2_o hV320 (by decide)).trans ((ajV316 75 gf rfl).trans (up2_o hV221 (by decide))))
        have pq329 : (V320 76 gf).toInt = ((V 76 gf)).toInt := congrArg Int32.toInt ((up2_o hV320 (by decide)).trans ((ajV316 76 gf rfl).trans (up2_o hV221 (by decide))))
        have pq330 : (V320 80 gf).toInt = ((V 80 gf)).toInt := congrArg Int32.toInt ((up2_o hV320 (by decide)).trans ((ajV316 80 gf rfl).trans (up2_o hV221 (by decide))))
        have pq331 : (V320 84 gf).toInt = z220.toInt := congrArg Int32.toInt (up2_s hV320)
        have pq332 : (V320 5 8).toInt = ((V 5 8)).toInt := congrArg Int32.toInt ((up2_o hV320 (by decide)).trans ((ajV316 5 8 rfl).trans (up2_o hV221 (by decide))))
        have pq333 : (V320 5 9).toInt = ((V 5 9)).toInt := congrArg Int32.toInt ((up2_o hV320 (by decide)).trans ((ajV316 5 9 rfl).trans (up2_o hV221 (by decide))))
        have pq334 : (V320 3 13).toInt = ((V 3 13)).toInt := congrArg Int32.toInt ((up2_o hV320 (by decide)).trans ((ajV316 3 13 rfl).trans (up2_o hV221 (by decide))))
        have pq335 : (V320 43 (5 * b + 2)).toInt = ((V 43 (5 * b + 2))).toInt := congrArg Int32.toInt ((up2_o hV320 (by decide)).trans ((ajV316 43 (5 * b + 2) rfl).trans (up2_o hV221 (by decide))))
        have pq336 : (V320 42 b).toInt = ((V 42 b)).toInt := congrArg Int32.toInt ((up2_o hV320 (by decide)).trans ((ajV316 42 b rfl).trans (up2_o hV221 (by decide))))
        have pq337 : (V320 41 b).toInt = ((V 41 b)).toInt := congrArg Int32.toInt ((up2_o hV320 (by decide)).trans ((ajV316 41 b rfl).trans (up2_o hV221 (by decide))))
        have me340 : ME V V320 0 := (ME.up (ME.tr (ME.up ME.rf hV221 (Or.inl ⟨by decide, by decide, by first | omega | ((try (have i_hop := Imp.go hop (by omega))); (try (have i_moa := Imp.go moa (by omega))); (try (have i_moa := Imp.go moa (by omega))); (try (have i_hop := Imp.go hop (by omega))); omega)⟩)) (ME.ag ajV316 (by decide))) hV320 (Or.inl ⟨by decide, by decide, by first | omega | ((try (have i_hop := Imp.go hop (by omega))); (try (have i_moa := Imp.go moa (by omega))); (try (have i_moa := Imp.go moa (by omega))); (try (have i_hop := Imp.go hop (by omega))); omega)⟩))
        have af339 : (V320 42 b).toInt ≤ (V320 84 gf).toInt ∨ (bdp V320 b (V320 84 gf).toInt.toNat).1 = true := by rw [(up2_s hV320), me340.1.bd, me340.1 42 b (by decide) (by decide)]; exact atn
        have mo338 : MO V320 Z b gf True True True := MO.ch mo me325 ((up2_o hV320 (by decide)).trans ((ajV316 67 gf rfl).trans ((up2_o hV221 (by decide)).trans ea67.symm))) ((up2_o hV320 (by decide)).trans ((ajV316 80 gf rfl).trans ((up2_o hV221 (by decide)).trans ea80.symm))) (fun _ => Or.inl (by omega)) (fun x h => FK.k4 (by first | omega | ((try (have i_hop := Imp.go hop (by omega))); (try (have i_moa := Imp.go moa (by omega))); (try (have i_moa := Imp.go moa (by omega))); (try (have i_hop := Imp.go hop (by omega))); omega)) (by first | omega | ((try (have i_hop := Imp.go hop (by omega))); (try (have i_moa := Imp.go moa (by omega))); (try (have i_moa := Imp.go moa (by omega))); (try (have i_hop := Imp.go hop (by omega))); omega)) (by first | omega | ((try (have i_hop := Imp.go hop (by omega))); (try (have i_moa := Imp.go moa (by omega))); (try (have i_moa := Imp.go moa (by omega))); (try (have i_hop := Imp.go hop (by omega))); omega)) af339 (by first | omega | ((try (have i_hop := Imp.go hop (by omega))); (try (have i_moa := Imp.go moa (by omega))); (try (have i_moa := Imp.go moa (by omega))); (try (have i_hop := Imp.go hop (by omega))); omega)) (fun hph => absurd hph (by omega)))
        exact W.zret (v := 1) hx hb hr rfl (fun t ht hW => ⟨⟨1, (V320, L), rfl, ⟨hMV320, agV320, rfl, (by decide), (Imp.mk (fun _ => mo338)), (Imp.mk (fun hp => absurd hp (by decide))), (Imp.mk (fun _ => (show (V320 5 6).toInt = (V 5 6).toInt ∧ (V320 67 gf).toInt = 4 ∧ (V320 68 gf).toInt = 0 from by first | exact om_a46bf36ddf1a gk gph pq322 pq323 pq324 | first | omega | ((try (have i_hop := Imp.go hop (by omega))); (try (have i_moa := Imp.go moa (by omega))); (try (have i_moa := Imp.go moa (by omega))); (try (have i_hop := Imp.go hop (by omega))); omega))))⟩, by rw [ht]; exact hP, va_K.moved hW.alike hK, hD⟩, hS.F ht⟩) hS.2.2 dX5_worksWith_125
      · skip
        have f341 : z313.toInt = 0 := b_eq rfl (by decide) c318
        refine lv_iload_n hx hb dX5_worksWith_113 rfl (lv_at hl 0 rfl) ?_
        refine lv_goto (tgt := 121) hx hb dX5_worksWith_114 (by decide) ?_
        refine va_putN (D := D) (ci := 4) (v := .int (V 48 (8200 * b + (Int32.toNatClampNeg (V 84 gf))))) (ty := tyX4 17) (fs := (xfFrame V316 gf)) (C := RX4) (T := TX4) (N := 19) hx hb hg inX4 tyX4 tyX4_ok nmX4 hown hK hP hD hS (336 + gf) (xgFrame hgf) rfl 17 (by decide) (hnw.use 1206 n1206 rfl) (fun _ h9 => h9) rfl (tyX4_ok 17 (by decide)) rfl rfl (Nat.le_of_ble_eq_true rfl) dX5_worksWith_121 (fun H locs hP hD hS => ?_)
        obtain ⟨V342, hV342⟩ : ∃ z, z = up2 V316 84 gf (V 48 (8200 * b + (Int32.toNatClampNeg (V 84 gf)))) := ⟨_, rfl⟩
        have ew343 : (xw ad kk V316 L Z).set (336 + gf) ((Z.fa gf), .inr (4, (xfFrame V316 gf).set 17 (.int (V 48 (8200 * b + (Int32.toNatClampNeg (V 84 gf))))))) = xw ad kk V342 L Z := by rw [hV342]; exact xpFrame_at hgf
        have hP : va_P D vwCl (xw ad kk V342 L Z) H := by rw [← ew343]; exact hP
        have hD : va_D A (xw ad kk V342 L Z) := by rw [← ew343]; exact hD
        have hMV342 : rgd bX V342 := hMV316.put hV342 (show 0 ≤ ((V 48 (8200 * b + (Int32.toNatClampNeg (V 84 gf))))).toInt ∧ ((V 48 (8200 * b + (Int32.toNatClampNeg (V 84 gf))))).toInt ≤ 2147483647 from by first | exact om_94b436eef8b0 hfw.2 hj0 | first | omega | ((try (have i_hop := Imp.go hop (by omega))); (try (have i_moa := Imp.go moa (by omega))); (try (have i_moa := Imp.go moa (by omega))); (try (have i_hop := Imp.go hop (by omega))); omega))
        have agV342 : agr [(5, 6), (5, 7), (5, 9), (5, 11), (5, 12)] [39, 68, 75, 77, 78, 84] V V342 := agV316.up hV342 rfl
        refine lv_iconst (v := 1) hx hb dX5_worksWith_124 (by decide) ?_
        have pq344 : (V342 5 6).toInt = ((V 5 6)).toInt := congrArg Int32.toInt ((up2_o hV342 (by decide)).trans ((ajV316 5 6 rfl).trans (up2_o hV221 (by decide))))
        have pq345 : (V342 67 gf).toInt = ((V 67 gf)).toInt := congrArg Int32.toInt ((up2_o hV342 (by decide)).trans ((ajV316 67 gf rfl).trans (up2_o hV221 (by decide))))
        have pq346 : (V342 68 gf).toInt = ((V 68 gf)).toInt := congrArg Int32.toInt ((up2_o hV342 (by decide)).trans ((ajV316 68 gf rfl).trans (up2_o hV221 (by decide))))
        have me347 : ME Va V342 gf := (ME.up (ME.tr (ME.up mV hV221 (Or.inl ⟨by decide, by decide, Nat.le_refl _⟩)) (ME.ag ajV316 (by decide))) hV342 (Or.inl ⟨by decide, by decide, Nat.le_refl _⟩))
        have pq348 : (V342 70 gf).toInt = ((V 70 gf)).toInt := congrArg Int32.toInt ((up2_o hV342 (by decide)).trans ((ajV316 70 gf rfl).trans (up2_o hV221 (by decide))))
        have pq349 : (V342 71 gf).toInt = ((V 71 gf)).toInt := congrArg Int32.toInt ((up2_o hV342 (by decide)).trans ((ajV316 71 gf rfl).trans (up2_o hV221 (by decide))))
        have pq350 : (V342 75 gf).toInt = ((V 75 gf)).toInt := congrArg Int32.toInt ((up2_o hV342 (by decide)).trans ((ajV316 75 gf rfl).trans (up2_o hV221 (by decide))))
        have pq351 : (V342 76 gf).toInt = ((V 76 gf)).toInt := congrArg Int32.toInt ((up2_o hV342 (by decide)).trans ((ajV316 76 gf rfl).trans (up2_o hV221 (by decide))))
        have pq352 : (V342 80 gf).toInt = ((V 80 gf)).toInt := congrArg Int32.toInt ((up2_o hV342 (by decide)).trans ((ajV316 80 gf rfl).trans (up2_o hV221 (by decide))))
        have pq353 : (V342 84 gf).toInt = ((V 48 (8200 * b + (Int32.toNatClampNeg (V 84 gf))))).toInt := congrArg Int32.toInt (up2_s hV342)
        have pq354 : (V342 5 8).toInt = ((V 5 8)).toInt := congrArg Int32.toInt ((up2_o hV342 (by decide)).trans ((ajV316 5 8 rfl).trans (up2_o hV221 (by decide))))
        have pq355 : (V342 5 9).toInt = ((V 5 9)).toInt := congrArg Int32.toInt ((up2_o hV342 (by decide)).trans ((ajV316 5 9 rfl).trans (up2_o hV221 (by decide))))
        have pq356 : (V342 3 13).toInt = ((V 3 13)).toInt := congrArg Int32.toInt ((up2_o hV342 (by decide)).trans ((ajV316 3 13 rfl).trans (up2_o hV221 (by decide))))
        have pq357 : (V342 43 (5 * b + 2)).toInt = ((V 43 (5 * b + 2))).toInt := congrArg Int32.toInt ((up2_o hV342 (by decide)).trans ((ajV316 43 (5 * b + 2) rfl).trans (up2_o hV221 (by decide))))
        have pq358 : (V342 42 b).toInt = ((V 42 b)).toInt := congrArg Int32.toInt ((up2_o hV342 (by decide)).trans ((ajV316 42 b rfl).trans (up2_o hV221 (by decide))))
        have pq359 : (V342 41 b).toInt = ((V 41 b)).toInt := congrArg Int32.toInt ((up2_o hV342 (by decide)).trans ((ajV316 41 b rfl).trans (up2_o hV221 (by decide))))
        have me362 : ME V V342 0 := (ME.up (ME.tr (ME.up ME.rf hV221 (Or.inl ⟨by decide, by decide, by first | omega | ((try (have i_hop := Imp.go hop (by omega))); (try (have i_moa := Imp.go moa (by omega))); (try (have i_moa := Imp.go moa (by omega))); (try (have i_hop := Imp.go hop (by omega))); omega)⟩)) (ME.ag ajV316 (by decide))) hV342 (Or.inl ⟨by decide, by decide, by first | omega | ((try (have i_hop := Imp.go hop (by omega))); (try (have i_moa := Imp.go moa (by omega))); (try (have i_moa := Imp.go moa (by omega))); (try (have i_hop := Imp.go hop (by omega))); omega)⟩))
        have af361 : (V342 42 b).toInt ≤ (V342 84 gf).toInt ∨ (bdp V342 b (V342 84 gf).toInt.toNat).1 = true := by rw [(up2_s hV342), me362.1.bd, me362.1 42 b (by decide) (by decide)]; exact atw
        have mo360 : MO V342 Z b gf True True True := MO.ch mo me347 ((up2_o hV342 (by decide)).trans ((ajV316 67 gf rfl).trans ((up2_o hV221 (by decide)).trans ea67.symm))) ((up2_o hV342 (by decide)).trans ((ajV316 80 gf rfl).trans ((up2_o hV221 (by decide)).trans ea80.symm))) (fun _ => Or.inl (by omega)) (fun x h => FK.k4 (by first | omega | ((try (have i_hop := Imp.go hop (by omega))); (try (have i_moa := Imp.go moa (by omega))); (try (have i_moa := Imp.go moa (by omega))); (try (have i_hop := Imp.go hop (by omega))); omega)) (by first | omega | ((try (have i_hop := Imp.go hop (by omega))); (try (have i_moa := Imp.go moa (by omega))); (try (have i_moa := Imp.go moa (by omega))); (try (have i_hop := Imp.go hop (by omega))); omega)) (by first | omega | ((try (have i_hop := Imp.go hop (by omega))); (try (have i_moa := Imp.go moa (by omega))); (try (have i_moa := Imp.go moa (by omega))); (try (have i_hop := Imp.go hop (by omega))); omega)) af361 (by first | omega | ((try (have i_hop := Imp.go hop (by omega))); (try (have i_moa := Imp.go moa (by omega))); (try (have i_moa := Imp.go moa (by omega))); (try (have i_hop := Imp.go hop (by omega))); omega)) (fun hph => absurd hph (by omega)))
        exact W.zret (v := 1) hx hb hr rfl (fun t ht hW => ⟨⟨1, (V342, L), rfl, ⟨hMV342, agV342, rfl, (by decide), (Imp.mk (fun _ => mo360)), (Imp.mk (fun hp => absurd hp (by decide))), (Imp.mk (fun _ => (show (V342 5 6).toInt = (V 5 6).toInt ∧ (V342 67 gf).toInt = 4 ∧ (V342 68 gf).toInt = 0 from by first | exact om_a46bf36ddf1a gk gph pq344 pq345 pq346 | first | omega | ((try (have i_hop := Imp.go hop (by omega))); (try (have i_moa := Imp.go moa (by omega))); (try (have i_moa := Imp.go moa (by omega))); (try (have i_hop := Imp.go hop (by omega))); omega))))⟩, by rw [ht]; exact hP, va_K.moved hW.alike hK, hD⟩, hS.F ht⟩) hS.2.2 dX5_worksWith_125
    have gq312 : p1.toInt ≠ 13 := b_neq rfl (by decide) q312
    by_cases q363 : p1 = 14
    · refine g_top (v := 14) q363 ?_
      have fq363 : p1.toInt = 14 := b_eq rfl (by decide) q363
      refine lv_tableIn (x := 14) (off := 56) (tgt := 98) hx hb dX5_worksWith_42 (by decide) (by decide) (by decide) (by decide) ?_
      have hjm := hop1.1.2.2 (by omega)
      have hfw := i_full (V 48 (8200 * b + (Int32.toNatClampNeg (V 84 gf))))
      have hj0 : 0 ≤ (V 48 (8200 * b + (Int32.toNatClampNeg (V 84 gf)))).toInt := by rcases hjm with h | h <;> omega
      have atw : (V 42 b).toInt ≤ (V 48 (8200 * b + (Int32.toNatClampNeg (V 84 gf)))).toInt ∨ (bdp V b (V 48 (8200 * b + (Int32.toNatClampNeg (V 84 gf)))).toInt.toNat).1 = true := hjm.elim (fun h => Or.inl (by omega)) (fun h => Or.inr h.2.2)
      refine lv_aload_n hx hb dX5_worksWith_98 rfl (lv_at hl 2 rfl) ?_
      refine lv_iload_n hx hb dX5_worksWith_99 rfl (lv_at hl 0 rfl) ?_
      refine va_putN (D := D) (ci := 4) (v := .int (V 48 (8200 * b + (Int32.toNatClampNeg (V 84 gf))))) (ty := tyX4 17) (fs := (xfFrame V221 gf)) (C := RX4) (T := TX4) (N := 19) hx hb hg inX4 tyX4 tyX4_ok nmX4 hown hK hP hD hS (336 + gf) (xgFrame hgf) rfl 17 (by decide) (hnw.use 1206 n1206 rfl) (fun _ h9 => h9) rfl (tyX4_ok 17 (by decide)) rfl rfl (Nat.le_of_ble_eq_true rfl) dX5_worksWith_100 (fun H locs hP hD hS => ?_)
      obtain ⟨V364, hV364⟩ : ∃ z, z = up2 V221 84 gf (V 48 (8200 * b + (Int32.toNatClampNeg (V 84 gf)))) := ⟨_, rfl⟩
      have ew365 : (xw ad kk V221 L Z).set (336 + gf) ((Z.fa gf), .inr (4, (xfFrame V221 gf).set 17 (.int (V 48 (8200 * b + (Int32.toNatClampNeg (V 84 gf))))))) = xw ad kk V364 L Z := by rw [hV364]; exact xpFrame_at hgf
      have hP : va_P D vwCl (xw ad kk V364 L Z) H := by rw [← ew365]; exact hP
      have hD : va_D A (xw ad kk V364 L Z) := by rw [← ew365]; exact hD
      have hMV364 : rgd bX V364 := hMV221.put hV364 (show 0 ≤ ((V 48 (8200 * b + (Int32.toNatClampNeg (V 84 gf))))).toInt ∧ ((V 48 (8200 * b + (Int32.toNatClampNeg (V 84 gf))))).toInt ≤ 2147483647 from by first | exact om_94b436eef8b0 hfw.2 hj0 | first | omega | ((try (have i_hop := Imp.go hop (by omega))); (try (have i_moa := Imp.go moa (by omega))); (try (have i_moa := Imp.go moa (by omega))); (try (have i_hop := Imp.go hop (by omega))); omega))
      have agV364 : agr [(5, 6), (5, 7), (5, 9), (5, 11), (5, 12)] [39, 68, 75, 77, 78, 84] V V364 := agV221.up hV364 rfl
      refine lv_iconst (v := 1) hx hb dX5_worksWith_103 (by decide) ?_
      have pq366 : (V364 5 6).toInt = ((V 5 6)).toInt := congrArg Int32.toInt ((up2_o hV364 (by decide)).trans (up2_o hV221 (by decide)))
      have pq367 : (V364 67 gf).toInt = ((V 67 gf)).toInt := congrArg Int32.toInt ((up2_o hV364 (by decide)).trans (up2_o hV221 (by decide)))
      have pq368 : (V364 68 gf).toInt = ((V 68 gf)).toInt := congrArg Int32.toInt ((up2_o hV364 (by decide)).trans (up2_o hV221 (by decide)))
      have me369 : ME Va V364 gf := (ME.up (ME.up mV hV221 (Or.inl ⟨by decide, by decide, Nat.le_refl _⟩)) hV364 (Or.inl ⟨by decide, by decide, Nat.le_refl _⟩))
      have pq370 : (V364 70 gf).toInt = ((V 70 gf)).toInt := congrArg Int32.toInt ((up2_o hV364 (by decide)).trans (up2_o hV221 (by decide)))
      have pq371 : (V364 71 gf).toInt = ((V 71 gf)).toInt := congrArg Int32.toInt ((up2_o hV364 (by decide)).trans (up2_o hV221 (by decide)))
      have pq372 : (V364 75 gf).toInt = ((V 75 gf)).toInt := congrArg Int32.toInt ((up2_o hV364 (by decide)).trans (up2_o hV221 (by decide)))
      have pq373 : (V364 76 gf).toInt = ((V 76 gf)).toInt := congrArg Int32.toInt ((up2_o hV364 (by decide)).trans (up2_o hV221 (by decide)))
      have pq374 : (V364 80 gf).toInt = ((V 80 gf)).toInt := congrArg Int32.toInt ((up2_o hV364 (by decide)).trans (up2_o hV221 (by decide)))
      have pq375 : (V364 84 gf).toInt = ((V 48 (8200 * b + (Int32.toNatClampNeg (V 84 gf))))).toInt := congrArg Int32.toInt (up2_s hV364)
      have pq376 : (V364 5 8).toInt = ((V 5 8)).toInt := congrArg Int32.toInt ((up2_o hV364 (by decide)).trans (up2_o hV221 (by decide)))
      have pq377 : (V364 5 9).toInt = ((V 5 9)).toInt := congrArg Int32.toInt ((up2_o hV364 (by decide)).trans (up2_o hV221 (by decide)))
      have pq378 : (V364 3 13).toInt = ((V 3 13)).toInt := congrArg Int32.toInt ((up2_o hV364 (by decide)).trans (up2_o hV221 (by decide)))
      have pq379 : (V364 43 (5 * b + 2)).toInt = ((V 43 (5 * b + 2))).toInt := congrArg Int32.toInt ((up2_o hV364 (by decide)).trans (up2_o hV221 (by decide)))
      have pq380 : (V364 42 b).toInt = ((V 42 b)).toInt := congrArg Int32.toInt ((up2_o hV364 (by decide)).trans (up2_o hV221 (by decide)))
      have pq381 : (V364 41 b).toInt = ((V 41 b)).toInt := congrArg Int32.toInt ((up2_o hV364 (by decide)).trans (up2_o hV221 (by decide)))
      have me384 : ME V V364 0 := (ME.up (ME.up ME.rf hV221 (Or.inl ⟨by decide, by decide, by first | omega | ((try (have i_hop := Imp.go hop (by omega))); (try (have i_moa := Imp.go moa (by omega))); (try (have i_moa := Imp.go moa (by omega))); (try (have i_hop := Imp.go hop (by omega))); omega)⟩)) hV364 (Or.inl ⟨by decide, by decide, by first | omega | ((try (have i_hop := Imp.go hop (by omega))); (try (have i_moa := Imp.go moa (by omega))); (try (have i_moa := Imp.go moa (by omega))); (try (have i_hop := Imp.go hop (by omega))); omega)⟩))
      have af383 : (V364 42 b).toInt ≤ (V364 84 gf).toInt ∨ (bdp V364 b (V364 84 gf).toInt.toNat).1 = true := by rw [(up2_s hV364), me384.1.bd, me384.1 42 b (by decide) (by decide)]; exact atw
      have mo382 : MO V364 Z b gf True True True := MO.ch mo me369 ((up2_o hV364 (by decide)).trans ((up2_o hV221 (by decide)).trans ea67.symm)) ((up2_o hV364 (by decide)).trans ((up2_o hV221 (by decide)).trans ea80.symm)) (fun _ => Or.inl (by omega)) (fun x h => FK.k4 (by first | omega | ((try (have i_hop := Imp.go hop (by omega))); (try (have i_moa := Imp.go moa (by omega))); (try (have i_moa := Imp.go moa (by omega))); (try (have i_hop := Imp.go hop (by omega))); omega)) (by first | omega | ((try (have i_hop := Imp.go hop (by omega))); (try (have i_moa := Imp.go moa (by omega))); (try (have i_moa := Imp.go moa (by omega))); (try (have i_hop := Imp.go hop (by omega))); omega)) (by first | omega | ((try (have i_hop := Imp.go hop (by omega))); (try (have i_moa := Imp.go moa (by omega))); (try (have i_moa := Imp.go moa (by omega))); (try (have i_hop := Imp.go hop (by omega))); omega)) af383 (by first | omega | ((try (have i_hop := Imp.go hop (by omega))); (try (have i_moa := Imp.go moa (by omega))); (try (have i_moa := Imp.go moa (by omega))); (try (have i_hop := Imp.go hop (by omega))); omega)) (fun hph => absurd hph (by omega)))
      exact W.zret (v := 1) hx hb hr rfl (fun t ht hW => ⟨⟨1, (V364, L), rfl, ⟨hMV364, agV364, rfl, (by decide), (Imp.mk (fun _ => mo382)), (Imp.mk (fun hp => absurd hp (by decide))), (Imp.mk (fun _ => (show (V364 5 6).toInt = (V 5 6).toInt ∧ (V364 67 gf).toInt = 4 ∧ (V364 68 gf).toInt = 0 from by first | exact om_a46bf36ddf1a gk gph pq366 pq367 pq368 | first | omega | ((try (have i_hop := Imp.go hop (by omega))); (try (have i_moa := Imp.go moa (by omega))); (try (have i_moa := Imp.go moa (by omega))); (try (have i_hop := Imp.go hop (by omega))); omega))))⟩, by rw [ht]; exact hP, va_K.moved hW.alike hK, hD⟩, hS.F ht⟩) hS.2.2 dX5_worksWith_104
    have gq363 : p1.toInt ≠ 14 := b_neq rfl (by decide) q363
    refine lv_tableOut (x := p1) (tgt := 139) hx hb dX5_worksWith_42 (by omega) (by decide) ?_
    have hwo := hop1.1.2.1 (by omega)
    refine lv_aload_n hx hb dX5_worksWith_139 rfl (lv_at hl 2 rfl) ?_
    refine lv_iload_n hx hb dX5_worksWith_140 rfl (lv_at hl 0 rfl) ?_
    refine lv_bipush (v := 20) hx hb dX5_worksWith_141 (by decide) ?_
    refine lv_idiv hx hb dX5_worksWith_143 (by decide) ?_
    refine lv_topi (fun z385 ez385 => ?_)
    have hz385 : z385.toInt = ((V 48 (8200 * b + (Int32.toNatClampNeg (V 84 gf))))).toInt / 20 := idiv_l ez385 (by decide) (by first | omega | ((try (have i_hop := Imp.go hop (by omega))); (try (have i_moa := Imp.go moa (by omega))); (try (have i_moa := Imp.go moa (by omega))); (try (have i_hop := Imp.go hop (by omega))); omega)) (by decide)
    refine va_putN (D := D) (ci := 4) (v := .int z385) (ty := tyX4 8) (fs := (xfFrame V221 gf)) (C := RX4) (T := TX4) (N := 19) hx hb hg inX4 tyX4 tyX4_ok nmX4 hown hK hP hD hS (336 + gf) (xgFrame hgf) rfl 8 (by decide) (hnw.use 1197 n1197 rfl) (fun _ h9 => h9) rfl (tyX4_ok 8 (by decide)) rfl rfl (Nat.le_of_ble_eq_true rfl) dX5_worksWith_144 (fun H locs hP hD hS => ?_)
    obtain ⟨V386, hV386⟩ : ∃ z, z = up2 V221 75 gf z385 := ⟨_, rfl⟩
    have ew387 : (xw ad kk V221 L Z).set (336 + gf) ((Z.fa gf), .inr (4, (xfFrame V221 gf).set 8 (.int z385))) = xw ad kk V386 L Z := by rw [hV386]; exact xpFrame_position hgf
    have hP : va_P D vwCl (xw ad kk V386 L Z) H := by rw [← ew387]; exact hP
    have hD : va_D A (xw ad kk V386 L Z) := by rw [← ew387]; exact hD
    have hMV386 : rgd bX V386 := hMV221.put hV386 (show 0 ≤ z385.toInt ∧ z385.toInt ≤ 12 from by first | omega | ((try (have i_hop := Imp.go hop (by omega))); (try (have i_moa := Imp.go moa (by omega))); (try (have i_moa := Imp.go moa (by omega))); (try (have i_hop := Imp.go hop (by omega))); omega))
    have agV386 : agr [(5, 6), (5, 7), (5, 9), (5, 11), (5, 12)] [39, 68, 75, 77, 78, 84] V V386 := agV221.up hV386 rfl
    refine lv_aload_n hx hb dX5_worksWith_147 rfl (lv_at hl 2 rfl) ?_
    refine lv_iload_n hx hb dX5_worksWith_148 rfl (lv_at hl 0 rfl) ?_
    refine lv_bipush (v := 20) hx hb dX5_worksWith_149 (by decide) ?_
    refine lv_irem hx hb dX5_worksWith_151 (by decide) ?_
    refine lv_topi (fun z388 ez388 => ?_)
    have hz388 : 0 ≤ z388.toInt ∧ z388.toInt < 20 := irem_l ez388 (by decide) (by first | omega | ((try (have i_hop := Imp.go hop (by omega))); (try (have i_moa := Imp.go moa (by omega))); (try (have i_moa := Imp.go moa (by omega))); (try (have i_hop := Imp.go hop (by omega))); omega)) (by decide)
    refine va_putN (D := D) (ci := 4) (v := .int z388) (ty := tyX4 10) (fs := (xfFrame V386 gf)) (C := RX4) (T := TX4) (N := 19) hx hb hg inX4 tyX4 tyX4_ok nmX4 hown hK hP hD hS (336 + gf) (xgFrame hgf) rfl 10 (by decide) (hnw.use 1199 n1199 rfl) (fun _ h9 => h9) rfl (tyX4_ok 10 (by decide)) rfl rfl (Nat.le_of_ble_eq_true rfl) dX5_worksWith_152 (fun H locs hP hD hS => ?_)
    obtain ⟨V389, hV389⟩ : ∃ z, z = up2 V386 77 gf z388 := ⟨_, rfl⟩
    have ew390 : (xw ad kk V386 L Z).set (336 + gf) ((Z.fa gf), .inr (4, (xfFrame V386 gf).set 10 (.int z388))) = xw ad kk V389 L Z := by rw [hV389]; exact xpFrame_target hgf
    have hP : va_P D vwCl (xw ad kk V389 L Z) H := by rw [← ew390]; exact hP
    have hD : va_D A (xw ad kk V389 L Z) := by rw [← ew390]; exact hD
    have hMV389 : rgd bX V389 := hMV386.put hV389 (show 0 ≤ z388.toInt ∧ z388.toInt ≤ 19 from by first | exact om_ee71bf412996 hz388.1 hz388.2 | first | omega | ((try (have i_hop := Imp.go hop (by omega))); (try (have i_moa := Imp.go moa (by omega))); (try (have i_moa := Imp.go moa (by omega))); (try (have i_hop := Imp.go hop (by omega))); omega))
    have agV389 : agr [(5, 6), (5, 7), (5, 9), (5, 11), (5, 12)] [39, 68, 75, 77, 78, 84] V V389 := agV386.up hV389 rfl
    refine lv_aload_n hx hb dX5_worksWith_155 rfl (lv_at hl 2 rfl) ?_
    refine lv_aload_n hx hb dX5_worksWith_156 rfl (lv_at hl 1 rfl) ?_
    refine gA_int (gA_runV (As := []) (rest := [.ref (Z.fa gf)]) (ci := 5) (q0 := 5) hx hb hml hown hg hP hD hK hS hA hnw hgk (x_mpull l D ks H.size ad kk V389 L Z  hMV389 ) w1482 w1484 w76 w171 w1485 rfl xgMachine hdV_yX5_pull ⟨Nat.le_of_ble_eq_true rfl, Nat.le_of_ble_eq_true rfl⟩ rfl hl.1 rfl (Nat.le_of_ble_eq_true rfl) dX5_worksWith_157 ⟨Nat.le_of_ble_eq_true rfl, Nat.le_of_ble_eq_true rfl⟩) hP hD hK hS hA (fun z391 u392 H locs w393 hP hD hK hS => ?_)
    obtain ⟨V394, L395⟩ := u392
    obtain ⟨hMV394, ajV394, axL395⟩ := w393
    have axL395 : L = L395 := Eq.symm axL395
    subst axL395
    have hP : va_P D vwCl (xw ad kk V394 L Z) H := hP
    have hD : va_D A (xw ad kk V394 L Z) := hD
    have hMV394 : rgd bX V394 := hMV394
    have ajV394 : agr [(5, 7)] [] V389 V394 := ajV394
    have agV394 : agr [(5, 6), (5, 7), (5, 9), (5, 11), (5, 12)] [39, 68, 75, 77, 78, 84] V V394 := agV389.tr ajV394 (by decide) (by decide)
    refine va_putN (D := D) (ci := 4) (v := .int z391) (ty := tyX4 11) (fs := (xfFrame V394 gf)) (C := RX4) (T := TX4) (N := 19) hx hb hg inX4 tyX4 tyX4_ok nmX4 hown hK hP hD hS (336 + gf) (xgFrame hgf) rfl 11 (by decide) (hnw.use 1200 n1200 rfl) (fun _ h9 => h9) rfl (tyX4_ok 11 (by decide)) rfl rfl (Nat.le_of_ble_eq_true rfl) dX5_worksWith_160 (fun H locs hP hD hS => ?_)
    obtain ⟨V396, hV396⟩ : ∃ z, z = up2 V394 78 gf z391 := ⟨_, rfl⟩
    have ew397 : (xw ad kk V394 L Z).set (336 + gf) ((Z.fa gf), .inr (4, (xfFrame V394 gf).set 11 (.int z391))) = xw ad kk V396 L Z := by rw [hV396]; exact xpFrame_given hgf
    have hP : va_P D vwCl (xw ad kk V396 L Z) H := by rw [← ew397]; exact hP
    have hD : va_D A (xw ad kk V396 L Z) := by rw [← ew397]; exact hD
    have hMV396 : rgd bX V396 := hMV394.put hV396 (i_full _)
    have agV396 : agr [(5, 6), (5, 7), (5, 9), (5, 11), (5, 12)] [39, 68, 75, 77, 78, 84] V V396 := agV394.up hV396 rfl
    refine lv_aload_n hx hb dX5_worksWith_163 rfl (lv_at hl 2 rfl) ?_
    refine lv_bipush (v := 6) hx hb dX5_worksWith_164 (by decide) ?_
    refine va_putN (D := D) (ci := 4) (v := .int 6) (ty := tyX4 1) (fs := (xfFrame V396 gf)) (C := RX4) (T := TX4) (N := 19) hx hb hg inX4 tyX4 tyX4_ok nmX4 hown hK hP hD hS (336 + gf) (xgFrame hgf) rfl 1 (by decide) (hnw.use 1190 n1190 rfl) (fun _ h9 => h9) rfl (tyX4_ok 1 (by decide)) rfl rfl (Nat.le_of_ble_eq_true rfl) dX5_worksWith_166 (fun H locs hP hD hS => ?_)
    obtain ⟨V398, hV398⟩ : ∃ z, z = up2 V396 68 gf 6 := ⟨_, rfl⟩
    have ew399 : (xw ad kk V396 L Z).set (336 + gf) ((Z.fa gf), .inr (4, (xfFrame V396 gf).set 1 (.int 6))) = xw ad kk V398 L Z := by rw [hV398]; exact xpFrame_phase hgf
    have hP : va_P D vwCl (xw ad kk V398 L Z) H := by rw [← ew399]; exact hP
    have hD : va_D A (xw ad kk V398 L Z) := by rw [← ew399]; exact hD
    have hMV398 : rgd bX V398 := hMV396.put hV398 (i_full _)
    have agV398 : agr [(5, 6), (5, 7), (5, 9), (5, 11), (5, 12)] [39, 68, 75, 77, 78, 84] V V398 := agV396.up hV398 rfl
    refine lv_iconst (v := 0) hx hb dX5_worksWith_169 (by decide) ?_
    have pq400 : (V398 5 6).toInt = ((V 5 6)).toInt := congrArg Int32.toInt ((up2_o hV398 (by decide)).trans ((up2_o hV396 (by decide)).trans ((ajV394 5 6 rfl).trans ((up2_o hV389 (by decide)).trans ((up2_o hV386 (by decide)).trans (up2_o hV221 (by decide)))))))
    have pq401 : (V398 67 gf).toInt = ((V 67 gf)).toInt := congrArg Int32.toInt ((up2_o hV398 (by decide)).trans ((up2_o hV396 (by decide)).trans ((ajV394 67 gf rfl).trans ((up2_o hV389 (by decide)).trans ((up2_o hV386 (by decide)).trans (up2_o hV221 (by decide)))))))
    have pq402 : (V398 68 gf).toInt = 6 := (congrArg Int32.toInt (up2_s hV398)).trans (by decide)
    have me403 : ME Va V398 gf := (ME.up (ME.up (ME.tr (ME.up (ME.up (ME.up mV hV221 (Or.inl ⟨by decide, by decide, Nat.le_refl _⟩)) hV386 (Or.inl ⟨by decide, by decide, Nat.le_refl _⟩)) hV389 (Or.inl ⟨by decide, by decide, Nat.le_refl _⟩)) (ME.ag ajV394 (by decide))) hV396 (Or.inl ⟨by decide, by decide, Nat.le_refl _⟩)) hV398 (Or.inl ⟨by decide, by decide, Nat.le_refl _⟩))
    have pq404 : (V398 70 gf).toInt = ((V 70 gf)).toInt := congrArg Int32.toInt ((up2_o hV398 (by decide)).trans ((up2_o hV396 (by decide)).trans ((ajV394 70 gf rfl).trans ((up2_o hV389 (by decide)).trans ((up2_o hV386 (by decide)).trans (up2_o hV221 (by decide)))))))
    have pq405 : (V398 71 gf).toInt = ((V 71 gf)).toInt := congrArg Int32.toInt ((up2_o hV398 (by decide)).trans ((up2_o hV396 (by decide)).trans ((ajV394 71 gf rfl).trans ((up2_o hV389 (by decide)).trans ((up2_o hV386 (by decide)).trans (up2_o hV221 (by decide)))))))
    have pq406 : (V398 75 gf).toInt = z385.toInt := congrArg Int32.toInt ((up2_o hV398 (by decide)).trans ((up2_o hV396 (by decide)).trans ((ajV394 75 gf rfl).trans ((up2_o hV389 (by decide)).trans (up2_s hV386)))))
    have pq407 : (V398 76 gf).toInt = ((V 76 gf)).toInt := congrArg Int32.toInt ((up2_o hV398 (by decide)).trans ((up2_o hV396 (by decide)).trans ((ajV394 76 gf rfl).trans ((up2_o hV389 (by decide)).trans ((up2_o hV386 (by decide)).trans (up2_o hV221 (by decide)))))))
    have pq408 : (V398 80 gf).toInt = ((V 80 gf)).toInt := congrArg Int32.toInt ((up2_o hV398 (by decide)).trans ((up2_o hV396 (by decide)).trans ((ajV394 80 gf rfl).trans ((up2_o hV389 (by decide)).trans ((up2_o hV386 (by decide)).trans (up2_o hV221 (by decide)))))))
    have pq409 : (V398 84 gf).toInt = z220.toInt := congrArg Int32.toInt ((up2_o hV398 (by decide)).trans ((up2_o hV396 (by decide)).trans ((ajV394 84 gf rfl).trans ((up2_o hV389 (by decide)).trans ((up2_o hV386 (by decide)).trans (up2_s hV221))))))
    have pq410 : (V398 5 8).toInt = ((V 5 8)).toInt := congrArg Int32.toInt ((up2_o hV398 (by decide)).trans ((up2_o hV396 (by decide)).trans ((ajV394 5 8 rfl).trans ((up2_o hV389 (by decide)).trans ((up2_o hV386 (by decide)).trans (up2_o hV221 (by decide)))))))
    have pq411 : (V398 5 9).toInt = ((V 5 9)).toInt := congrArg Int32.toInt ((up2_o hV398 (by decide)).trans ((up2_o hV396 (by decide)).trans ((ajV394 5 9 rfl).trans ((up2_o hV389 (by decide)).trans ((up2_o hV386 (by decide)).trans (up2_o hV221 (by decide)))))))
    have pq412 : (V398 3 13).toInt = ((V 3 13)).toInt := congrArg Int32.toInt ((up2_o hV398 (by decide)).trans ((up2_o hV396 (by decide)).trans ((ajV394 3 13 rfl).trans ((up2_o hV389 (by decide)).trans ((up2_o hV386 (by decide)).trans (up2_o hV221 (by decide)))))))
    have pq413 : (V398 43 (5 * b + 2)).toInt = ((V 43 (5 * b + 2))).toInt := congrArg Int32.toInt ((up2_o hV398 (by decide)).trans ((up2_o hV396 (by decide)).trans ((ajV394 43 (5 * b + 2) rfl).trans ((up2_o hV389 (by decide)).trans ((up2_o hV386 (by decide)).trans (up2_o hV221 (by decide)))))))
    have pq414 : (V398 42 b).toInt = ((V 42 b)).toInt := congrArg Int32.toInt ((up2_o hV398 (by decide)).trans ((up2_o hV396 (by decide)).trans ((ajV394 42 b rfl).trans ((up2_o hV389 (by decide)).trans ((up2_o hV386 (by decide)).trans (up2_o hV221 (by decide)))))))
    have pq415 : (V398 41 b).toInt = ((V 41 b)).toInt := congrArg Int32.toInt ((up2_o hV398 (by decide)).trans ((up2_o hV396 (by decide)).trans ((ajV394 41 b rfl).trans ((up2_o hV389 (by decide)).trans ((up2_o hV386 (by decide)).trans (up2_o hV221 (by decide)))))))
    have me418 : ME V V398 0 := (ME.up (ME.up (ME.tr (ME.up (ME.up (ME.up ME.rf hV221 (Or.inl ⟨by decide, by decide, by first | omega | ((try (have i_hop := Imp.go hop (by omega))); (try (have i_moa := Imp.go moa (by omega))); (try (have i_moa := Imp.go moa (by omega))); (try (have i_hop := Imp.go hop (by omega))); omega)⟩)) hV386 (Or.inl ⟨by decide, by decide, by first | omega | ((try (have i_hop := Imp.go hop (by omega))); (try (have i_moa := Imp.go moa (by omega))); (try (have i_moa := Imp.go moa (by omega))); (try (have i_hop := Imp.go hop (by omega))); omega)⟩)) hV389 (Or.inl ⟨by decide, by decide, by first | omega | ((try (have i_hop := Imp.go hop (by omega))); (try (have i_moa := Imp.go moa (by omega))); (try (have i_moa := Imp.go moa (by omega))); (try (have i_hop := Imp.go hop (by omega))); omega)⟩)) (ME.ag ajV394 (by decide))) hV396 (Or.inl ⟨by decide, by decide, by first | omega | ((try (have i_hop := Imp.go hop (by omega))); (try (have i_moa := Imp.go moa (by omega))); (try (have i_moa := Imp.go moa (by omega))); (try (have i_hop := Imp.go hop (by omega))); omega)⟩)) hV398 (Or.inl ⟨by decide, by decide, by first | omega | ((try (have i_hop := Imp.go hop (by omega))); (try (have i_moa := Imp.go moa (by omega))); (try (have i_moa := Imp.go moa (by omega))); (try (have i_hop := Imp.go hop (by omega))); omega)⟩))
    have ep419 : V398 84 gf = z220 := ((up2_o hV398 (by decide)).trans ((up2_o hV396 (by decide)).trans ((ajV394 84 gf rfl).trans ((up2_o hV389 (by decide)).trans ((up2_o hV386 (by decide)).trans (up2_s hV221))))))
    have af417 : (V398 42 b).toInt ≤ (V398 84 gf).toInt ∨ (bdp V398 b (V398 84 gf).toInt.toNat).1 = true := by rw [ep419, me418.1.bd, me418.1 42 b (by decide) (by decide)]; exact atn
    have mo416 : MO V398 Z b gf True (QN V398 b) (QN V398 b) := MO.ch mo me403 ((up2_o hV398 (by decide)).trans ((up2_o hV396 (by decide)).trans ((ajV394 67 gf rfl).trans ((up2_o hV389 (by decide)).trans ((up2_o hV386 (by decide)).trans ((up2_o hV221 (by decide)).trans ea67.symm)))))) ((up2_o hV398 (by decide)).trans ((up2_o hV396 (by decide)).trans ((ajV394 80 gf rfl).trans ((up2_o hV389 (by decide)).trans ((up2_o hV386 (by decide)).trans ((up2_o hV221 (by decide)).trans ea80.symm)))))) (fun _ => Or.inl (by omega)) (fun x h => FK.k4 (by first | omega | ((try (have i_hop := Imp.go hop (by omega))); (try (have i_moa := Imp.go moa (by omega))); (try (have i_moa := Imp.go moa (by omega))); (try (have i_hop := Imp.go hop (by omega))); omega)) (by first | omega | ((try (have i_hop := Imp.go hop (by omega))); (try (have i_moa := Imp.go moa (by omega))); (try (have i_moa := Imp.go moa (by omega))); (try (have i_hop := Imp.go hop (by omega))); omega)) (by first | omega | ((try (have i_hop := Imp.go hop (by omega))); (try (have i_moa := Imp.go moa (by omega))); (try (have i_moa := Imp.go moa (by omega))); (try (have i_hop := Imp.go hop (by omega))); omega)) af417 (by first | omega | ((try (have i_hop := Imp.go hop (by omega))); (try (have i_moa := Imp.go moa (by omega))); (try (have i_moa := Imp.go moa (by omega))); (try (have i_hop := Imp.go hop (by omega))); omega)) (fun hph => absurd hph (by omega)))
    have rp420 : MJ V398 Z b := MO.mj mo416 (by (first | exact om_c09d41618ed8 hgf | omega)) (by (first | exact om_82fa09255765 gd pq400 | omega)) id id Or.inr
    exact W.zret (v := 0) hx hb hr rfl (fun t ht hW => ⟨⟨0, (V398, L), rfl, ⟨hMV398, agV398, rfl, (by decide), (Imp.mk (fun hp => absurd hp (by decide))), (Imp.mk (fun _ => rp420)), (Imp.mk (fun hp => absurd hp (by decide)))⟩, by rw [ht]; exact hP, va_K.moved hW.alike hK, hD⟩, hS.F ht⟩) hS.2.2 dX5_worksWith_170
end
section
theorem w1492 : Cond.code yX5_worksAlone cX5_worksAlone 3 (some .boolean) ∈ GW := gw_k tk9_6 137 (rfl) rfl
theorem w1489 : Cond.methodLink RX5 341 yX5_worksAlone ∈ GW := gw_k tk9_6 134 (by decide +kernel) rfl
theorem w1491 : Cond.instanceMethod yX5_worksAlone ∈ GW := gw_k tk9_6 136 (by decide +kernel) rfl
theorem w77 : Cond.selects RX5 yX5_worksAlone yX5_worksAlone ∈ GW := gw_mem 77 (by decide +kernel) rfl
theorem hdV_yX5_worksAlone : yX5_worksAlone.cls = RX5 ∧ yX5_worksAlone.cls ≠ "java/lang/invoke/MethodHandle" ∧ yX5_worksAlone.cls ≠ "java/lang/invoke/VarHandle" ∧ (parseMethodDescriptor yX5_worksAlone.desc).map (fun d => d.parameters.length) = some 2 := by decide +kernel
theorem w1488 : Cond.code yX5_compute cX5_compute 3 (some .int) ∈ GW := gw_k tk9_6 133 (rfl) rfl
theorem w1486 : Cond.methodLink RX5 334 yX5_compute ∈ GW := gw_k tk9_6 131 (by decide +kernel) rfl
theorem w1487 : Cond.static yX5_compute ∈ GW := gw_k tk9_6 132 (by decide +kernel) rfl
theorem hdS_yX5_compute : yX5_compute.cls ≠ "java/lang/invoke/MethodHandle" ∧ yX5_compute.cls ≠ "java/lang/invoke/VarHandle" ∧ (parseMethodDescriptor yX5_compute.desc).map (fun d => d.parameters.length) = some 3 := by decide +kernel
theorem w1481 : Cond.code yX5_worksWith cX5_worksWith 4 (some .boolean) ∈ GW := gw_k tk9_6 126 (rfl) rfl
theorem w1478 : Cond.methodLink RX5 326 yX5_worksWith ∈ GW := gw_k tk9_6 123 (by decide +kernel) rfl
theorem w1480 : Cond.instanceMethod yX5_worksWith ∈ GW := gw_k tk9_6 125 (by decide +kernel) rfl
theorem w75 : Cond.selects RX5 yX5_worksWith yX5_worksWith ∈ GW := gw_mem 75 (by decide +kernel) rfl
theorem hdV_yX5_worksWith : yX5_worksWith.cls = RX5 ∧ yX5_worksWith.cls ≠ "java/lang/invoke/MethodHandle" ∧ yX5_worksWith.cls ≠ "java/lang/invoke/VarHandle" ∧ (parseMethodDescriptor yX5_worksWith.desc).map (fun d => d.parameters.length) = some 2 := by decide +kernel
theorem dk9_dX5_worksAlone_0_0 : dOk cX5_worksAlone [(0, .iload_n 2, 1), (1, .tableswitch 88 1 4 #[31, 47, 57, 68], 31), (32, .aload_n 0, 1), (33, .invokevirtual 207, 3), (36, .ifCond .ne 10, 3), (46, .iconst 1, 1), (47, .ireturn, 1), (39, .aload_n 0, 1), (40, .aload_n 1, 1), (41, .invokevirtual 310, 3), (44, .iconst 0, 1), (45, .ireturn, 1), (48, .aload_n 0, 1), (49, .aload_n 1, 1), (50, .getfield 135, 3), (53, .invokevirtual 338, 3), (56, .iconst 1, 1), (57, .ireturn, 1), (58, .aload_n 0, 1), (59, .aload_n 0, 1), (60, .invokevirtual 330, 3), (63, .ineg, 1), (64, .invokevirtual 338, 3), (67, .iconst 1, 1)] = true ∧ dOk cX5_worksAlone [(68, .ireturn, 1), (69, .aload_n 1, 1), (70, .iconst 1, 1), (71, .putfield 94, 3), (74, .aload_n 0, 1), (75, .aload_n 1, 1), (76, .aload_n 1, 1), (77, .getfield 109, 3), (80, .aload_n 0, 1), (81, .invokevirtual 330, 3), (84, .invokevirtual 272, 3), (87, .iconst 0, 1), (88, .ireturn, 1), (89, .aload_n 0, 1), (90, .aload_n 0, 1), (91, .invokevirtual 330, 3), (94, .invokevirtual 203, 3), (97, .aload_n 0, 1), (98, .aload_n 1, 1), (99, .invokevirtual 310, 3), (102, .iconst 0, 1), (103, .ireturn, 1)] = true := by decide +kernel
theorem dX5_worksAlone_0 : decode cX5_worksAlone 0 = .ok (.iload_n 2, 1) := dr9 dk9_dX5_worksAlone_0_0.1 0 (0, .iload_n 2, 1) rfl
theorem dX5_worksAlone_1 : decode cX5_worksAlone 1 = .ok (.tableswitch 88 1 4 #[31, 47, 57, 68], 31) := dr9 dk9_dX5_worksAlone_0_0.1 1 (1, .tableswitch 88 1 4 #[31, 47, 57, 68], 31) rfl
theorem dX5_worksAlone_32 : decode cX5_worksAlone 32 = .ok (.aload_n 0, 1) := dr9 dk9_dX5_worksAlone_0_0.1 2 (32, .aload_n 0, 1) rfl
theorem dX5_worksAlone_33 : decode cX5_worksAlone 33 = .ok (.invokevirtual 207, 3) := dr9 dk9_dX5_worksAlone_0_0.1 3 (33, .invokevirtual 207, 3) rfl
theorem dX5_worksAlone_36 : decode cX5_worksAlone 36 = .ok (.ifCond .ne 10, 3) := dr9 dk9_dX5_worksAlone_0_0.1 4 (36, .ifCond .ne 10, 3) rfl
theorem dX5_worksAlone_46 : decode cX5_worksAlone 46 = .ok (.iconst 1, 1) := dr9 dk9_dX5_worksAlone_0_0.1 5 (46, .iconst 1, 1) rfl
theorem dX5_worksAlone_47 : decode cX5_worksAlone 47 = .ok (.ireturn, 1) := dr9 dk9_dX5_worksAlone_0_0.1 6 (47, .ireturn, 1) rfl
theorem dX5_worksAlone_39 : decode cX5_worksAlone 39 = .ok (.aload_n 0, 1) := dr9 dk9_dX5_worksAlone_0_0.1 7 (39, .aload_n 0, 1) rfl
theorem dX5_worksAlone_40 : decode cX5_worksAlone 40 = .ok (.aload_n 1, 1) := dr9 dk9_dX5_worksAlone_0_0.1 8 (40, .aload_n 1, 1) rfl
theorem dX5_worksAlone_41 : decode cX5_worksAlone 41 = .ok (.invokevirtual 310, 3) := dr9 dk9_dX5_worksAlone_0_0.1 9 (41, .invokevirtual 310, 3) rfl
theorem dX5_worksAlone_44 : decode cX5_worksAlone 44 = .ok (.iconst 0, 1) := dr9 dk9_dX5_worksAlone_0_0.1 10 (44, .iconst 0, 1) rfl
theorem dX5_worksAlone_45 : decode cX5_worksAlone 45 = .ok (.ireturn, 1) := dr9 dk9_dX5_worksAlone_0_0.1 11 (45, .ireturn, 1) rfl
theorem dX5_worksAlone_48 : decode cX5_worksAlone 48 = .ok (.aload_n 0, 1) := dr9 dk9_dX5_worksAlone_0_0.1 12 (48, .aload_n 0, 1) rfl
theorem dX5_worksAlone_49 : decode cX5_worksAlone 49 = .ok (.aload_n 1, 1) := dr9 dk9_dX5_worksAlone_0_0.1 13 (49, .aload_n 1, 1) rfl
theorem dX5_worksAlone_50 : decode cX5_worksAlone 50 = .ok (.getfield 135, 3) := dr9 dk9_dX5_worksAlone_0_0.1 14 (50, .getfield 135, 3) rfl
theorem dX5_worksAlone_53 : decode cX5_worksAlone 53 = .ok (.invokevirtual 338, 3) := dr9 dk9_dX5_worksAlone_0_0.1 15 (53, .invokevirtual 338, 3) rfl
theorem dX5_worksAlone_56 : decode cX5_worksAlone 56 = .ok (.iconst 1, 1) := dr9 dk9_dX5_worksAlone_0_0.1 16 (56, .iconst 1, 1) rfl
theorem dX5_worksAlone_57 : decode cX5_worksAlone 57 = .ok (.ireturn, 1) := dr9 dk9_dX5_worksAlone_0_0.1 17 (57, .ireturn, 1) rfl
theorem dX5_worksAlone_58 : decode cX5_worksAlone 58 = .ok (.aload_n 0, 1) := dr9 dk9_dX5_worksAlone_0_0.1 18 (58, .aload_n 0, 1) rfl
theorem dX5_worksAlone_59 : decode cX5_worksAlone 59 = .ok (.aload_n 0, 1) := dr9 dk9_dX5_worksAlone_0_0.1 19 (59, .aload_n 0, 1) rfl
theorem dX5_worksAlone_60 : decode cX5_worksAlone 60 = .ok (.invokevirtual 330, 3) := dr9 dk9_dX5_worksAlone_0_0.1 20 (60, .invokevirtual 330, 3) rfl
theorem dX5_worksAlone_63 : decode cX5_worksAlone 63 = .ok (.ineg, 1) := dr9 dk9_dX5_worksAlone_0_0.1 21 (63, .ineg, 1) rfl
theorem dX5_worksAlone_64 : decode cX5_worksAlone 64 = .ok (.invokevirtual 338, 3) := dr9 dk9_dX5_worksAlone_0_0.1 22 (64, .invokevirtual 338, 3) rfl
theorem dX5_worksAlone_67 : decode cX5_worksAlone 67 = .ok (.iconst 1, 1) := dr9 dk9_dX5_worksAlone_0_0.1 23 (67, .iconst 1, 1) rfl
theorem dX5_worksAlone_68 : decode cX5_worksAlone 68 = .ok (.ireturn, 1) := dr9 dk9_dX5_worksAlone_0_0.2 0 (68, .ireturn, 1) rfl
theorem dX5_worksAlone_69 : decode cX5_worksAlone 69 = .ok (.aload_n 1, 1) := dr9 dk9_dX5_worksAlone_0_0.2 1 (69, .aload_n 1, 1) rfl
theorem dX5_worksAlone_70 : decode cX5_worksAlone 70 = .ok (.iconst 1, 1) := dr9 dk9_dX5_worksAlone_0_0.2 2 (70, .iconst 1, 1) rfl
theorem dX5_worksAlone_71 : decode cX5_worksAlone 71 = .ok (.putfield 94, 3) := dr9 dk9_dX5_worksAlone_0_0.2 3 (71, .putfield 94, 3) rfl
theorem dX5_worksAlone_74 : decode cX5_worksAlone 74 = .ok (.aload_n 0, 1) := dr9 dk9_dX5_worksAlone_0_0.2 4 (74, .aload_n 0, 1) rfl
theorem dX5_worksAlone_75 : decode cX5_worksAlone 75 = .ok (.aload_n 1, 1) := dr9 dk9_dX5_worksAlone_0_0.2 5 (75, .aload_n 1, 1) rfl
theorem dX5_worksAlone_76 : decode cX5_worksAlone 76 = .ok (.aload_n 1, 1) := dr9 dk9_dX5_worksAlone_0_0.2 6 (76, .aload_n 1, 1) rfl
theorem dX5_worksAlone_77 : decode cX5_worksAlone 77 = .ok (.getfield 109, 3) := dr9 dk9_dX5_worksAlone_0_0.2 7 (77, .getfield 109, 3) rfl
theorem dX5_worksAlone_80 : decode cX5_worksAlone 80 = .ok (.aload_n 0, 1) := dr9 dk9_dX5_worksAlone_0_0.2 8 (80, .aload_n 0, 1) rfl
theorem dX5_worksAlone_81 : decode cX5_worksAlone 81 = .ok (.invokevirtual 330, 3) := dr9 dk9_dX5_worksAlone_0_0.2 9 (81, .invokevirtual 330, 3) rfl
theorem dX5_worksAlone_84 : decode cX5_worksAlone 84 = .ok (.invokevirtual 272, 3) := dr9 dk9_dX5_worksAlone_0_0.2 10 (84, .invokevirtual 272, 3) rfl
theorem dX5_worksAlone_87 : decode cX5_worksAlone 87 = .ok (.iconst 0, 1) := dr9 dk9_dX5_worksAlone_0_0.2 11 (87, .iconst 0, 1) rfl
theorem dX5_worksAlone_88 : decode cX5_worksAlone 88 = .ok (.ireturn, 1) := dr9 dk9_dX5_worksAlone_0_0.2 12 (88, .ireturn, 1) rfl
theorem dX5_worksAlone_89 : decode cX5_worksAlone 89 = .ok (.aload_n 0, 1) := dr9 dk9_dX5_worksAlone_0_0.2 13 (89, .aload_n 0, 1) rfl
theorem dX5_worksAlone_90 : decode cX5_worksAlone 90 = .ok (.aload_n 0, 1) := dr9 dk9_dX5_worksAlone_0_0.2 14 (90, .aload_n 0, 1) rfl
theorem dX5_worksAlone_91 : decode cX5_worksAlone 91 = .ok (.invokevirtual 330, 3) := dr9 dk9_dX5_worksAlone_0_0.2 15 (91, .invokevirtual 330, 3) rfl
theorem dX5_worksAlone_94 : decode cX5_worksAlone 94 = .ok (.invokevirtual 203, 3) := dr9 dk9_dX5_worksAlone_0_0.2 16 (94, .invokevirtual 203, 3) rfl
theorem dX5_worksAlone_97 : decode cX5_worksAlone 97 = .ok (.aload_n 0, 1) := dr9 dk9_dX5_worksAlone_0_0.2 17 (97, .aload_n 0, 1) rfl
theorem dX5_worksAlone_98 : decode cX5_worksAlone 98 = .ok (.aload_n 1, 1) := dr9 dk9_dX5_worksAlone_0_0.2 18 (98, .aload_n 1, 1) rfl
theorem dX5_worksAlone_99 : decode cX5_worksAlone 99 = .ok (.invokevirtual 310, 3) := dr9 dk9_dX5_worksAlone_0_0.2 19 (99, .invokevirtual 310, 3) rfl
theorem dX5_worksAlone_102 : decode cX5_worksAlone 102 = .ok (.iconst 0, 1) := dr9 dk9_dX5_worksAlone_0_0.2 20 (102, .iconst 0, 1) rfl
theorem dX5_worksAlone_103 : decode cX5_worksAlone 103 = .ok (.ireturn, 1) := dr9 dk9_dX5_worksAlone_0_0.2 21 (103, .ireturn, 1) rfl
theorem dk9_dX5_work_0_0 : dOk cX5_work [(0, .iconst 1, 1), (1, .istore_n 2, 1), (2, .iconst 0, 1), (3, .istore_n 3, 1), (4, .iload_n 2, 1), (5, .ifCond .eq 114, 3), (8, .iload_n 3, 1), (9, .aload_n 0, 1), (10, .getfield 24, 3), (13, .getfield 320, 3), (16, .if_icmp .ge 103, 3), (119, .return_, 1), (19, .aload_n 1, 1), (20, .getfield 141, 3), (23, .aload_n 0, 1), (24, .getfield 24, 3), (27, .getfield 320, 3), (30, .if_icmp .ge 89, 3), (33, .aload_n 0, 1), (34, .getfield 24, 3), (37, .getfield 323, 3), (40, .aload_n 1, 1), (41, .getfield 141, 3), (44, .iaload, 1)] = true ∧ dOk cX5_work [(45, .istore 4, 2), (47, .aload_n 1, 1), (48, .dup, 1), (49, .getfield 141, 3), (52, .iconst 1, 1), (53, .iadd, 1), (54, .putfield 141, 3), (57, .iload 4, 2), (59, .bipush 10, 2), (61, .if_icmp .lt 14, 3), (75, .iload 4, 2), (77, .iconst 5, 1), (78, .if_icmp .lt 27, 3), (105, .aload_n 0, 1), (106, .aload_n 1, 1), (107, .iload 4, 2), (109, .invokevirtual 341, 3), (112, .istore_n 2, 1), (113, .iinc 3 1, 3), (116, .goto (-112), 3), (81, .aload_n 0, 1), (82, .invokevirtual 330, 3), (85, .istore 5, 2), (87, .aload_n 0, 1)] = true ∧ dOk cX5_work [(88, .iload 4, 2), (90, .aload_n 0, 1), (91, .invokevirtual 330, 3), (94, .iload 5, 2), (96, .invokestatic 334, 3), (99, .invokevirtual 338, 3), (102, .goto 11, 3), (64, .aload_n 0, 1), (65, .aload_n 1, 1), (66, .iload 4, 2), (68, .invokevirtual 326, 3), (71, .istore_n 2, 1), (72, .goto 41, 3)] = true := by decide +kernel
theorem dX5_work_0 : decode cX5_work 0 = .ok (.iconst 1, 1) := dr9 dk9_dX5_work_0_0.1 0 (0, .iconst 1, 1) rfl
theorem dX5_work_1 : decode cX5_work 1 = .ok (.istore_n 2, 1) := dr9 dk9_dX5_work_0_0.1 1 (1, .istore_n 2, 1) rfl
theorem dX5_work_2 : decode cX5_work 2 = .ok (.iconst 0, 1) := dr9 dk9_dX5_work_0_0.1 2 (2, .iconst 0, 1) rfl
theorem dX5_work_3 : decode cX5_work 3 = .ok (.istore_n 3, 1) := dr9 dk9_dX5_work_0_0.1 3 (3, .istore_n 3, 1) rfl
theorem dX5_work_4 : decode cX5_work 4 = .ok (.iload_n 2, 1) := dr9 dk9_dX5_work_0_0.1 4 (4, .iload_n 2, 1) rfl
theorem dX5_work_5 : decode cX5_work 5 = .ok (.ifCond .eq 114, 3) := dr9 dk9_dX5_work_0_0.1 5 (5, .ifCond .eq 114, 3) rfl
theorem dX5_work_8 : decode cX5_work 8 = .ok (.iload_n 3, 1) := dr9 dk9_dX5_work_0_0.1 6 (8, .iload_n 3, 1) rfl
theorem dX5_work_9 : decode cX5_work 9 = .ok (.aload_n 0, 1) := dr9 dk9_dX5_work_0_0.1 7 (9, .aload_n 0, 1) rfl
theorem dX5_work_10 : decode cX5_work 10 = .ok (.getfield 24, 3) := dr9 dk9_dX5_work_0_0.1 8 (10, .getfield 24, 3) rfl
theorem dX5_work_13 : decode cX5_work 13 = .ok (.getfield 320, 3) := dr9 dk9_dX5_work_0_0.1 9 (13, .getfield 320, 3) rfl
theorem dX5_work_16 : decode cX5_work 16 = .ok (.if_icmp .ge 103, 3) := dr9 dk9_dX5_work_0_0.1 10 (16, .if_icmp .ge 103, 3) rfl
theorem dX5_work_119 : decode cX5_work 119 = .ok (.return_, 1) := dr9 dk9_dX5_work_0_0.1 11 (119, .return_, 1) rfl
theorem dX5_work_19 : decode cX5_work 19 = .ok (.aload_n 1, 1) := dr9 dk9_dX5_work_0_0.1 12 (19, .aload_n 1, 1) rfl
theorem dX5_work_20 : decode cX5_work 20 = .ok (.getfield 141, 3) := dr9 dk9_dX5_work_0_0.1 13 (20, .getfield 141, 3) rfl
theorem dX5_work_23 : decode cX5_work 23 = .ok (.aload_n 0, 1) := dr9 dk9_dX5_work_0_0.1 14 (23, .aload_n 0, 1) rfl
theorem dX5_work_24 : decode cX5_work 24 = .ok (.getfield 24, 3) := dr9 dk9_dX5_work_0_0.1 15 (24, .getfield 24, 3) rfl
theorem dX5_work_27 : decode cX5_work 27 = .ok (.getfield 320, 3) := dr9 dk9_dX5_work_0_0.1 16 (27, .getfield 320, 3) rfl
theorem dX5_work_30 : decode cX5_work 30 = .ok (.if_icmp .ge 89, 3) := dr9 dk9_dX5_work_0_0.1 17 (30, .if_icmp .ge 89, 3) rfl
theorem dX5_work_33 : decode cX5_work 33 = .ok (.aload_n 0, 1) := dr9 dk9_dX5_work_0_0.1 18 (33, .aload_n 0, 1) rfl
theorem dX5_work_34 : decode cX5_work 34 = .ok (.getfield 24, 3) := dr9 dk9_dX5_work_0_0.1 19 (34, .getfield 24, 3) rfl
theorem dX5_work_37 : decode cX5_work 37 = .ok (.getfield 323, 3) := dr9 dk9_dX5_work_0_0.1 20 (37, .getfield 323, 3) rfl
theorem dX5_work_40 : decode cX5_work 40 = .ok (.aload_n 1, 1) := dr9 dk9_dX5_work_0_0.1 21 (40, .aload_n 1, 1) rfl
theorem dX5_work_41 : decode cX5_work 41 = .ok (.getfield 141, 3) := dr9 dk9_dX5_work_0_0.1 22 (41, .getfield 141, 3) rfl
theorem dX5_work_44 : decode cX5_work 44 = .ok (.iaload, 1) := dr9 dk9_dX5_work_0_0.1 23 (44, .iaload, 1) rfl
theorem dX5_work_45 : decode cX5_work 45 = .ok (.istore 4, 2) := dr9 dk9_dX5_work_0_0.2.1 0 (45, .istore 4, 2) rfl
theorem dX5_work_47 : decode cX5_work 47 = .ok (.aload_n 1, 1) := dr9 dk9_dX5_work_0_0.2.1 1 (47, .aload_n 1, 1) rfl
theorem dX5_work_48 : decode cX5_work 48 = .ok (.dup, 1) := dr9 dk9_dX5_work_0_0.2.1 2 (48, .dup, 1) rfl
theorem dX5_work_49 : decode cX5_work 49 = .ok (.getfield 141, 3) := dr9 dk9_dX5_work_0_0.2.1 3 (49, .getfield 141, 3) rfl
theorem dX5_work_52 : decode cX5_work 52 = .ok (.iconst 1, 1) := dr9 dk9_dX5_work_0_0.2.1 4 (52, .iconst 1, 1) rfl
theorem dX5_work_53 : decode cX5_work 53 = .ok (.iadd, 1) := dr9 dk9_dX5_work_0_0.2.1 5 (53, .iadd, 1) rfl
theorem dX5_work_54 : decode cX5_work 54 = .ok (.putfield 141, 3) := dr9 dk9_dX5_work_0_0.2.1 6 (54, .putfield 141, 3) rfl
theorem dX5_work_57 : decode cX5_work 57 = .ok (.iload 4, 2) := dr9 dk9_dX5_work_0_0.2.1 7 (57, .iload 4, 2) rfl
theorem dX5_work_59 : decode cX5_work 59 = .ok (.bipush 10, 2) := dr9 dk9_dX5_work_0_0.2.1 8 (59, .bipush 10, 2) rfl
theorem dX5_work_61 : decode cX5_work 61 = .ok (.if_icmp .lt 14, 3) := dr9 dk9_dX5_work_0_0.2.1 9 (61, .if_icmp .lt 14, 3) rfl
theorem dX5_work_75 : decode cX5_work 75 = .ok (.iload 4, 2) := dr9 dk9_dX5_work_0_0.2.1 10 (75, .iload 4, 2) rfl
theorem dX5_work_77 : decode cX5_work 77 = .ok (.iconst 5, 1) := dr9 dk9_dX5_work_0_0.2.1 11 (77, .iconst 5, 1) rfl
theorem dX5_work_78 : decode cX5_work 78 = .ok (.if_icmp .lt 27, 3) := dr9 dk9_dX5_work_0_0.2.1 12 (78, .if_icmp .lt 27, 3) rfl
theorem dX5_work_105 : decode cX5_work 105 = .ok (.aload_n 0, 1) := dr9 dk9_dX5_work_0_0.2.1 13 (105, .aload_n 0, 1) rfl
theorem dX5_work_106 : decode cX5_work 106 = .ok (.aload_n 1, 1) := dr9 dk9_dX5_work_0_0.2.1 14 (106, .aload_n 1, 1) rfl
theorem dX5_work_107 : decode cX5_work 107 = .ok (.iload 4, 2) := dr9 dk9_dX5_work_0_0.2.1 15 (107, .iload 4, 2) rfl
theorem dX5_work_109 : decode cX5_work 109 = .ok (.invokevirtual 341, 3) := dr9 dk9_dX5_work_0_0.2.1 16 (109, .invokevirtual 341, 3) rfl
theorem dX5_work_112 : decode cX5_work 112 = .ok (.istore_n 2, 1) := dr9 dk9_dX5_work_0_0.2.1 17 (112, .istore_n 2, 1) rfl
theorem dX5_work_113 : decode cX5_work 113 = .ok (.iinc 3 1, 3) := dr9 dk9_dX5_work_0_0.2.1 18 (113, .iinc 3 1, 3) rfl
theorem dX5_work_116 : decode cX5_work 116 = .ok (.goto (-112), 3) := dr9 dk9_dX5_work_0_0.2.1 19 (116, .goto (-112), 3) rfl
theorem dX5_work_81 : decode cX5_work 81 = .ok (.aload_n 0, 1) := dr9 dk9_dX5_work_0_0.2.1 20 (81, .aload_n 0, 1) rfl
theorem dX5_work_82 : decode cX5_work 82 = .ok (.invokevirtual 330, 3) := dr9 dk9_dX5_work_0_0.2.1 21 (82, .invokevirtual 330, 3) rfl
theorem dX5_work_85 : decode cX5_work 85 = .ok (.istore 5, 2) := dr9 dk9_dX5_work_0_0.2.1 22 (85, .istore 5, 2) rfl
theorem dX5_work_87 : decode cX5_work 87 = .ok (.aload_n 0, 1) := dr9 dk9_dX5_work_0_0.2.1 23 (87, .aload_n 0, 1) rfl
theorem dX5_work_88 : decode cX5_work 88 = .ok (.iload 4, 2) := dr9 dk9_dX5_work_0_0.2.2 0 (88, .iload 4, 2) rfl
theorem dX5_work_90 : decode cX5_work 90 = .ok (.aload_n 0, 1) := dr9 dk9_dX5_work_0_0.2.2 1 (90, .aload_n 0, 1) rfl
theorem dX5_work_91 : decode cX5_work 91 = .ok (.invokevirtual 330, 3) := dr9 dk9_dX5_work_0_0.2.2 2 (91, .invokevirtual 330, 3) rfl
theorem dX5_work_94 : decode cX5_work 94 = .ok (.iload 5, 2) := dr9 dk9_dX5_work_0_0.2.2 3 (94, .iload 5, 2) rfl
theorem dX5_work_96 : decode cX5_work 96 = .ok (.invokestatic 334, 3) := dr9 dk9_dX5_work_0_0.2.2 4 (96, .invokestatic 334, 3) rfl
theorem dX5_work_99 : decode cX5_work 99 = .ok (.invokevirtual 338, 3) := dr9 dk9_dX5_work_0_0.2.2 5 (99, .invokevirtual 338, 3) rfl
theorem dX5_work_102 : decode cX5_work 102 = .ok (.goto 11, 3) := dr9 dk9_dX5_work_0_0.2.2 6 (102, .goto 11, 3) rfl
theorem dX5_work_64 : decode cX5_work 64 = .ok (.aload_n 0, 1) := dr9 dk9_dX5_work_0_0.2.2 7 (64, .aload_n 0, 1) rfl
theorem dX5_work_65 : decode cX5_work 65 = .ok (.aload_n 1, 1) := dr9 dk9_dX5_work_0_0.2.2 8 (65, .aload_n 1, 1) rfl
theorem dX5_work_66 : decode cX5_work 66 = .ok (.iload 4, 2) := dr9 dk9_dX5_work_0_0.2.2 9 (66, .iload 4, 2) rfl
theorem dX5_work_68 : decode cX5_work 68 = .ok (.invokevirtual 326, 3) := dr9 dk9_dX5_work_0_0.2.2 10 (68, .invokevirtual 326, 3) rfl
theorem dX5_work_71 : decode cX5_work 71 = .ok (.istore_n 2, 1) := dr9 dk9_dX5_work_0_0.2.2 11 (71, .istore_n 2, 1) rfl
theorem dX5_work_72 : decode cX5_work 72 = .ok (.goto 41, 3) := dr9 dk9_dX5_work_0_0.2.2 12 (72, .goto 41, 3) rfl
abbrev r_x_worksAlone (Z : XZ) : Room := { frames := 4, cells := zcc Z, slots := zss Z, locals := 90 }
abbrev q_x_worksAlone (D : va_G) (ks : KS) (ad : Nat → Nat) (kk : Nat → ClassId) (V : Vf) (L : Lf) (Z : XZ) (p1 : Int32) (b : Nat) (gf : Nat) (A : Nat → Prop) : Array Value → State → Outcome → State → Prop := qZi D (fun (r : Int32) (u : Vf × Lf × XZ) => rgd bX u.1 ∧ agr [(5, 6), (5, 7), (5, 9), (5, 10), (5, 13), (5, 14)] [39, 67, 68, 69, 70, 71, 72, 73, 74, 75, 76, 77, 78, 79, 80, 81, 82, 83, 84, 85] V u.1 ∧ u.2.1 = L ∧ ZL Z u.2.2 ∧ (0 ≤ r.toInt ∧ r.toInt ≤ 1) ∧ (Imp (r.toInt = 1) (MO u.1 u.2.2 b gf True True True)) ∧ (Imp (r.toInt = 0) (MJ u.1 u.2.2 b)) ∧ (Imp (r.toInt = 1) ((u.1 5 6).toInt = (V 5 6).toInt ∧ (u.1 67 gf).toInt = 4 ∧ (u.1 68 gf).toInt = 0)) ∧ (Imp (r.toInt = 1) (u.2.2 = Z))) (fun u => xw ad kk u.1 u.2.1 u.2.2) (fun u => xty kk u.2.2) (fun u => zcc Z - zcc u.2.2) (fun u => zss Z - zss u.2.2) A
set_option maxHeartbeats 4000000 in
set_option maxRecDepth 100000 in
theorem x_worksAlone (l : Launch) (D : va_G) (ks : KS) (sz : Nat) (ad : Nat → Nat) (kk : Nat → ClassId) (V : Vf) (L : Lf) (Z : XZ) (p1 : Int32) (b : Nat) (gf : Nat) (hMV : rgd bX V) (hb2 : b < 2) (hgf : gf < Z.nf) (mo : MO V Z b gf True True True) (gd : (gf : Int) + 1 = (V 5 6).toInt) (gk : (V 67 gf).toInt = 4) (gph : (V 68 gf).toInt = 0)  : Met l yX5_worksAlone (Cond.code yX5_worksAlone cX5_worksAlone 3 (some .boolean) :: GW) (r_x_worksAlone Z) (va_Pc [.ref (ad 5), .ref (Z.fa gf), .int p1] (gp D ks (xw ad kk V L Z) (xty kk Z) sz)) (q_x_worksAlone D ks ad kk V L Z p1 b gf (va_A (xw ad kk V L Z) sz)) (zcc Z) (zss Z) (va_A (xw ad kk V L Z) sz) := by
  refine g_met (q_x_worksAlone D ks ad kk V L Z p1 b gf) (by decide) (Nat.le_of_ble_eq_true rfl) ?_
  intro p e s m below meth c A ls H locs hx hb hr hml hown hg hlocks hin hnw hgk hP hK hD hS hA hl
  have hown : s.vm.findClass RX5 = some m.cls := hown
  have hl : lv_has ls 3 [(0, .ref (ad 5)), (1, .ref (Z.fa gf)), (2, .int p1)] := hl
  have hP : va_P D vwCl (xw ad kk V L Z) H := hP
  have hD : va_D A (xw ad kk V L Z) := hD
  have hK : va_K D vwCl (xty kk Z) s := hK
  have agV : agr [(5, 6), (5, 7), (5, 9), (5, 10), (5, 13), (5, 14)] [39, 67, 68, 69, 70, 71, 72, 73, 74, 75, 76, 77, 78, 79, 80, 81, 82, 83, 84, 85] V V := agr.rf
  have zoZ : ZL Z Z := ZL.rf
  refine W.know (fun ka kb => ?_)
  refine W.tight (k := zcc Z - zcc Z) (n := zss Z - zss Z) (by omega) (by omega) ?_
  have r1 : 0 ≤ ((V 5 6)).toInt ∧ ((V 5 6)).toInt ≤ 400 := hMV 5 6
  have kdp := i_clamp (x := V 5 6) rfl (by (first | exact om_c66f1b494bd9 gd | omega))
  have hdn : (gf : Int) + 1 ≤ (Z.nf : Int) := by (first | exact om_29efded833ec hgf | omega)
  have mup := MO.up mo
  have msz := mup.1
  have mbk := mup.2.2.2.1
  obtain ⟨xk, fk⟩ := MO.fk mo
  have r2 : (-1) ≤ ((V 71 gf)).toInt ∧ ((V 71 gf)).toInt ≤ 23 := hMV 71 gf
  have r3 : 0 ≤ ((V 75 gf)).toInt ∧ ((V 75 gf)).toInt ≤ 12 := hMV 75 gf
  have r4 : 0 ≤ ((V 80 gf)).toInt ∧ ((V 80 gf)).toInt ≤ 300 := hMV 80 gf
  have r5 : 0 ≤ ((V 84 gf)).toInt ∧ ((V 84 gf)).toInt ≤ 2147483647 := hMV 84 gf
  have r6 : 0 ≤ ((V 5 8)).toInt ∧ ((V 5 8)).toInt ≤ 300 := hMV 5 8
  have r7 : 0 ≤ ((V 5 9)).toInt ∧ ((V 5 9)).toInt ≤ 3 := hMV 5 9
  have r8 : 0 ≤ ((V 3 13)).toInt ∧ ((V 3 13)).toInt ≤ 300 := hMV 3 13
  have r9 : 0 ≤ ((V 43 (5 * b + 2))).toInt ∧ ((V 43 (5 * b + 2))).toInt ≤ ((xcap (5 * b + 2) : Nat) : Int) := hMV 43 (5 * b + 2)
  have r10 : xcap (5 * b + 2) = 24 := xcap_2
  have r11 : 0 ≤ ((V 41 b)).toInt ∧ ((V 41 b)).toInt ≤ 12 := hMV 41 b
  have r12 : 0 ≤ ((V 42 b)).toInt ∧ ((V 42 b)).toInt ≤ 8200 := hMV 42 b
  have fc := fk.1 (by omega)
  have fo := fk.2.1 (by omega) (by omega)
  have ft := fk.2.2.1 (by omega)
  have fq := fk.2.2.2.1 (by omega)
  refine lv_iload_n hx hb dX5_worksAlone_0 rfl (lv_at hl 2 rfl) ?_
  by_cases q13 : p1 = 1
  · refine g_top (v := 1) q13 ?_
    have fq13 : p1.toInt = 1 := b_eq rfl (by decide) q13
    refine lv_tableIn (x := 1) (off := 31) (tgt := 32) hx hb dX5_worksAlone_1 (by decide) (by decide) (by decide) (by decide) ?_
    refine lv_aload_n hx hb dX5_worksAlone_32 rfl (lv_at hl 0 rfl) ?_
    refine gA_int (gA_runV (As := []) (rest := []) (ci := 5) (q0 := 5) hx hb hml hown hg hP hD hK hS hA hnw hgk (x_takesStep l D ks H.size ad kk V L Z  hMV ) w1281 w1283 w48 w171 w1284 rfl xgMachine hdV_yX5_takesStep ⟨Nat.le_of_ble_eq_true rfl, Nat.le_of_ble_eq_true rfl⟩ rfl hl.1 rfl (Nat.le_of_ble_eq_true rfl) dX5_worksAlone_33 ⟨z0, z0⟩) hP hD hK hS hA (fun z14 u15 H locs w16 hP hD hK hS => ?_)
    obtain ⟨V19, L20⟩ := u15
    obtain ⟨hMV19, ajV19, axL20, rgz14, t17, t18⟩ := w16
    have axL20 : L = L20 := Eq.symm axL20
    subst axL20
    have hP : va_P D vwCl (xw ad kk V19 L Z) H := hP
    have hD : va_D A (xw ad kk V19 L Z) := hD
    have hMV19 : rgd bX V19 := hMV19
    have ajV19 : agr [(5, 9), (5, 13), (5, 14)] [] V V19 := ajV19
    have agV19 : agr [(5, 6), (5, 7), (5, 9), (5, 10), (5, 13), (5, 14)] [39, 67, 68, 69, 70, 71, 72, 73, 74, 75, 76, 77, 78, 79, 80, 81, 82, 83, 84, 85] V V19 := agV.tr ajV19 (by decide) (by decide)
    have rgz14 : 0 ≤ z14.toInt ∧ z14.toInt ≤ 1 := rgz14
    have t17 : Imp (z14.toInt = 0) ((V19 5 9).toInt = 3) := t17
    have t18 : Imp (z14.toInt = 1) ((V19 5 9).toInt = (V 5 9).toInt) := t18
    have r21 : 0 ≤ ((V19 5 9)).toInt ∧ ((V19 5 9)).toInt ≤ 3 := hMV19 5 9
    refine lv_if_ne (tgt := 46) hx hb dX5_worksAlone_36 (by decide) (fun c22 => ?_) (fun c22 => ?_)
    · skip
      have f23 : z14.toInt ≠ 0 := b_neq rfl (by decide) c22
      refine lv_iconst (v := 1) hx hb dX5_worksAlone_46 (by decide) ?_
      have pq24 : (V19 5 6).toInt = ((V 5 6)).toInt := congrArg Int32.toInt (ajV19 5 6 rfl)
      have pq25 : (V19 67 gf).toInt = ((V 67 gf)).toInt := congrArg Int32.toInt (ajV19 67 gf rfl)
      have pq26 : (V19 68 gf).toInt = ((V 68 gf)).toInt := congrArg Int32.toInt (ajV19 68 gf rfl)
      have me27 : ME V V19 gf := (ME.tr ME.rf (ME.ag ajV19 (by decide)))
      have pq28 : (V19 70 gf).toInt = ((V 70 gf)).toInt := congrArg Int32.toInt (ajV19 70 gf rfl)
      have pq29 : (V19 71 gf).toInt = ((V 71 gf)).toInt := congrArg Int32.toInt (ajV19 71 gf rfl)
      have pq30 : (V19 75 gf).toInt = ((V 75 gf)).toInt := congrArg Int32.toInt (ajV19 75 gf rfl)
      have pq31 : (V19 76 gf).toInt = ((V 76 gf)).toInt := congrArg Int32.toInt (ajV19 76 gf rfl)
      have pq32 : (V19 80 gf).toInt = ((V 80 gf)).toInt := congrArg Int32.toInt (ajV19 80 gf rfl)
      have pq33 : (V19 84 gf).toInt = ((V 84 gf)).toInt := congrArg Int32.toInt (ajV19 84 gf rfl)
      have pq34 : (V19 5 8).toInt = ((V 5 8)).toInt := congrArg Int32.toInt (ajV19 5 8 rfl)
      have pq35 : (V19 3 13).toInt = ((V 3 13)).toInt := congrArg Int32.toInt (ajV19 3 13 rfl)
      have pq36 : (V19 43 (5 * b + 2)).toInt = ((V 43 (5 * b + 2))).toInt := congrArg Int32.toInt (ajV19 43 (5 * b + 2) rfl)
      have pq37 : (V19 42 b).toInt = ((V 42 b)).toInt := congrArg Int32.toInt (ajV19 42 b rfl)
      have pq38 : (V19 41 b).toInt = ((V 41 b)).toInt := congrArg Int32.toInt (ajV19 41 b rfl)
      have af40 : (V19 42 b).toInt ≤ (V19 84 gf).toInt ∨ (bdp V19 b (V19 84 gf).toInt.toNat).1 = true := by rw [(ajV19 84 gf rfl), me27.1.bd, me27.1 42 b (by decide) (by decide)]; exact ft
      have mo39 : MO V19 Z b gf True True True := MO.ch mo me27 (ajV19 67 gf rfl) (ajV19 80 gf rfl) (fun _ => Or.inl (by omega)) (fun x h => FK.k4 (by first | omega | ((try (have i_t18 := Imp.go t18 (by omega))); (try (have i_t17 := Imp.go t17 (by omega))); (try (have i_t17 := Imp.go t17 (by omega))); (try (have i_t18 := Imp.go t18 (by omega))); omega)) (by first | omega | ((try (have i_t18 := Imp.go t18 (by omega))); (try (have i_t17 := Imp.go t17 (by omega))); (try (have i_t17 := Imp.go t17 (by omega))); (try (have i_t18 := Imp.go t18 (by omega))); omega)) (by first | omega | ((try (have i_t18 := Imp.go t18 (by omega))); (try (have i_t17 := Imp.go t17 (by omega))); (try (have i_t17 := Imp.go t17 (by omega))); (try (have i_t18 := Imp.go t18 (by omega))); omega)) af40 (by first | omega | ((try (have i_t18 := Imp.go t18 (by omega))); (try (have i_t17 := Imp.go t17 (by omega))); (try (have i_t17 := Imp.go t17 (by omega))); (try (have i_t18 := Imp.go t18 (by omega))); omega)) (fun hph => absurd hph (by omega)))
      refine W.know (fun kr1 kr2 => ?_)
      refine W.widen (k := zcc Z) (n := zss Z) (Nat.sub_le _ _) (Nat.sub_le _ _) ?_
      exact W.zret (v := 1) hx hb hr rfl (fun t ht hW => ⟨⟨1, (V19, L, Z), rfl, ⟨hMV19, agV19, rfl, zoZ, (by decide), (Imp.mk (fun _ => mo39)), (Imp.mk (fun hp => absurd hp (by decide))), (Imp.mk (fun _ => (show (V19 5 6).toInt = (V 5 6).toInt ∧ (V19 67 gf).toInt = 4 ∧ (V19 68 gf).toInt = 0 from by first | exact om_a46bf36ddf1a gk gph pq24 pq25 pq26 | first | omega | ((try (have i_t18 := Imp.go t18 (by omega))); (try (have i_t17 := Imp.go t17 (by omega))); (try (have i_t17 := Imp.go t17 (by omega))); (try (have i_t18 := Imp.go t18 (by omega))); omega)))), (Imp.mk (fun _ => rfl))⟩, ⟨by rw [ht]; exact hP, va_K.moved hW.alike hK, hD⟩, by rw [ht]; exact kr1, by rw [ht]; exact kr2⟩, hS.F ht⟩) hS.2.2 dX5_worksAlone_47
    · skip
      have f41 : z14.toInt = 0 := b_eq rfl (by decide) c22
      refine lv_aload_n hx hb dX5_worksAlone_39 rfl (lv_at hl 0 rfl) ?_
      refine lv_aload_n hx hb dX5_worksAlone_40 rfl (lv_at hl 1 rfl) ?_
      have pq42 : (V19 5 6).toInt = ((V 5 6)).toInt := congrArg Int32.toInt (ajV19 5 6 rfl)
      have pq43 : (V19 67 gf).toInt = ((V 67 gf)).toInt := congrArg Int32.toInt (ajV19 67 gf rfl)
      have me44 : ME V V19 gf := (ME.tr ME.rf (ME.ag ajV19 (by decide)))
      have pq45 : (V19 68 gf).toInt = ((V 68 gf)).toInt := congrArg Int32.toInt (ajV19 68 gf rfl)
      have pq46 : (V19 70 gf).toInt = ((V 70 gf)).toInt := congrArg Int32.toInt (ajV19 70 gf rfl)
      have pq47 : (V19 71 gf).toInt = ((V 71 gf)).toInt := congrArg Int32.toInt (ajV19 71 gf rfl)
      have pq48 : (V19 75 gf).toInt = ((V 75 gf)).toInt := congrArg Int32.toInt (ajV19 75 gf rfl)
      have pq49 : (V19 76 gf).toInt = ((V 76 gf)).toInt := congrArg Int32.toInt (ajV19 76 gf rfl)
      have pq50 : (V19 80 gf).toInt = ((V 80 gf)).toInt := congrArg Int32.toInt (ajV19 80 gf rfl)
      have pq51 : (V19 84 gf).toInt = ((V 84 gf)).toInt := congrArg Int32.toInt (ajV19 84 gf rfl)
      have pq52 : (V19 5 8).toInt = ((V 5 8)).toInt := congrArg Int32.toInt (ajV19 5 8 rfl)
      have pq53 : (V19 3 13).toInt = ((V 3 13)).toInt := congrArg Int32.toInt (ajV19 3 13 rfl)
      have pq54 : (V19 43 (5 * b + 2)).toInt = ((V 43 (5 * b + 2))).toInt := congrArg Int32.toInt (ajV19 43 (5 * b + 2) rfl)
      have pq55 : (V19 42 b).toInt = ((V 42 b)).toInt := congrArg Int32.toInt (ajV19 42 b rfl)
      have pq56 : (V19 41 b).toInt = ((V 41 b)).toInt := congrArg Int32.toInt (ajV19 41 b rfl)
      have af58 : (V19 42 b).toInt ≤ (V19 84 gf).toInt ∨ (bdp V19 b (V19 84 gf).toInt.toNat).1 = true := by rw [(ajV19 84 gf rfl), me44.1.bd, me44.1 42 b (by decide) (by decide)]; exact ft
      have mo57 : MO V19 Z b gf True False True := MO.ch mo me44 (ajV19 67 gf rfl) (ajV19 80 gf rfl) (fun _ => Or.inl (by omega)) (fun x h => FK.k4 (by first | omega | ((try (have i_t18 := Imp.go t18 (by omega))); (try (have i_t17 := Imp.go t17 (by omega))); (try (have i_t17 := Imp.go t17 (by omega))); (try (have i_t18 := Imp.go t18 (by omega))); omega)) (by first | omega | ((try (have i_t18 := Imp.go t18 (by omega))); (try (have i_t17 := Imp.go t17 (by omega))); (try (have i_t17 := Imp.go t17 (by omega))); (try (have i_t18 := Imp.go t18 (by omega))); omega)) (by first | omega | ((try (have i_t18 := Imp.go t18 (by omega))); (try (have i_t17 := Imp.go t17 (by omega))); (try (have i_t17 := Imp.go t17 (by omega))); (try (have i_t18 := Imp.go t18 (by omega))); omega)) af58 (by first | omega | ((try (have i_t18 := Imp.go t18 (by omega))); (try (have i_t17 := Imp.go t17 (by omega))); (try (have i_t17 := Imp.go t17 (by omega))); (try (have i_t18 := Imp.go t18 (by omega))); omega)) (fun _ z => z.elim))
      refine gA_void (gA_runV (As := [.ref (Z.fa gf)]) (rest := []) (ci := 5) (q0 := 5) hx hb hml hown hg hP hD hK hS hA hnw hgk (x_endWork2 l D ks H.size ad kk V19 L Z (b) (gf) hMV19 (show b < 2 from by first | exact om_f940a4667dd6 hb2 | first | omega | ((try (have i_t18 := Imp.go t18 (by omega))); (try (have i_t17 := Imp.go t17 (by omega))); (try (have i_t17 := Imp.go t17 (by omega))); (try (have i_t18 := Imp.go t18 (by omega))); omega)) (show gf < Z.nf from by first | exact om_8c5722e49bb1 hgf | first | omega | ((try (have i_t18 := Imp.go t18 (by omega))); (try (have i_t17 := Imp.go t17 (by omega))); (try (have i_t17 := Imp.go t17 (by omega))); (try (have i_t18 := Imp.go t18 (by omega))); omega)) mo57 (show (gf : Int) + 1 = (V19 5 6).toInt from by first | exact om_6e5bbaaa0e03 gd pq42 | first | omega | ((try (have i_t18 := Imp.go t18 (by omega))); (try (have i_t17 := Imp.go t17 (by omega))); (try (have i_t17 := Imp.go t17 (by omega))); (try (have i_t18 := Imp.go t18 (by omega))); omega)) (show (V19 67 gf).toInt = 4 from by first | exact om_ac6651f4ff0c gk pq43 | first | omega | ((try (have i_t18 := Imp.go t18 (by omega))); (try (have i_t17 := Imp.go t17 (by omega))); (try (have i_t17 := Imp.go t17 (by omega))); (try (have i_t18 := Imp.go t18 (by omega))); omega))) w1458 w1460 w70 w171 w1461 rfl xgMachine hdV_yX5_endWork ⟨Nat.le_of_ble_eq_true rfl, Nat.le_of_ble_eq_true rfl⟩ rfl hl.1 rfl (Nat.le_of_ble_eq_true rfl) dX5_worksAlone_41 ⟨z0, z0⟩) hP hD hK hS hA (fun u60 H locs w61 hP hD hK hS => ?_)
      obtain ⟨V63, L64⟩ := u60
      obtain ⟨hMV63, ajV63, axL64, t62⟩ := w61
      have axL64 : L = L64 := Eq.symm axL64
      subst axL64
      have hP : va_P D vwCl (xw ad kk V63 L Z) H := hP
      have hD : va_D A (xw ad kk V63 L Z) := hD
      have hMV63 : rgd bX V63 := hMV63
      have ajV63 : agr [(5, 6), (5, 7)] [] V19 V63 := ajV63
      have agV63 : agr [(5, 6), (5, 7), (5, 9), (5, 10), (5, 13), (5, 14)] [39, 67, 68, 69, 70, 71, 72, 73, 74, 75, 76, 77, 78, 79, 80, 81, 82, 83, 84, 85] V V63 := agV19.tr ajV63 (by decide) (by decide)
      have t62 : MJ V63 Z b := t62
      refine lv_iconst (v := 0) hx hb dX5_worksAlone_44 (by decide) ?_
      have r65 : 0 ≤ ((V63 5 6)).toInt ∧ ((V63 5 6)).toInt ≤ 400 := hMV63 5 6
      have pq66 : (V63 67 gf).toInt = ((V 67 gf)).toInt := congrArg Int32.toInt ((ajV63 67 gf rfl).trans (ajV19 67 gf rfl))
      have pq67 : (V63 68 gf).toInt = ((V 68 gf)).toInt := congrArg Int32.toInt ((ajV63 68 gf rfl).trans (ajV19 68 gf rfl))
      refine W.know (fun kr1 kr2 => ?_)
      refine W.widen (k := zcc Z) (n := zss Z) (Nat.sub_le _ _) (Nat.sub_le _ _) ?_
      exact W.zret (v := 0) hx hb hr rfl (fun t ht hW => ⟨⟨0, (V63, L, Z), rfl, ⟨hMV63, agV63, rfl, zoZ, (by decide), (Imp.mk (fun hp => absurd hp (by decide))), (Imp.mk (fun _ => t62)), (Imp.mk (fun hp => absurd hp (by decide))), (Imp.mk (fun hp => absurd hp (by decide)))⟩, ⟨by rw [ht]; exact hP, va_K.moved hW.alike hK, hD⟩, by rw [ht]; exact kr1, by rw [ht]; exact kr2⟩, hS.F ht⟩) hS.2.2 dX5_worksAlone_45
  have gq13 : p1.toInt ≠ 1 := b_neq rfl (by decide) q13
  by_cases q68 : p1 = 2
  · refine g_top (v := 2) q68 ?_
    have fq68 : p1.toInt = 2 := b_eq rfl (by decide) q68
    refine lv_tableIn (x := 2) (off := 47) (tgt := 48) hx hb dX5_worksAlone_1 (by decide) (by decide) (by decide) (by decide) ?_
    refine lv_aload_n hx hb dX5_worksAlone_48 rfl (lv_at hl 0 rfl) ?_
    refine lv_aload_n hx hb dX5_worksAlone_49 rfl (lv_at hl 1 rfl) ?_
    refine va_getN (D := D) (ci := 4) (v := .int (V 74 gf)) (fs := (xfFrame V gf)) (C := RX4) (T := TX4) (N := 19) hx hb hg inX4 hown hK hP (336 + gf) (xgFrame hgf) rfl 7 (by decide) (hnw.use 1196 n1196 rfl) (fun _ h9 => h9) rfl dX5_worksAlone_50 ?_
    refine gA_void (gA_runV (As := [.int (V 74 gf)]) (rest := []) (ci := 5) (q0 := 5) hx hb hml hown hg hP hD hK hS hA hnw hgk (x_mput l D ks H.size ad kk V L Z (V 74 gf) hMV ) w1466 w1468 w72 w171 w1469 rfl xgMachine hdV_yX5_put ⟨Nat.le_of_ble_eq_true rfl, Nat.le_of_ble_eq_true rfl⟩ rfl hl.1 rfl (Nat.le_of_ble_eq_true rfl) dX5_worksAlone_53 ⟨z0, z0⟩) hP hD hK hS hA (fun u70 H locs w71 hP hD hK hS => ?_)
    obtain ⟨V72, L73⟩ := u70
    obtain ⟨hMV72, ajV72, axL73⟩ := w71
    have axL73 : L = L73 := Eq.symm axL73
    subst axL73
    have hP : va_P D vwCl (xw ad kk V72 L Z) H := hP
    have hD : va_D A (xw ad kk V72 L Z) := hD
    have hMV72 : rgd bX V72 := hMV72
    have ajV72 : agr [(5, 7)] [39] V V72 := ajV72
    have agV72 : agr [(5, 6), (5, 7), (5, 9), (5, 10), (5, 13), (5, 14)] [39, 67, 68, 69, 70, 71, 72, 73, 74, 75, 76, 77, 78, 79, 80, 81, 82, 83, 84, 85] V V72 := agV.tr ajV72 (by decide) (by decide)
    refine lv_iconst (v := 1) hx hb dX5_worksAlone_56 (by decide) ?_
    have pq74 : (V72 5 6).toInt = ((V 5 6)).toInt := congrArg Int32.toInt (ajV72 5 6 rfl)
    have pq75 : (V72 67 gf).toInt = ((V 67 gf)).toInt := congrArg Int32.toInt (ajV72 67 gf rfl)
    have pq76 : (V72 68 gf).toInt = ((V 68 gf)).toInt := congrArg Int32.toInt (ajV72 68 gf rfl)
    have me77 : ME V V72 gf := (ME.tr ME.rf (ME.ag ajV72 (by decide)))
    have pq78 : (V72 70 gf).toInt = ((V 70 gf)).toInt := congrArg Int32.toInt (ajV72 70 gf rfl)
    have pq79 : (V72 71 gf).toInt = ((V 71 gf)).toInt := congrArg Int32.toInt (ajV72 71 gf rfl)
    have pq80 : (V72 75 gf).toInt = ((V 75 gf)).toInt := congrArg Int32.toInt (ajV72 75 gf rfl)
    have pq81 : (V72 76 gf).toInt = ((V 76 gf)).toInt := congrArg Int32.toInt (ajV72 76 gf rfl)
    have pq82 : (V72 80 gf).toInt = ((V 80 gf)).toInt := congrArg Int32.toInt (ajV72 80 gf rfl)
    have pq83 : (V72 84 gf).toInt = ((V 84 gf)).toInt := congrArg Int32.toInt (ajV72 84 gf rfl)
    have pq84 : (V72 5 8).toInt = ((V 5 8)).toInt := congrArg Int32.toInt (ajV72 5 8 rfl)
    have pq85 : (V72 5 9).toInt = ((V 5 9)).toInt := congrArg Int32.toInt (ajV72 5 9 rfl)
    have pq86 : (V72 3 13).toInt = ((V 3 13)).toInt := congrArg Int32.toInt (ajV72 3 13 rfl)
    have pq87 : (V72 43 (5 * b + 2)).toInt = ((V 43 (5 * b + 2))).toInt := congrArg Int32.toInt (ajV72 43 (5 * b + 2) rfl)
    have pq88 : (V72 42 b).toInt = ((V 42 b)).toInt := congrArg Int32.toInt (ajV72 42 b rfl)
    have pq89 : (V72 41 b).toInt = ((V 41 b)).toInt := congrArg Int32.toInt (ajV72 41 b rfl)
    have af91 : (V72 42 b).toInt ≤ (V72 84 gf).toInt ∨ (bdp V72 b (V72 84 gf).toInt.toNat).1 = true := by rw [(ajV72 84 gf rfl), me77.1.bd, me77.1 42 b (by decide) (by decide)]; exact ft
    have mo90 : MO V72 Z b gf True True True := MO.ch mo me77 (ajV72 67 gf rfl) (ajV72 80 gf rfl) (fun _ => Or.inl (by omega)) (fun x h => FK.k4 (by omega) (by omega) (by omega) af91 (by omega) (fun hph => absurd hph (by omega)))
    refine W.know (fun kr1 kr2 => ?_)
    refine W.widen (k := zcc Z) (n := zss Z) (Nat.sub_le _ _) (Nat.sub_le _ _) ?_
    exact W.zret (v := 1) hx hb hr rfl (fun t ht hW => ⟨⟨1, (V72, L, Z), rfl, ⟨hMV72, agV72, rfl, zoZ, (by decide), (Imp.mk (fun _ => mo90)), (Imp.mk (fun hp => absurd hp (by decide))), (Imp.mk (fun _ => (show (V72 5 6).toInt = (V 5 6).toInt ∧ (V72 67 gf).toInt = 4 ∧ (V72 68 gf).toInt = 0 from by (first | exact om_a46bf36ddf1a gk gph pq74 pq75 pq76 | omega)))), (Imp.mk (fun _ => rfl))⟩, ⟨by rw [ht]; exact hP, va_K.moved hW.alike hK, hD⟩, by rw [ht]; exact kr1, by rw [ht]; exact kr2⟩, hS.F ht⟩) hS.2.2 dX5_worksAlone_57
  have gq68 : p1.toInt ≠ 2 := b_neq rfl (by decide) q68
  by_cases q92 : p1 = 3
  · refine g_top (v := 3) q92 ?_
    have fq92 : p1.toInt = 3 := b_eq rfl (by decide) q92
    refine lv_tableIn (x := 3) (off := 57) (tgt := 58) hx hb dX5_worksAlone_1 (by decide) (by decide) (by decide) (by decide) ?_
    refine lv_aload_n hx hb dX5_worksAlone_58 rfl (lv_at hl 0 rfl) ?_
    refine lv_aload_n hx hb dX5_worksAlone_59 rfl (lv_at hl 0 rfl) ?_
    refine gA_int (gA_runV (As := []) (rest := [.ref (ad 5)]) (ci := 5) (q0 := 5) hx hb hml hown hg hP hD hK hS hA hnw hgk (x_mpull l D ks H.size ad kk V L Z  hMV ) w1482 w1484 w76 w171 w1485 rfl xgMachine hdV_yX5_pull ⟨Nat.le_of_ble_eq_true rfl, Nat.le_of_ble_eq_true rfl⟩ rfl hl.1 rfl (Nat.le_of_ble_eq_true rfl) dX5_worksAlone_60 ⟨z0, z0⟩) hP hD hK hS hA (fun z93 u94 H locs w95 hP hD hK hS => ?_)
    obtain ⟨V96, L97⟩ := u94
    obtain ⟨hMV96, ajV96, axL97⟩ := w95
    have axL97 : L = L97 := Eq.symm axL97
    subst axL97
    have hP : va_P D vwCl (xw ad kk V96 L Z) H := hP
    have hD : va_D A (xw ad kk V96 L Z) := hD
    have hMV96 : rgd bX V96 := hMV96
    have ajV96 : agr [(5, 7)] [] V V96 := ajV96
    have agV96 : agr [(5, 6), (5, 7), (5, 9), (5, 10), (5, 13), (5, 14)] [39, 67, 68, 69, 70, 71, 72, 73, 74, 75, 76, 77, 78, 79, 80, 81, 82, 83, 84, 85] V V96 := agV.tr ajV96 (by decide) (by decide)
    refine lv_ineg hx hb dX5_worksAlone_63 ?_
    refine lv_topi (fun z98 ez98 => ?_)
    refine gA_void (gA_runV (As := [.int z98]) (rest := []) (ci := 5) (q0 := 5) hx hb hml hown hg hP hD hK hS hA hnw hgk (x_mput l D ks H.size ad kk V96 L Z z98 hMV96 ) w1466 w1468 w72 w171 w1469 rfl xgMachine hdV_yX5_put ⟨Nat.le_of_ble_eq_true rfl, Nat.le_of_ble_eq_true rfl⟩ rfl hl.1 rfl (Nat.le_of_ble_eq_true rfl) dX5_worksAlone_64 ⟨z0, z0⟩) hP hD hK hS hA (fun u100 H locs w101 hP hD hK hS => ?_)
    obtain ⟨V102, L103⟩ := u100
    obtain ⟨hMV102, ajV102, axL103⟩ := w101
    have axL103 : L = L103 := Eq.symm axL103
    subst axL103
    have hP : va_P D vwCl (xw ad kk V102 L Z) H := hP
    have hD : va_D A (xw ad kk V102 L Z) := hD
    have hMV102 : rgd bX V102 := hMV102
    have ajV102 : agr [(5, 7)] [39] V96 V102 := ajV102
    have agV102 : agr [(5, 6), (5, 7), (5, 9), (5, 10), (5, 13), (5, 14)] [39, 67, 68, 69, 70, 71, 72, 73, 74, 75, 76, 77, 78, 79, 80, 81, 82, 83, 84, 85] V V102 := agV96.tr ajV102 (by decide) (by decide)
    refine lv_iconst (v := 1) hx hb dX5_worksAlone_67 (by decide) ?_
    have pq104 : (V102 5 6).toInt = ((V 5 6)).toInt := congrArg Int32.toInt ((ajV102 5 6 rfl).trans (ajV96 5 6 rfl))
    have pq105 : (V102 67 gf).toInt = ((V 67 gf)).toInt := congrArg Int32.toInt ((ajV102 67 gf rfl).trans (ajV96 67 gf rfl))
    have pq106 : (V102 68 gf).toInt = ((V 68 gf)).toInt := congrArg Int32.toInt ((ajV102 68 gf rfl).trans (ajV96 68 gf rfl))
    have me107 : ME V V102 gf := (ME.tr (ME.tr ME.rf (ME.ag ajV96 (by decide))) (ME.ag ajV102 (by decide)))
    have pq108 : (V102 70 gf).toInt = ((V 70 gf)).toInt := congrArg Int32.toInt ((ajV102 70 gf rfl).trans (ajV96 70 gf rfl))
    have pq109 : (V102 71 gf).toInt = ((V 71 gf)).toInt := congrArg Int32.toInt ((ajV102 71 gf rfl).trans (ajV96 71 gf rfl))
    have pq110 : (V102 75 gf).toInt = ((V 75 gf)).toInt := congrArg Int32.toInt ((ajV102 75 gf rfl).trans (ajV96 75 gf rfl))
    have pq111 : (V102 76 gf).toInt = ((V 76 gf)).toInt := congrArg Int32.toInt ((ajV102 76 gf rfl).trans (ajV96 76 gf rfl))
    have pq112 : (V102 80 gf).toInt = ((V 80 gf)).toInt := congrArg Int32.toInt ((ajV102 80 gf rfl).trans (ajV96 80 gf rfl))
    have pq113 : (V102 84 gf).toInt = ((V 84 gf)).toInt := congrArg Int32.toInt ((ajV102 84 gf rfl).trans (ajV96 84 gf rfl))
    have pq114 : (V102 5 8).toInt = ((V 5 8)).toInt := congrArg Int32.toInt ((ajV102 5 8 rfl).trans (ajV96 5 8 rfl))
    have pq115 : (V102 5 9).toInt = ((V 5 9)).toInt := congrArg Int32.toInt ((ajV102 5 9 rfl).trans (ajV96 5 9 rfl))
    have pq116 : (V102 3 13).toInt = ((V 3 13)).toInt := congrArg Int32.toInt ((ajV102 3 13 rfl).trans (ajV96 3 13 rfl))
    have pq117 : (V102 43 (5 * b + 2)).toInt = ((V 43 (5 * b + 2))).toInt := congrArg Int32.toInt ((ajV102 43 (5 * b + 2) rfl).trans (ajV96 43 (5 * b + 2) rfl))
    have pq118 : (V102 42 b).toInt = ((V 42 b)).toInt := congrArg Int32.toInt ((ajV102 42 b rfl).trans (ajV96 42 b rfl))
    have pq119 : (V102 41 b).toInt = ((V 41 b)).toInt := congrArg Int32.toInt ((ajV102 41 b rfl).trans (ajV96 41 b rfl))
    have af121 : (V102 42 b).toInt ≤ (V102 84 gf).toInt ∨ (bdp V102 b (V102 84 gf).toInt.toNat).1 = true := by rw [((ajV102 84 gf rfl).trans (ajV96 84 gf rfl)), me107.1.bd, me107.1 42 b (by decide) (by decide)]; exact ft
    have mo120 : MO V102 Z b gf True True True := MO.ch mo me107 ((ajV102 67 gf rfl).trans (ajV96 67 gf rfl)) ((ajV102 80 gf rfl).trans (ajV96 80 gf rfl)) (fun _ => Or.inl (by omega)) (fun x h => FK.k4 (by omega) (by omega) (by omega) af121 (by omega) (fun hph => absurd hph (by omega)))
    refine W.know (fun kr1 kr2 => ?_)
    refine W.widen (k := zcc Z) (n := zss Z) (Nat.sub_le _ _) (Nat.sub_le _ _) ?_
    exact W.zret (v := 1) hx hb hr rfl (fun t ht hW => ⟨⟨1, (V102, L, Z), rfl, ⟨hMV102, agV102, rfl, zoZ, (by decide), (Imp.mk (fun _ => mo120)), (Imp.mk (fun hp => absurd hp (by decide))), (Imp.mk (fun _ => (show (V102 5 6).toInt = (V 5 6).toInt ∧ (V102 67 gf).toInt = 4 ∧ (V102 68 gf).toInt = 0 from by (first | exact om_a46bf36ddf1a gk gph pq104 pq105 pq106 | omega)))), (Imp.mk (fun _ => rfl))⟩, ⟨by rw [ht]; exact hP, va_K.moved hW.alike hK, hD⟩, by rw [ht]; exact kr1, by rw [ht]; exact kr2⟩, hS.F ht⟩) hS.2.2 dX5_worksAlone_68
  have gq92 : p1.toInt ≠ 3 := b_neq rfl (by decide) q92
  by_cases q122 : p1 = 4
  · refine g_top (v := 4) q122 ?_
    have fq122 : p1.toInt = 4 := b_eq rfl (by decide) q122
    refine lv_tableIn (x := 4) (off := 68) (tgt := 69) hx hb dX5_worksAlone_1 (by decide) (by decide) (by decide) (by decide) ?_
    refine lv_aload_n hx hb dX5_worksAlone_69 rfl (lv_at hl 1 rfl) ?_
    refine lv_iconst (v := 1) hx hb dX5_worksAlone_70 (by decide) ?_
    refine va_putN (D := D) (ci := 4) (v := .int 1) (ty := tyX4 1) (fs := (xfFrame V gf)) (C := RX4) (T := TX4) (N := 19) hx hb hg inX4 tyX4 tyX4_ok nmX4 hown hK hP hD hS (336 + gf) (xgFrame hgf) rfl 1 (by decide) (hnw.use 1190 n1190 rfl) (fun _ h9 => h9) rfl (tyX4_ok 1 (by decide)) rfl rfl (Nat.le_of_ble_eq_true rfl) dX5_worksAlone_71 (fun H locs hP hD hS => ?_)
    obtain ⟨V123, hV123⟩ : ∃ z, z = up2 V 68 gf 1 := ⟨_, rfl⟩
    have ew124 : (xw ad kk V L Z).set (336 + gf) ((Z.fa gf), .inr (4, (xfFrame V gf).set 1 (.int 1))) = xw ad kk V123 L Z := by rw [hV123]; exact xpFrame_phase hgf
    have hP : va_P D vwCl (xw ad kk V123 L Z) H := by rw [← ew124]; exact hP
    have hD : va_D A (xw ad kk V123 L Z) := by rw [← ew124]; exact hD
    have hMV123 : rgd bX V123 := hMV.put hV123 (i_full _)
    have agV123 : agr [(5, 6), (5, 7), (5, 9), (5, 10), (5, 13), (5, 14)] [39, 67, 68, 69, 70, 71, 72, 73, 74, 75, 76, 77, 78, 79, 80, 81, 82, 83, 84, 85] V V123 := agV.up hV123 rfl
    refine lv_aload_n hx hb dX5_worksAlone_74 rfl (lv_at hl 0 rfl) ?_
    refine lv_aload_n hx hb dX5_worksAlone_75 rfl (lv_at hl 1 rfl) ?_
    refine lv_aload_n hx hb dX5_worksAlone_76 rfl (lv_at hl 1 rfl) ?_
    refine va_getN (D := D) (ci := 4) (v := .int (V123 75 gf)) (fs := (xfFrame V123 gf)) (C := RX4) (T := TX4) (N := 19) hx hb hg inX4 hown hK hP (336 + gf) (xgFrame hgf) rfl 8 (by decide) (hnw.use 1197 n1197 rfl) (fun _ h9 => h9) rfl dX5_worksAlone_77 ?_
    refine g_top (v := (V 75 gf)) (up2_o hV123 (by decide)) ?_
    refine lv_aload_n hx hb dX5_worksAlone_80 rfl (lv_at hl 0 rfl) ?_
    refine gA_int (gA_runV (As := []) (rest := [.int (V 75 gf), .ref (Z.fa gf), .ref (ad 5)]) (ci := 5) (q0 := 5) hx hb hml hown hg hP hD hK hS hA hnw hgk (x_mpull l D ks H.size ad kk V123 L Z  hMV123 ) w1482 w1484 w76 w171 w1485 rfl xgMachine hdV_yX5_pull ⟨Nat.le_of_ble_eq_true rfl, Nat.le_of_ble_eq_true rfl⟩ rfl hl.1 rfl (Nat.le_of_ble_eq_true rfl) dX5_worksAlone_81 ⟨z0, z0⟩) hP hD hK hS hA (fun z125 u126 H locs w127 hP hD hK hS => ?_)
    obtain ⟨V128, L129⟩ := u126
    obtain ⟨hMV128, ajV128, axL129⟩ := w127
    have axL129 : L = L129 := Eq.symm axL129
    subst axL129
    have hP : va_P D vwCl (xw ad kk V128 L Z) H := hP
    have hD : va_D A (xw ad kk V128 L Z) := hD
    have hMV128 : rgd bX V128 := hMV128
    have ajV128 : agr [(5, 7)] [] V123 V128 := ajV128
    have agV128 : agr [(5, 6), (5, 7), (5, 9), (5, 10), (5, 13), (5, 14)] [39, 67, 68, 69, 70, 71, 72, 73, 74, 75, 76, 77, 78, 79, 80, 81, 82, 83, 84, 85] V V128 := agV123.tr ajV128 (by decide) (by decide)
    have pq130 : (V128 71 gf).toInt = ((V 71 gf)).toInt := congrArg Int32.toInt ((ajV128 71 gf rfl).trans (up2_o hV123 (by decide)))
    have pq131 : (V128 43 (5 * b + 2)).toInt = ((V 43 (5 * b + 2))).toInt := congrArg Int32.toInt ((ajV128 43 (5 * b + 2) rfl).trans (up2_o hV123 (by decide)))
    have pq132 : (V128 3 13).toInt = ((V 3 13)).toInt := congrArg Int32.toInt ((ajV128 3 13 rfl).trans (up2_o hV123 (by decide)))
    have pq133 : (V128 70 gf).toInt = ((V 70 gf)).toInt := congrArg Int32.toInt ((ajV128 70 gf rfl).trans (up2_o hV123 (by decide)))
    have me134 : ME V V128 gf := (ME.tr (ME.up ME.rf hV123 (Or.inl ⟨by decide, by decide, Nat.le_refl _⟩)) (ME.ag ajV128 (by decide)))
    have pq135 : (V128 67 gf).toInt = ((V 67 gf)).toInt := congrArg Int32.toInt ((ajV128 67 gf rfl).trans (up2_o hV123 (by decide)))
    have pq136 : (V128 68 gf).toInt = 1 := (congrArg Int32.toInt ((ajV128 68 gf rfl).trans (up2_s hV123))).trans (by decide)
    have pq137 : (V128 75 gf).toInt = ((V 75 gf)).toInt := congrArg Int32.toInt ((ajV128 75 gf rfl).trans (up2_o hV123 (by decide)))
    have pq138 : (V128 76 gf).toInt = ((V 76 gf)).toInt := congrArg Int32.toInt ((ajV128 76 gf rfl).trans (up2_o hV123 (by decide)))
    have pq139 : (V128 80 gf).toInt = ((V 80 gf)).toInt := congrArg Int32.toInt ((ajV128 80 gf rfl).trans (up2_o hV123 (by decide)))
    have pq140 : (V128 84 gf).toInt = ((V 84 gf)).toInt := congrArg Int32.toInt ((ajV128 84 gf rfl).trans (up2_o hV123 (by decide)))
    have pq141 : (V128 5 6).toInt = ((V 5 6)).toInt := congrArg Int32.toInt ((ajV128 5 6 rfl).trans (up2_o hV123 (by decide)))
    have pq142 : (V128 5 8).toInt = ((V 5 8)).toInt := congrArg Int32.toInt ((ajV128 5 8 rfl).trans (up2_o hV123 (by decide)))
    have pq143 : (V128 5 9).toInt = ((V 5 9)).toInt := congrArg Int32.toInt ((ajV128 5 9 rfl).trans (up2_o hV123 (by decide)))
    have pq144 : (V128 42 b).toInt = ((V 42 b)).toInt := congrArg Int32.toInt ((ajV128 42 b rfl).trans (up2_o hV123 (by decide)))
    have pq145 : (V128 41 b).toInt = ((V 41 b)).toInt := congrArg Int32.toInt ((ajV128 41 b rfl).trans (up2_o hV123 (by decide)))
    have ep148 : V128 84 gf = (V 84 gf) := ((ajV128 84 gf rfl).trans (up2_o hV123 (by decide)))
    have af147 : (V128 42 b).toInt ≤ (V128 84 gf).toInt ∨ (bdp V128 b (V128 84 gf).toInt.toNat).1 = true := by rw [ep148, me134.1.bd, me134.1 42 b (by decide) (by decide)]; exact ft
    have mo146 : MO V128 Z b gf True True True := MO.ch mo me134 ((ajV128 67 gf rfl).trans (up2_o hV123 (by decide))) ((ajV128 80 gf rfl).trans (up2_o hV123 (by decide))) (fun _ => Or.inl (by omega)) (fun x h => FK.k4 (by omega) (by omega) (by omega) af147 (by omega) (fun hph => absurd hph (by omega)))
    have mt149 : MT V128 Z b := MO.mt mo146 (by (first | exact om_c09d41618ed8 hgf | omega)) (by (first | exact om_82fa09255765 gd pq141 | omega))
    refine W.know (fun k151 k152 => ?_)
    obtain ⟨Hk150, hHk150⟩ : ∃ z, z = H := ⟨_, rfl⟩
    have k151 : Hk150.size ≤ s.heap.size + (zcc Z - zcc Z) := by rw [hHk150]; exact k151
    have k152 : tot Hk150 ≤ tot s.heap + (zss Z - zss Z) := by rw [hHk150]; exact k152
    refine gZ_void (gA_runV (As := [.ref (Z.fa gf), .int (V 75 gf), .int z125]) (rest := []) (ci := 5) (q0 := 5) hx hb hml hown hg hP hD hK hS hA hnw hgk (x_pushInside l D ks H.size ad kk V128 L Z (V 75 gf) z125 (b) (gf) hMV128 (by (first | exact om_8dd06492493b r3.1 r3.2 | omega)) (show b < 2 from by (first | exact om_f940a4667dd6 hb2 | omega)) (show gf < Z.nf from by (first | exact om_8c5722e49bb1 hgf | omega)) mt149 (show 0 ≤ (V128 71 gf).toInt ∧ (V128 71 gf).toInt < (V128 43 (5 * b + 2)).toInt from by omega) (show 0 ≤ (V128 70 gf).toInt ∧ (V128 70 gf).toInt < (V128 3 13).toInt from by omega)) w1388 w1390 w60 w171 w1391 rfl xgMachine hdV_yX5_pushInside ⟨Nat.le_of_ble_eq_true rfl, Nat.le_of_ble_eq_true rfl⟩ rfl hl.1 rfl (Nat.le_of_ble_eq_true rfl) dX5_worksAlone_84 ⟨z1 zoZ.1, z1 zoZ.2.1⟩) hD hS hA (fun u154 H locs w155 hP hD hK hS y156 y157 => ?_)
    obtain ⟨V158, L159, Z160⟩ := u154
    obtain ⟨hMV158, ajV158, axL159, zlZ160, t162⟩ := w155
    have axL159 : L = L159 := Eq.symm axL159
    subst axL159
    have hP : va_P D vwCl (xw ad kk V158 L Z160) H := hP
    have hD : va_D A (xw ad kk V158 L Z160) := hD
    have hK : va_K D vwCl (xty kk Z160) s := hK
    have hMV158 : rgd bX V158 := hMV158
    have ajV158 : agr [(5, 6), (5, 9)] [67, 68, 69, 70, 71, 72, 73, 74, 75, 76, 77, 78, 79, 80, 81, 82, 83, 84, 85] V128 V158 := ajV158
    have agV158 : agr [(5, 6), (5, 7), (5, 9), (5, 10), (5, 13), (5, 14)] [39, 67, 68, 69, 70, 71, 72, 73, 74, 75, 76, 77, 78, 79, 80, 81, 82, 83, 84, 85] V V158 := agV128.tr ajV158 (by decide) (by decide)
    have zlZ160 : ZL Z Z160 := zlZ160
    have zoZ160 : ZL Z Z160 := ZL.tr zoZ zlZ160
    have ziZ160 := zlZ160.1
    have zjZ160 := zlZ160.2.1
    have zkZ160 := zlZ160.2.2.1
    have zmZ160 := zoZ160.1
    have znZ160 := zoZ160.2.1
    have zpZ_Z160 := zoZ.1
    have zqZ_Z160 := zoZ.2.1
    have y156 : H.size ≤ Hk150.size + (zcc Z - zcc Z160) := by rw [hHk150]; exact y156
    have y157 : tot H ≤ tot Hk150 + (zss Z - zss Z160) := by rw [hHk150]; exact y157
    refine W.tight (k := zcc Z - zcc Z160) (n := zss Z - zss Z160) (by first | exact tg9 y156 k151 zlZ160.1 zoZ.1 | omega) (by first | exact tg9 y157 k152 zlZ160.2.1 zoZ.2.1 | omega) ?_
    have hl : lv_has ls 3 [(0, .ref (ad 5)), (1, .ref (Z160.fa gf)), (2, .int p1)] := by rw [zlZ160.2.2.2.2 gf hgf]; exact hl
    have t162 : MJ V158 Z160 b := t162
    refine lv_iconst (v := 0) hx hb dX5_worksAlone_87 (by decide) ?_
    have r163 : 0 ≤ ((V158 5 6)).toInt ∧ ((V158 5 6)).toInt ≤ 400 := hMV158 5 6
    refine W.know (fun kr1 kr2 => ?_)
    refine W.widen (k := zcc Z) (n := zss Z) (Nat.sub_le _ _) (Nat.sub_le _ _) ?_
    exact W.zret (v := 0) hx hb hr rfl (fun t ht hW => ⟨⟨0, (V158, L, Z160), rfl, ⟨hMV158, agV158, rfl, zoZ160, (by decide), (Imp.mk (fun hp => absurd hp (by decide))), (Imp.mk (fun _ => t162)), (Imp.mk (fun hp => absurd hp (by decide))), (Imp.mk (fun hp => absurd hp (by decide)))⟩, ⟨by rw [ht]; exact hP, va_K.moved hW.alike hK, hD⟩, by rw [ht]; exact kr1, by rw [ht]; exact kr2⟩, hS.F ht⟩) hS.2.2 dX5_worksAlone_88
  have gq122 : p1.toInt ≠ 4 := b_neq rfl (by decide) q122
  refine lv_tableOut (x := p1) (tgt := 89) hx hb dX5_worksAlone_1 (by omega) (by decide) ?_
  refine lv_aload_n hx hb dX5_worksAlone_89 rfl (lv_at hl 0 rfl) ?_
  refine lv_aload_n hx hb dX5_worksAlone_90 rfl (lv_at hl 0 rfl) ?_
  refine gA_int (gA_runV (As := []) (rest := [.ref (ad 5)]) (ci := 5) (q0 := 5) hx hb hml hown hg hP hD hK hS hA hnw hgk (x_mpull l D ks H.size ad kk V L Z  hMV ) w1482 w1484 w76 w171 w1485 rfl xgMachine hdV_yX5_pull ⟨Nat.le_of_ble_eq_true rfl, Nat.le_of_ble_eq_true rfl⟩ rfl hl.1 rfl (Nat.le_of_ble_eq_true rfl) dX5_worksAlone_91 ⟨z0, z0⟩) hP hD hK hS hA (fun z164 u165 H locs w166 hP hD hK hS => ?_)
  obtain ⟨V167, L168⟩ := u165
  obtain ⟨hMV167, ajV167, axL168⟩ := w166
  have axL168 : L = L168 := Eq.symm axL168
  subst axL168
  have hP : va_P D vwCl (xw ad kk V167 L Z) H := hP
  have hD : va_D A (xw ad kk V167 L Z) := hD
  have hMV167 : rgd bX V167 := hMV167
  have ajV167 : agr [(5, 7)] [] V V167 := ajV167
  have agV167 : agr [(5, 6), (5, 7), (5, 9), (5, 10), (5, 13), (5, 14)] [39, 67, 68, 69, 70, 71, 72, 73, 74, 75, 76, 77, 78, 79, 80, 81, 82, 83, 84, 85] V V167 := agV.tr ajV167 (by decide) (by decide)
  refine gA_void (gA_runV (As := [.int z164]) (rest := []) (ci := 5) (q0 := 5) hx hb hml hown hg hP hD hK hS hA hnw hgk (x_answerWith2 l D ks H.size ad kk V167 L Z z164 hMV167 ) w1304 w1306 w49 w171 w1307 rfl xgMachine hdV_yX5_answerWith ⟨Nat.le_of_ble_eq_true rfl, Nat.le_of_ble_eq_true rfl⟩ rfl hl.1 rfl (Nat.le_of_ble_eq_true rfl) dX5_worksAlone_94 ⟨z0, z0⟩) hP hD hK hS hA (fun u170 H locs w171 hP hD hK hS => ?_)
  obtain ⟨V174, L175⟩ := u170
  obtain ⟨hMV174, ajV174, axL175, t172, t173⟩ := w171
  have axL175 : L = L175 := Eq.symm axL175
  subst axL175
  have hP : va_P D vwCl (xw ad kk V174 L Z) H := hP
  have hD : va_D A (xw ad kk V174 L Z) := hD
  have hMV174 : rgd bX V174 := hMV174
  have ajV174 : agr [(5, 9), (5, 10)] [] V167 V174 := ajV174
  have agV174 : agr [(5, 6), (5, 7), (5, 9), (5, 10), (5, 13), (5, 14)] [39, 67, 68, 69, 70, 71, 72, 73, 74, 75, 76, 77, 78, 79, 80, 81, 82, 83, 84, 85] V V174 := agV167.tr ajV174 (by decide) (by decide)
  have t172 : (V174 5 9).toInt = 1 := t172
  have t173 : (V174 5 10).toInt = z164.toInt := t173
  have r176 : 0 ≤ ((V174 5 9)).toInt ∧ ((V174 5 9)).toInt ≤ 3 := hMV174 5 9
  refine lv_aload_n hx hb dX5_worksAlone_97 rfl (lv_at hl 0 rfl) ?_
  refine lv_aload_n hx hb dX5_worksAlone_98 rfl (lv_at hl 1 rfl) ?_
  have pq177 : (V174 5 6).toInt = ((V 5 6)).toInt := congrArg Int32.toInt ((ajV174 5 6 rfl).trans (ajV167 5 6 rfl))
  have pq178 : (V174 67 gf).toInt = ((V 67 gf)).toInt := congrArg Int32.toInt ((ajV174 67 gf rfl).trans (ajV167 67 gf rfl))
  have me179 : ME V V174 gf := (ME.tr (ME.tr ME.rf (ME.ag ajV167 (by decide))) (ME.ag ajV174 (by decide)))
  have pq180 : (V174 68 gf).toInt = ((V 68 gf)).toInt := congrArg Int32.toInt ((ajV174 68 gf rfl).trans (ajV167 68 gf rfl))
  have pq181 : (V174 70 gf).toInt = ((V 70 gf)).toInt := congrArg Int32.toInt ((ajV174 70 gf rfl).trans (ajV167 70 gf rfl))
  have pq182 : (V174 71 gf).toInt = ((V 71 gf)).toInt := congrArg Int32.toInt ((ajV174 71 gf rfl).trans (ajV167 71 gf rfl))
  have pq183 : (V174 75 gf).toInt = ((V 75 gf)).toInt := congrArg Int32.toInt ((ajV174 75 gf rfl).trans (ajV167 75 gf rfl))
  have pq184 : (V174 76 gf).toInt = ((V 76 gf)).toInt := congrArg Int32.toInt ((ajV174 76 gf rfl).trans (ajV167 76 gf rfl))
  have pq185 : (V174 80 gf).toInt = ((V 80 gf)).toInt := congrArg Int32.toInt ((ajV174 80 gf rfl).trans (ajV167 80 gf rfl))
  have pq186 : (V174 84 gf).toInt = ((V 84 gf)).toInt := congrArg Int32.toInt ((ajV174 84 gf rfl).trans (ajV167 84 gf rfl))
  have pq187 : (V174 5 8).toInt = ((V 5 8)).toInt := congrArg Int32.toInt ((ajV174 5 8 rfl).trans (ajV167 5 8 rfl))
  have pq188 : (V174 3 13).toInt = ((V 3 13)).toInt := congrArg Int32.toInt ((ajV174 3 13 rfl).trans (ajV167 3 13 rfl))
  have pq189 : (V174 43 (5 * b + 2)).toInt = ((V 43 (5 * b + 2))).toInt := congrArg Int32.toInt ((ajV174 43 (5 * b + 2) rfl).trans (ajV167 43 (5 * b + 2) rfl))
  have pq190 : (V174 42 b).toInt = ((V 42 b)).toInt := congrArg Int32.toInt ((ajV174 42 b rfl).trans (ajV167 42 b rfl))
  have pq191 : (V174 41 b).toInt = ((V 41 b)).toInt := congrArg Int32.toInt ((ajV174 41 b rfl).trans (ajV167 41 b rfl))
  have af193 : (V174 42 b).toInt ≤ (V174 84 gf).toInt ∨ (bdp V174 b (V174 84 gf).toInt.toNat).1 = true := by rw [((ajV174 84 gf rfl).trans (ajV167 84 gf rfl)), me179.1.bd, me179.1 42 b (by decide) (by decide)]; exact ft
  have mo192 : MO V174 Z b gf True False True := MO.ch mo me179 ((ajV174 67 gf rfl).trans (ajV167 67 gf rfl)) ((ajV174 80 gf rfl).trans (ajV167 80 gf rfl)) (fun _ => Or.inl (by omega)) (fun x h => FK.k4 (by omega) (by omega) (by omega) af193 (by omega) (fun _ z => z.elim))
  refine gA_void (gA_runV (As := [.ref (Z.fa gf)]) (rest := []) (ci := 5) (q0 := 5) hx hb hml hown hg hP hD hK hS hA hnw hgk (x_endWork2 l D ks H.size ad kk V174 L Z (b) (gf) hMV174 (show b < 2 from by (first | exact om_f940a4667dd6 hb2 | omega)) (show gf < Z.nf from by (first | exact om_8c5722e49bb1 hgf | omega)) mo192 (show (gf : Int) + 1 = (V174 5 6).toInt from by (first | exact om_6e5bbaaa0e03 gd pq177 | omega)) (show (V174 67 gf).toInt = 4 from by (first | exact om_ac6651f4ff0c gk pq178 | omega))) w1458 w1460 w70 w171 w1461 rfl xgMachine hdV_yX5_endWork ⟨Nat.le_of_ble_eq_true rfl, Nat.le_of_ble_eq_true rfl⟩ rfl hl.1 rfl (Nat.le_of_ble_eq_true rfl) dX5_worksAlone_99 ⟨z0, z0⟩) hP hD hK hS hA (fun u195 H locs w196 hP hD hK hS => ?_)
  obtain ⟨V198, L199⟩ := u195
  obtain ⟨hMV198, ajV198, axL199, t197⟩ := w196
  have axL199 : L = L199 := Eq.symm axL199
  subst axL199
  have hP : va_P D vwCl (xw ad kk V198 L Z) H := hP
  have hD : va_D A (xw ad kk V198 L Z) := hD
  have hMV198 : rgd bX V198 := hMV198
  have ajV198 : agr [(5, 6), (5, 7)] [] V174 V198 := ajV198
  have agV198 : agr [(5, 6), (5, 7), (5, 9), (5, 10), (5, 13), (5, 14)] [39, 67, 68, 69, 70, 71, 72, 73, 74, 75, 76, 77, 78, 79, 80, 81, 82, 83, 84, 85] V V198 := agV174.tr ajV198 (by decide) (by decide)
  have t197 : MJ V198 Z b := t197
  refine lv_iconst (v := 0) hx hb dX5_worksAlone_102 (by decide) ?_
  have r200 : 0 ≤ ((V198 5 6)).toInt ∧ ((V198 5 6)).toInt ≤ 400 := hMV198 5 6
  have pq201 : (V198 67 gf).toInt = ((V 67 gf)).toInt := congrArg Int32.toInt ((ajV198 67 gf rfl).trans ((ajV174 67 gf rfl).trans (ajV167 67 gf rfl)))
  have pq202 : (V198 68 gf).toInt = ((V 68 gf)).toInt := congrArg Int32.toInt ((ajV198 68 gf rfl).trans ((ajV174 68 gf rfl).trans (ajV167 68 gf rfl)))
  refine W.know (fun kr1 kr2 => ?_)
  refine W.widen (k := zcc Z) (n := zss Z) (Nat.sub_le _ _) (Nat.sub_le _ _) ?_
  exact W.zret (v := 0) hx hb hr rfl (fun t ht hW => ⟨⟨0, (V198, L, Z), rfl, ⟨hMV198, agV198, rfl, zoZ, (by decide), (Imp.mk (fun hp => absurd hp (by decide))), (Imp.mk (fun _ => t197)), (Imp.mk (fun hp => absurd hp (by decide))), (Imp.mk (fun hp => absurd hp (by decide)))⟩, ⟨by rw [ht]; exact hP, va_K.moved hW.alike hK, hD⟩, by rw [ht]; exact kr1, by rw [ht]; exact kr2⟩, hS.F ht⟩) hS.2.2 dX5_worksAlone_103
abbrev r_x_work (Z : XZ) : Room := { frames := 5, cells := zcc Z, slots := zss Z, locals := 112 }
abbrev q_x_work (D : va_G) (ks : KS) (ad : Nat → Nat) (kk : Nat → ClassId) (V : Vf) (L : Lf) (Z : XZ) (b : Nat) (gf : Nat) (A : Nat → Prop) : Array Value → State → Outcome → State → Prop := qZv D (fun (u : Vf × Lf × XZ) => rgd bX u.1 ∧ agr [(5, 6), (5, 7), (5, 9), (5, 10), (5, 11), (5, 12), (5, 13), (5, 14)] [39, 67, 68, 69, 70, 71, 72, 73, 74, 75, 76, 77, 78, 79, 80, 81, 82, 83, 84, 85] V u.1 ∧ u.2.1 = L ∧ ZL Z u.2.2 ∧ (MJ u.1 u.2.2 b)) (fun u => xw ad kk u.1 u.2.1 u.2.2) (fun u => xty kk u.2.2) (fun u => zcc Z - zcc u.2.2) (fun u => zss Z - zss u.2.2) A
set_option maxHeartbeats 4000000 in
set_option maxRecDepth 100000 in
theorem x_work (l : Launch) (D : va_G) (ks : KS) (sz : Nat) (ad : Nat → Nat) (kk : Nat → ClassId) (V : Vf) (L : Lf) (Z : XZ) (b : Nat) (gf : Nat) (hMV : rgd bX V) (hb2 : b < 2) (hgf : gf < Z.nf) (mo : MO V Z b gf True True True) (gd : (gf : Int) + 1 = (V 5 6).toInt) (gk : (V 67 gf).toInt = 4) (gph : (V 68 gf).toInt = 0)  : Met l yX5_work (Cond.code yX5_work cX5_work 6 none :: GW) (r_x_work Z) (va_Pc [.ref (ad 5), .ref (Z.fa gf)] (gp D ks (xw ad kk V L Z) (xty kk Z) sz)) (q_x_work D ks ad kk V L Z  b gf (va_A (xw ad kk V L Z) sz)) (zcc Z) (zss Z) (va_A (xw ad kk V L Z) sz) := by
  refine g_met (q_x_work D ks ad kk V L Z  b gf) (by decide) (Nat.le_of_ble_eq_true rfl) ?_
  intro p e s m below meth c A ls H locs hx hb hr hml hown hg hlocks hin hnw hgk hP hK hD hS hA hl
  have hown : s.vm.findClass RX5 = some m.cls := hown
  have hl : lv_has ls 6 [(0, .ref (ad 5)), (1, .ref (Z.fa gf))] := hl
  have hP : va_P D vwCl (xw ad kk V L Z) H := hP
  have hD : va_D A (xw ad kk V L Z) := hD
  have hK : va_K D vwCl (xty kk Z) s := hK
  have agV : agr [(5, 6), (5, 7), (5, 9), (5, 10), (5, 11), (5, 12), (5, 13), (5, 14)] [39, 67, 68, 69, 70, 71, 72, 73, 74, 75, 76, 77, 78, 79, 80, 81, 82, 83, 84, 85] V V := agr.rf
  have zoZ : ZL Z Z := ZL.rf
  refine W.know (fun ka kb => ?_)
  refine W.tight (k := zcc Z - zcc Z) (n := zss Z - zss Z) (by omega) (by omega) ?_
  have r1 : 0 ≤ ((V 5 6)).toInt ∧ ((V 5 6)).toInt ≤ 400 := hMV 5 6
  have kdp := i_clamp (x := V 5 6) rfl (by (first | exact om_c66f1b494bd9 gd | omega))
  have hdn : (gf : Int) + 1 ≤ (Z.nf : Int) := by (first | exact om_29efded833ec hgf | omega)
  have mup := MO.up mo
  have msz := mup.1
  have mbk := mup.2.2.2.1
  obtain ⟨xk, fk⟩ := MO.fk mo
  have r2 : (-1) ≤ ((V 71 gf)).toInt ∧ ((V 71 gf)).toInt ≤ 23 := hMV 71 gf
  have r3 : 0 ≤ ((V 75 gf)).toInt ∧ ((V 75 gf)).toInt ≤ 12 := hMV 75 gf
  have r4 : 0 ≤ ((V 80 gf)).toInt ∧ ((V 80 gf)).toInt ≤ 300 := hMV 80 gf
  have r5 : 0 ≤ ((V 84 gf)).toInt ∧ ((V 84 gf)).toInt ≤ 2147483647 := hMV 84 gf
  have r6 : 0 ≤ ((V 5 8)).toInt ∧ ((V 5 8)).toInt ≤ 300 := hMV 5 8
  have r7 : 0 ≤ ((V 5 9)).toInt ∧ ((V 5 9)).toInt ≤ 3 := hMV 5 9
  have r8 : 0 ≤ ((V 3 13)).toInt ∧ ((V 3 13)).toInt ≤ 300 := hMV 3 13
  have r9 : 0 ≤ ((V 43 (5 * b + 2))).toInt ∧ ((V 43 (5 * b + 2))).toInt ≤ ((xcap (5 * b + 2) : Nat) : Int) := hMV 43 (5 * b + 2)
  have r10 : xcap (5 * b + 2) = 24 := xcap_2
  have r11 : 0 ≤ ((V 41 b)).toInt ∧ ((V 41 b)).toInt ≤ 12 := hMV 41 b
  have r12 : 0 ≤ ((V 42 b)).toInt ∧ ((V 42 b)).toInt ≤ 8200 := hMV 42 b
  have fc := fk.1 (by omega)
  have fo := fk.2.1 (by omega) (by omega)
  have ft := fk.2.2.1 (by omega)
  have fq := fk.2.2.2.1 (by omega)
  refine lv_iconst (v := 1) hx hb dX5_work_0 (by decide) ?_
  refine lv_istore_n (lv' := [(2, .int 1), (0, .ref (ad 5)), (1, .ref (Z.fa gf))]) hx hb dX5_work_1 rfl hl (by decide) rfl (fun ls hl => ?_)
  refine lv_iconst (v := 0) hx hb dX5_work_2 (by decide) ?_
  refine lv_istore_n (lv' := [(3, .int 0), (2, .int 1), (0, .ref (ad 5)), (1, .ref (Z.fa gf))]) hx hb dX5_work_3 rfl hl (by decide) rfl (fun ls hl => ?_)
  have lp16 : ∀ (fulp16 : Nat) (y13 : Int32) (y14 : Int32) (V15 : Vf) (H : Heap) (locs : List Loc) (ls : Array Slot), 0 ≤ y13.toInt ∧ y13.toInt ≤ 8200 → 1 ≤ y14.toInt ∧ y14.toInt ≤ 1 → MO V15 Z b gf True True True → (gf : Int) + 1 = (V15 5 6).toInt → (V15 67 gf).toInt = 4 → (V15 68 gf).toInt = 0 → 8200 - y13.toInt < (fulp16 : Int) → agr [(5, 6), (5, 7), (5, 9), (5, 10), (5, 11), (5, 12), (5, 13), (5, 14)] [39, 67, 68, 69, 70, 71, 72, 73, 74, 75, 76, 77, 78, 79, 80, 81, 82, 83, 84, 85] V V15 → rgd bX V15 → va_P D vwCl (xw ad kk V15 L Z) H → va_D A (xw ad kk V15 L Z) → va_S A s.heap H locs → lv_has ls 6 [(3, .int y13), (2, .int y14), (0, .ref (ad 5)), (1, .ref (Z.fa gf))] → W p l e (r_x_work Z) s m ([.ref (ad 5), .ref (Z.fa gf)] : List Value).toArray below meth c H locs (zcc Z - zcc Z) (zss Z - zss Z) (MQ below (q_x_work D ks ad kk V L Z  b gf A) ([.ref (ad 5), .ref (Z.fa gf)] : List Value).toArray s (zcc Z) (zss Z) A) (F0 m 4 ls []) := by
    intro fulp16
    induction fulp16 with
    | zero =>
      intro y13 y14 V15 H locs ls klp16_0 klp16_1 xlp16_0 xlp16_1 xlp16_2 xlp16_3 hn ajV15 hMV15 hP hD hS hl
      exfalso; (first | exact om_95ea9e43c4d3 klp16_0.2 hn | omega)
    | succ fulp16 ihlp16 =>
      intro y13 y14 V15 H locs ls klp16_0 klp16_1 xlp16_0 xlp16_1 xlp16_2 xlp16_3 hn ajV15 hMV15 hP hD hS hl
      have agV15 : agr [(5, 6), (5, 7), (5, 9), (5, 10), (5, 11), (5, 12), (5, 13), (5, 14)] [39, 67, 68, 69, 70, 71, 72, 73, 74, 75, 76, 77, 78, 79, 80, 81, 82, 83, 84, 85] V V15 := agV.tr ajV15 (by decide) (by decide)
      have r17 : 0 ≤ ((V15 5 6)).toInt ∧ ((V15 5 6)).toInt ≤ 400 := hMV15 5 6
      have mup := MO.up xlp16_0
      have msz := mup.1
      have mbk := mup.2.2.2.1
      obtain ⟨xk, fk⟩ := MO.fk xlp16_0
      have r18 : (-1) ≤ ((V15 71 gf)).toInt ∧ ((V15 71 gf)).toInt ≤ 23 := hMV15 71 gf
      have r19 : 0 ≤ ((V15 75 gf)).toInt ∧ ((V15 75 gf)).toInt ≤ 12 := hMV15 75 gf
      have r20 : 0 ≤ ((V15 80 gf)).toInt ∧ ((V15 80 gf)).toInt ≤ 300 := hMV15 80 gf
      have r21 : 0 ≤ ((V15 84 gf)).toInt ∧ ((V15 84 gf)).toInt ≤ 2147483647 := hMV15 84 gf
      have pq22 : (V15 5 8).toInt = ((V 5 8)).toInt := congrArg Int32.toInt (ajV15 5 8 rfl)
      have r23 : 0 ≤ ((V15 5 9)).toInt ∧ ((V15 5 9)).toInt ≤ 3 := hMV15 5 9
      have pq24 : (V15 3 13).toInt = ((V 3 13)).toInt := congrArg Int32.toInt (ajV15 3 13 rfl)
      have pq25 : (V15 43 (5 * b + 2)).toInt = ((V 43 (5 * b + 2))).toInt := congrArg Int32.toInt (ajV15 43 (5 * b + 2) rfl)
      have pq26 : (V15 41 b).toInt = ((V 41 b)).toInt := congrArg Int32.toInt (ajV15 41 b rfl)
      have pq27 : (V15 42 b).toInt = ((V 42 b)).toInt := congrArg Int32.toInt (ajV15 42 b rfl)
      have fc := fk.1 (by omega)
      have fo := fk.2.1 (by omega) (by omega)
      have ft := fk.2.2.1 (by omega)
      have fq := fk.2.2.2.1 (by omega)
      refine lv_iload_n hx hb dX5_work_4 rfl (lv_at hl 1 rfl) ?_
      refine lv_if_eq (tgt := 119) hx hb dX5_work_5 (by decide) (fun c28 => ?_) (fun c28 => ?_)
      · skip
        have f29 : y14.toInt = 0 := b_eq rfl (by decide) c28
        exfalso; (first | exact om_09885ab343b9 klp16_1.1 f29 | omega)
      · skip
        have f30 : y14.toInt ≠ 0 := b_neq rfl (by decide) c28
        refine lv_iload_n hx hb dX5_work_8 rfl (lv_at hl 0 rfl) ?_
        refine lv_aload_n hx hb dX5_work_9 rfl (lv_at hl 2 rfl) ?_
        refine va_get (D := D) (ci := 5) (v := .ref (ad (38 + Int32.toNatClampNeg (V15 5 5)))) (fs := (xfMachine ad V15 L Z)) (C := RX5) (T := TX5) (N := 15) hx hb hg inX5 hown hK hP 5 xgMachine rfl 5 (by decide) (hg _ w672) (fun _ h9 => h9) rfl dX5_work_10 ?_
        have pq31 : (V15 5 5).toInt = ((V 5 5)).toInt := congrArg Int32.toInt (ajV15 5 5 rfl)
        have r32 : 0 ≤ ((V 5 5)).toInt ∧ ((V 5 5)).toInt ≤ 1 := hMV 5 5
        refine g_topv (v := .ref (ad (38 + b))) (rfP (by omega)) ?_
        refine va_getN (D := D) (ci := 0) (v := .int (V15 42 b)) (fs := (xfBook ad V15 b)) (C := RX0) (T := TX0) (N := 13) hx hb hg inX0 hown hK hP (38 + b) (xgBook hb2) rfl 12 (by decide) (hnw.use 631 n631 rfl) (fun _ h9 => h9) rfl dX5_work_13 ?_
        refine g_top (v := (V 42 b)) (ajV15 42 b rfl) ?_
        refine lv_icmp_ge (tgt := 119) hx hb dX5_work_16 (by decide) (fun c33 => ?_) (fun c33 => ?_)
        · skip
          have f34 : ((V 42 b)).toInt ≤ y13.toInt := b_le rfl rfl c33
          have me35 : ME V15 V15 gf := ME.rf
          have af37 : (V15 42 b).toInt ≤ (V15 84 gf).toInt ∨ (bdp V15 b (V15 84 gf).toInt.toNat).1 = true := by rw [me35.1.bd, me35.1 42 b (by decide) (by decide)]; exact ft
          have mo36 : MO V15 Z b gf True (QN V15 b) (QN V15 b) := MO.ch xlp16_0 me35 rfl rfl (fun _ => Or.inl (by omega)) (fun x h => FK.k4 (by omega) (by omega) (by omega) af37 (by omega) (fun hph => absurd hph (by omega)))
          have rp38 : MJ V15 Z b := MO.mj mo36 (by (first | exact om_c09d41618ed8 hgf | omega)) (by (first | exact om_6815fc1b8223 xlp16_1 | omega)) id id Or.inr
          refine W.know (fun kr1 kr2 => ?_)
          refine W.widen (k := zcc Z) (n := zss Z) (Nat.sub_le _ _) (Nat.sub_le _ _) ?_
          exact W.vret hx hb hr (fun t ht hW => ⟨⟨(V15, L, Z), rfl, ⟨hMV15, agV15, rfl, zoZ, rp38⟩, ⟨by rw [ht]; exact hP, va_K.moved hW.alike hK, hD⟩, by rw [ht]; exact kr1, by rw [ht]; exact kr2⟩, hS.F ht⟩) hS.2.2 dX5_work_119
        · skip
          have f39 : y13.toInt < ((V 42 b)).toInt := b_nle rfl rfl c33
          refine lv_aload_n hx hb dX5_work_19 rfl (lv_at hl 3 rfl) ?_
          refine va_getN (D := D) (ci := 4) (v := .int (V15 84 gf)) (fs := (xfFrame V15 gf)) (C := RX4) (T := TX4) (N := 19) hx hb hg inX4 hown hK hP (336 + gf) (xgFrame hgf) rfl 17 (by decide) (hnw.use 1206 n1206 rfl) (fun _ h9 => h9) rfl dX5_work_20 ?_
          refine lv_aload_n hx hb dX5_work_23 rfl (lv_at hl 2 rfl) ?_
          refine va_get (D := D) (ci := 5) (v := .ref (ad (38 + Int32.toNatClampNeg (V15 5 5)))) (fs := (xfMachine ad V15 L Z)) (C := RX5) (T := TX5) (N := 15) hx hb hg inX5 hown hK hP 5 xgMachine rfl 5 (by decide) (hg _ w672) (fun _ h9 => h9) rfl dX5_work_24 ?_
          refine g_topv (v := .ref (ad (38 + b))) (rfP (by omega)) ?_
          refine va_getN (D := D) (ci := 0) (v := .int (V15 42 b)) (fs := (xfBook ad V15 b)) (C := RX0) (T := TX0) (N := 13) hx hb hg inX0 hown hK hP (38 + b) (xgBook hb2) rfl 12 (by decide) (hnw.use 631 n631 rfl) (fun _ h9 => h9) rfl dX5_work_27 ?_
          refine g_top (v := (V 42 b)) (ajV15 42 b rfl) ?_
          refine lv_icmp_ge (tgt := 119) hx hb dX5_work_30 (by decide) (fun c40 => ?_) (fun c40 => ?_)
          · skip
            have f41 : ((V 42 b)).toInt ≤ ((V15 84 gf)).toInt := b_le rfl rfl c40
            have me42 : ME V15 V15 gf := ME.rf
            have af44 : (V15 42 b).toInt ≤ (V15 84 gf).toInt ∨ (bdp V15 b (V15 84 gf).toInt.toNat).1 = true := by rw [me42.1.bd, me42.1 42 b (by decide) (by decide)]; exact ft
            have mo43 : MO V15 Z b gf True (QN V15 b) (QN V15 b) := MO.ch xlp16_0 me42 rfl rfl (fun _ => Or.inl (by omega)) (fun x h => FK.k4 (by omega) (by omega) (by omega) af44 (by omega) (fun hph => absurd hph (by omega)))
            have rp45 : MJ V15 Z b := MO.mj mo43 (by (first | exact om_c09d41618ed8 hgf | omega)) (by (first | exact om_6815fc1b8223 xlp16_1 | omega)) id id Or.inr
            refine W.know (fun kr1 kr2 => ?_)
            refine W.widen (k := zcc Z) (n := zss Z) (Nat.sub_le _ _) (Nat.sub_le _ _) ?_
            exact W.vret hx hb hr (fun t ht hW => ⟨⟨(V15, L, Z), rfl, ⟨hMV15, agV15, rfl, zoZ, rp45⟩, ⟨by rw [ht]; exact hP, va_K.moved hW.alike hK, hD⟩, by rw [ht]; exact kr1, by rw [ht]; exact kr2⟩, hS.F ht⟩) hS.2.2 dX5_work_119
          · skip
            have f46 : ((V15 84 gf)).toInt < ((V 42 b)).toInt := b_nle rfl rfl c40
            refine lv_aload_n hx hb dX5_work_33 rfl (lv_at hl 2 rfl) ?_
            refine va_get (D := D) (ci := 5) (v := .ref (ad (38 + Int32.toNatClampNeg (V15 5 5)))) (fs := (xfMachine ad V15 L Z)) (C := RX5) (T := TX5) (N := 15) hx hb hg inX5 hown hK hP 5 xgMachine rfl 5 (by decide) (hg _ w672) (fun _ h9 => h9) rfl dX5_work_34 ?_
            refine g_topv (v := .ref (ad (38 + b))) (rfP (by omega)) ?_
            refine va_getN (D := D) (ci := 0) (v := .ref (ad (70 + b))) (fs := (xfBook ad V15 b)) (C := RX0) (T := TX0) (N := 13) hx hb hg inX0 hown hK hP (38 + b) (xgBook hb2) rfl 10 (by decide) (hnw.use 624 n624 rfl) (fun _ h9 => h9) rfl dX5_work_37 ?_
            refine lv_aload_n hx hb dX5_work_40 rfl (lv_at hl 3 rfl) ?_
            refine va_getN (D := D) (ci := 4) (v := .int (V15 84 gf)) (fs := (xfFrame V15 gf)) (C := RX4) (T := TX4) (N := 19) hx hb hg inX4 hown hK hP (336 + gf) (xgFrame hgf) rfl 17 (by decide) (hnw.use 1206 n1206 rfl) (fun _ h9 => h9) rfl dX5_work_41 ?_
            have il47 : b < 2 := by (first | exact om_f940a4667dd6 hb2 | omega)
            refine va_iald (D := D) (i := (V15 84 gf)) hx hb hK hP (70 + b) (63 + b) (xgcode il47) (xtcode il47) (i_in (a := ((V15 84 gf)).toInt) rfl (by (first | exact om_b03dc4e34d5a r12.2 r21.1 f46 | omega))) dX5_work_44 ?_
            have kc48 := i_clamp (x := (V15 84 gf)) rfl (by (first | exact om_eafa9039069c r21.1 | omega))
            refine g_top (v := V15 48 (8200 * b + (Int32.toNatClampNeg (V15 84 gf)))) (if_pos (by omega)) ?_
            refine g_top (v := (V 48 (8200 * b + (Int32.toNatClampNeg (V15 84 gf))))) (ajV15 48 (8200 * b + (Int32.toNatClampNeg (V15 84 gf))) rfl) ?_
            refine lv_istore (lv' := [(4, .int (V 48 (8200 * b + (Int32.toNatClampNeg (V15 84 gf))))), (3, .int y13), (2, .int y14), (0, .ref (ad 5)), (1, .ref (Z.fa gf))]) hx hb dX5_work_45 hl (by decide) rfl (fun ls hl => ?_)
            refine lv_aload_n hx hb dX5_work_47 rfl (lv_at hl 4 rfl) ?_
            refine lv_dup hx hb dX5_work_48 rfl ?_
            refine va_getN (D := D) (ci := 4) (v := .int (V15 84 gf)) (fs := (xfFrame V15 gf)) (C := RX4) (T := TX4) (N := 19) hx hb hg inX4 hown hK hP (336 + gf) (xgFrame hgf) rfl 17 (by decide) (hnw.use 1206 n1206 rfl) (fun _ h9 => h9) rfl dX5_work_49 ?_
            refine lv_iconst (v := 1) hx hb dX5_work_52 (by decide) ?_
            refine lv_iadd hx hb dX5_work_53 ?_
            refine lv_topi (fun z49 ez49 => ?_)
            have hz49 : z49.toInt = ((V15 84 gf)).toInt + 1 := i_add ez49 rfl (by decide) (by (first | exact om_f150dd2841b6 r12.2 r21.1 f46 | omega))
            refine va_putN (D := D) (ci := 4) (v := .int z49) (ty := tyX4 17) (fs := (xfFrame V15 gf)) (C := RX4) (T := TX4) (N := 19) hx hb hg inX4 tyX4 tyX4_ok nmX4 hown hK hP hD hS (336 + gf) (xgFrame hgf) rfl 17 (by decide) (hnw.use 1206 n1206 rfl) (fun _ h9 => h9) rfl (tyX4_ok 17 (by decide)) rfl rfl (Nat.le_of_ble_eq_true rfl) dX5_work_54 (fun H locs hP hD hS => ?_)
            obtain ⟨V50, hV50⟩ : ∃ z, z = up2 V15 84 gf z49 := ⟨_, rfl⟩
            have ew51 : (xw ad kk V15 L Z).set (336 + gf) ((Z.fa gf), .inr (4, (xfFrame V15 gf).set 17 (.int z49))) = xw ad kk V50 L Z := by rw [hV50]; exact xpFrame_at hgf
            have hP : va_P D vwCl (xw ad kk V50 L Z) H := by rw [← ew51]; exact hP
            have hD : va_D A (xw ad kk V50 L Z) := by rw [← ew51]; exact hD
            have hMV50 : rgd bX V50 := hMV15.put hV50 (show 0 ≤ z49.toInt ∧ z49.toInt ≤ 2147483647 from by (first | exact om_e35dbd57c2e4 r12.2 r21.1 f46 hz49 | omega))
            have agV50 : agr [(5, 6), (5, 7), (5, 9), (5, 10), (5, 11), (5, 12), (5, 13), (5, 14)] [39, 67, 68, 69, 70, 71, 72, 73, 74, 75, 76, 77, 78, 79, 80, 81, 82, 83, 84, 85] V V50 := agV15.up hV50 rfl
            have kat := i_clamp (x := V15 84 gf) rfl (by (first | exact om_eafa9039069c r21.1 | omega))
            have pq52 : (V15 48 (8200 * b + (Int32.toNatClampNeg (V15 84 gf)))).toInt = ((V 48 (8200 * b + (Int32.toNatClampNeg (V15 84 gf))))).toInt := congrArg Int32.toInt (ajV15 48 (8200 * b + (Int32.toNatClampNeg (V15 84 gf))) rfl)
            have hbd : (bdp V15 b (Int32.toNatClampNeg (V15 84 gf))).1 = true := by have q := ft.resolve_left (by omega); rw [show (V15 84 gf).toInt.toNat = (Int32.toNatClampNeg (V15 84 gf)) from by omega] at q; exact q
            have hco := mup.2.2.1.2 (Int32.toNatClampNeg (V15 84 gf)) (by omega) hbd
            refine lv_iload hx hb dX5_work_57 (lv_at hl 0 rfl) ?_
            refine lv_bipush (v := 10) hx hb dX5_work_59 (by decide) ?_
            refine lv_icmp_lt (tgt := 75) hx hb dX5_work_61 (by decide) (fun c53 => ?_) (fun c53 => ?_)
            · skip
              have f54 : ((V 48 (8200 * b + (Int32.toNatClampNeg (V15 84 gf))))).toInt < 10 := b_lt rfl (by decide) c53
              have atn : (V15 42 b).toInt ≤ z49.toInt ∨ (bdp V15 b z49.toInt.toNat).1 = true := Or.inr (by rw [show z49.toInt.toNat = (Int32.toNatClampNeg (V15 84 gf)) + 1 from by omega]; exact cd_lo hbd (by omega))
              refine lv_iload hx hb dX5_work_75 (lv_at hl 0 rfl) ?_
              refine lv_iconst (v := 5) hx hb dX5_work_77 (by decide) ?_
              refine lv_icmp_lt (tgt := 105) hx hb dX5_work_78 (by decide) (fun c55 => ?_) (fun c55 => ?_)
              · skip
                have f56 : ((V 48 (8200 * b + (Int32.toNatClampNeg (V15 84 gf))))).toInt < 5 := b_lt rfl (by decide) c55
                refine lv_aload_n hx hb dX5_work_105 rfl (lv_at hl 3 rfl) ?_
                refine lv_aload_n hx hb dX5_work_106 rfl (lv_at hl 4 rfl) ?_
                refine lv_iload hx hb dX5_work_107 (lv_at hl 0 rfl) ?_
                have pq57 : (V50 5 6).toInt = ((V15 5 6)).toInt := congrArg Int32.toInt (up2_o hV50 (by decide))
                have pq58 : (V50 67 gf).toInt = ((V15 67 gf)).toInt := congrArg Int32.toInt (up2_o hV50 (by decide))
                have pq59 : (V50 68 gf).toInt = ((V15 68 gf)).toInt := congrArg Int32.toInt (up2_o hV50 (by decide))
                have me60 : ME V15 V50 gf := (ME.up ME.rf hV50 (Or.inl ⟨by decide, by decide, Nat.le_refl _⟩))
                have pq61 : (V50 70 gf).toInt = ((V15 70 gf)).toInt := congrArg Int32.toInt (up2_o hV50 (by decide))
                have pq62 : (V50 71 gf).toInt = ((V15 71 gf)).toInt := congrArg Int32.toInt (up2_o hV50 (by decide))
                have pq63 : (V50 75 gf).toInt = ((V15 75 gf)).toInt := congrArg Int32.toInt (up2_o hV50 (by decide))
                have pq64 : (V50 76 gf).toInt = ((V15 76 gf)).toInt := congrArg Int32.toInt (up2_o hV50 (by decide))
                have pq65 : (V50 80 gf).toInt = ((V15 80 gf)).toInt := congrArg Int32.toInt (up2_o hV50 (by decide))
                have pq66 : (V50 84 gf).toInt = z49.toInt := congrArg Int32.toInt (up2_s hV50)
                have pq67 : (V50 5 8).toInt = ((V 5 8)).toInt := congrArg Int32.toInt ((up2_o hV50 (by decide)).trans (ajV15 5 8 rfl))
                have pq68 : (V50 5 9).toInt = ((V15 5 9)).toInt := congrArg Int32.toInt (up2_o hV50 (by decide))
                have pq69 : (V50 3 13).toInt = ((V 3 13)).toInt := congrArg Int32.toInt ((up2_o hV50 (by decide)).trans (ajV15 3 13 rfl))
                have pq70 : (V50 43 (5 * b + 2)).toInt = ((V 43 (5 * b + 2))).toInt := congrArg Int32.toInt ((up2_o hV50 (by decide)).trans (ajV15 43 (5 * b + 2) rfl))
                have pq71 : (V50 42 b).toInt = ((V 42 b)).toInt := congrArg Int32.toInt ((up2_o hV50 (by decide)).trans (ajV15 42 b rfl))
                have pq72 : (V50 41 b).toInt = ((V 41 b)).toInt := congrArg Int32.toInt ((up2_o hV50 (by decide)).trans (ajV15 41 b rfl))
                have af74 : (V50 42 b).toInt ≤ (V50 84 gf).toInt ∨ (bdp V50 b (V50 84 gf).toInt.toNat).1 = true := by rw [(up2_s hV50), me60.1.bd, me60.1 42 b (by decide) (by decide)]; exact atn
                have mo73 : MO V50 Z b gf True True True := MO.ch xlp16_0 me60 (up2_o hV50 (by decide)) (up2_o hV50 (by decide)) (fun _ => Or.inl (by omega)) (fun x h => FK.k4 (by omega) (by omega) (by omega) af74 (by omega) (fun hph => absurd hph (by omega)))
                refine W.know (fun k76 k77 => ?_)
                obtain ⟨Hk75, hHk75⟩ : ∃ z, z = H := ⟨_, rfl⟩
                have k76 : Hk75.size ≤ s.heap.size + (zcc Z - zcc Z) := by rw [hHk75]; exact k76
                have k77 : tot Hk75 ≤ tot s.heap + (zss Z - zss Z) := by rw [hHk75]; exact k77
                refine gZ_int (gA_runV (As := [.ref (Z.fa gf), .int (V 48 (8200 * b + (Int32.toNatClampNeg (V15 84 gf))))]) (rest := []) (ci := 5) (q0 := 5) hx hb hml hown hg hP hD hK hS hA hnw hgk (x_worksAlone l D ks H.size ad kk V50 L Z (V 48 (8200 * b + (Int32.toNatClampNeg (V15 84 gf)))) (b) (gf) hMV50 (show b < 2 from by (first | exact om_f940a4667dd6 hb2 | omega)) (show gf < Z.nf from by (first | exact om_8c5722e49bb1 hgf | omega)) mo73 (show (gf : Int) + 1 = (V50 5 6).toInt from by (first | exact om_6e5bbaaa0e03 xlp16_1 pq57 | omega)) (show (V50 67 gf).toInt = 4 from by (first | exact om_ac6651f4ff0c xlp16_2 pq58 | omega)) (show (V50 68 gf).toInt = 0 from by (first | exact om_36161e850215 xlp16_3 pq59 | omega))) w1489 w1491 w77 w171 w1492 rfl xgMachine hdV_yX5_worksAlone ⟨Nat.le_of_ble_eq_true rfl, Nat.le_of_ble_eq_true rfl⟩ rfl hl.1 rfl (Nat.le_of_ble_eq_true rfl) dX5_work_109 ⟨z1 zoZ.1, z1 zoZ.2.1⟩) hD hS hA (fun z78 u79 H locs w80 hP hD hK hS y81 y82 => ?_)
                obtain ⟨V83, L84, Z85⟩ := u79
                obtain ⟨hMV83, ajV83, axL84, zlZ85, rgz78, t87, t88, t89, t90⟩ := w80
                have axL84 : L = L84 := Eq.symm axL84
                subst axL84
                have hP : va_P D vwCl (xw ad kk V83 L Z85) H := hP
                have hD : va_D A (xw ad kk V83 L Z85) := hD
                have hK : va_K D vwCl (xty kk Z85) s := hK
                have hMV83 : rgd bX V83 := hMV83
                have ajV83 : agr [(5, 6), (5, 7), (5, 9), (5, 10), (5, 13), (5, 14)] [39, 67, 68, 69, 70, 71, 72, 73, 74, 75, 76, 77, 78, 79, 80, 81, 82, 83, 84, 85] V50 V83 := ajV83
                have agV83 : agr [(5, 6), (5, 7), (5, 9), (5, 10), (5, 11), (5, 12), (5, 13), (5, 14)] [39, 67, 68, 69, 70, 71, 72, 73, 74, 75, 76, 77, 78, 79, 80, 81, 82, 83, 84, 85] V V83 := agV50.tr ajV83 (by decide) (by decide)
                have zlZ85 : ZL Z Z85 := zlZ85
                have zoZ85 : ZL Z Z85 := ZL.tr zoZ zlZ85
                have ziZ85 := zlZ85.1
                have zjZ85 := zlZ85.2.1
                have zkZ85 := zlZ85.2.2.1
                have zmZ85 := zoZ85.1
                have znZ85 := zoZ85.2.1
                have zpZ_Z85 := zoZ.1
                have zqZ_Z85 := zoZ.2.1
                have y81 : H.size ≤ Hk75.size + (zcc Z - zcc Z85) := by rw [hHk75]; exact y81
                have y82 : tot H ≤ tot Hk75 + (zss Z - zss Z85) := by rw [hHk75]; exact y82
                refine W.tight (k := zcc Z - zcc Z85) (n := zss Z - zss Z85) (by first | exact tg9 y81 k76 zlZ85.1 zoZ.1 | omega) (by first | exact tg9 y82 k77 zlZ85.2.1 zoZ.2.1 | omega) ?_
                have hl : lv_has ls 6 [(4, .int (V 48 (8200 * b + (Int32.toNatClampNeg (V15 84 gf))))), (3, .int y13), (2, .int y14), (0, .ref (ad 5)), (1, .ref (Z85.fa gf))] := by rw [zlZ85.2.2.2.2 gf hgf]; exact hl
                have rgz78 : 0 ≤ z78.toInt ∧ z78.toInt ≤ 1 := rgz78
                have t87 : Imp (z78.toInt = 1) (MO V83 Z85 b gf True True True) := t87
                have t88 : Imp (z78.toInt = 0) (MJ V83 Z85 b) := t88
                have t89 : Imp (z78.toInt = 1) ((V83 5 6).toInt = (V50 5 6).toInt ∧ (V83 67 gf).toInt = 4 ∧ (V83 68 gf).toInt = 0) := t89
                have t90 : Imp (z78.toInt = 1) (Z85 = Z) := t90
                have r91 : 0 ≤ ((V83 5 6)).toInt ∧ ((V83 5 6)).toInt ≤ 400 := hMV83 5 6
                refine lv_istore_n (lv' := [(2, .int z78), (4, .int (V 48 (8200 * b + (Int32.toNatClampNeg (V15 84 gf))))), (3, .int y13), (0, .ref (ad 5)), (1, .ref (Z85.fa gf))]) hx hb dX5_work_112 rfl hl (by decide) rfl (fun ls hl => ?_)
                by_cases hr0 : z78.toInt = 0
                · skip
                  obtain ⟨z92, ez92⟩ : ∃ y : Int32, y = y13 + 1 := ⟨_, rfl⟩
                  have hz92 : z92.toInt = y13.toInt + 1 := i_add ez92 rfl (by decide) (by (first | exact om_f150dd2841b6 r12.2 klp16_0.1 f39 | omega))
                  refine lv_iinc (v := z92) (lv' := [(3, .int z92), (2, .int z78), (4, .int (V 48 (8200 * b + (Int32.toNatClampNeg (V15 84 gf))))), (0, .ref (ad 5)), (1, .ref (Z85.fa gf))]) hx hb dX5_work_113 hl (k := 2) rfl (by rw [ez92]; rfl) (by decide) rfl (fun ls hl => ?_)
                  refine lv_goto (tgt := 4) hx hb dX5_work_116 (by decide) ?_
                  refine lv_iload_n hx hb dX5_work_4 rfl (lv_at hl 1 rfl) ?_
                  refine lv_if_eq (tgt := 119) hx hb dX5_work_5 (by decide) (fun c93 => ?_) (fun c93 => ?_)
                  · skip
                    have f94 : z78.toInt = 0 := b_eq rfl (by decide) c93
                    refine W.know (fun kr1 kr2 => ?_)
                    refine W.widen (k := zcc Z) (n := zss Z) (Nat.sub_le _ _) (Nat.sub_le _ _) ?_
                    exact W.vret hx hb hr (fun t ht hW => ⟨⟨(V83, L, Z85), rfl, ⟨hMV83, agV83, rfl, zoZ85, (Imp.go t88 (by (first | exact om_b1799fcf2d63 rgz78.1 f94 | omega)))⟩, ⟨by rw [ht]; exact hP, va_K.moved hW.alike hK, hD⟩, by rw [ht]; exact kr1, by rw [ht]; exact kr2⟩, hS.F ht⟩) hS.2.2 dX5_work_119
                  · skip
                    have f95 : z78.toInt ≠ 0 := b_neq rfl (by decide) c93
                    exfalso; first | omega | ((try (have i_t89 := Imp.go t89 (by omega))); omega)
                · skip
                  have hr1 : z78.toInt = 1 := by omega
                  have ezz : Z85 = Z := Imp.go t90 hr1
                  have hP : va_P D vwCl (xw ad kk V83 L Z) H := by rw [← ezz]; exact hP
                  have hD : va_D A (xw ad kk V83 L Z) := by rw [← ezz]; exact hD
                  have hK : va_K D vwCl (xty kk Z) s := by rw [← ezz]; exact hK
                  have hl : lv_has ls 6 [(2, .int z78), (4, .int (V 48 (8200 * b + (Int32.toNatClampNeg (V15 84 gf))))), (3, .int y13), (0, .ref (ad 5)), (1, .ref (Z.fa gf))] := by rw [← ezz]; exact hl
                  rw [ezz]
                  have mo96 : MO V83 Z b gf True True True := by rw [← ezz]; exact Imp.go t87 hr1
                  have hpk := Imp.go t89 hr1
                  obtain ⟨z97, ez97⟩ : ∃ y : Int32, y = y13 + 1 := ⟨_, rfl⟩
                  have hz97 : z97.toInt = y13.toInt + 1 := i_add ez97 rfl (by decide) (by (first | exact om_f150dd2841b6 r12.2 klp16_0.1 f39 | omega))
                  refine lv_iinc (v := z97) (lv' := [(3, .int z97), (2, .int z78), (4, .int (V 48 (8200 * b + (Int32.toNatClampNeg (V15 84 gf))))), (0, .ref (ad 5)), (1, .ref (Z.fa gf))]) hx hb dX5_work_113 hl (k := 2) rfl (by rw [ez97]; rfl) (by decide) rfl (fun ls hl => ?_)
                  refine lv_goto (tgt := 4) hx hb dX5_work_116 (by decide) ?_
                  exact ihlp16 z97 z78 V83 H locs ls (by first | exact om_4c7236201e99 r12.2 klp16_0.1 f39 hz97 | first | omega | ((try (have i_t89 := Imp.go t89 (by omega))); omega)) (by first | exact om_e6bad570a1f1 rgz78.2 hr1 | first | omega | ((try (have i_t89 := Imp.go t89 (by omega))); omega)) mo96 (show (gf : Int) + 1 = (V83 5 6).toInt from by first | exact om_697b823fa352 xlp16_1 pq57 ((Imp.go t89 (hr1)).1) | first | omega | ((try (have i_t89 := Imp.go t89 (by omega))); omega)) (show (V83 67 gf).toInt = 4 from by first | exact om_c88e7ce0b8a2 ((Imp.go t89 (hr1)).2.1) | first | omega | ((try (have i_t89 := Imp.go t89 (by omega))); omega)) (show (V83 68 gf).toInt = 0 from by first | exact om_b66ba74381d5 ((Imp.go t89 (hr1)).2.2) | first | omega | ((try (have i_t89 := Imp.go t89 (by omega))); omega)) (by first | exact om_5e93b663c12e hn hz97 | first | omega | ((try (have i_t89 := Imp.go t89 (by omega))); omega)) (agr.tr (agr.up (agr.tr agr.rf ajV15 (by decide) (by decide)) hV50 rfl) ajV83 (by decide) (by decide)) hMV83 hP hD hS (lv_sub hl [0, 1, 3, 4] rfl)
              · skip
                have f98 : 5 ≤ ((V 48 (8200 * b + (Int32.toNatClampNeg (V15 84 gf))))).toInt := b_nlt rfl (by decide) c55
                refine lv_aload_n hx hb dX5_work_81 rfl (lv_at hl 3 rfl) ?_
                refine gA_int (gA_runV (As := []) (rest := []) (ci := 5) (q0 := 5) hx hb hml hown hg hP hD hK hS hA hnw hgk (x_mpull l D ks H.size ad kk V50 L Z  hMV50 ) w1482 w1484 w76 w171 w1485 rfl xgMachine hdV_yX5_pull ⟨Nat.le_of_ble_eq_true rfl, Nat.le_of_ble_eq_true rfl⟩ rfl hl.1 rfl (Nat.le_of_ble_eq_true rfl) dX5_work_82 ⟨z0, z0⟩) hP hD hK hS hA (fun z99 u100 H locs w101 hP hD hK hS => ?_)
                obtain ⟨V102, L103⟩ := u100
                obtain ⟨hMV102, ajV102, axL103⟩ := w101
                have axL103 : L = L103 := Eq.symm axL103
                subst axL103
                have hP : va_P D vwCl (xw ad kk V102 L Z) H := hP
                have hD : va_D A (xw ad kk V102 L Z) := hD
                have hMV102 : rgd bX V102 := hMV102
                have ajV102 : agr [(5, 7)] [] V50 V102 := ajV102
                have agV102 : agr [(5, 6), (5, 7), (5, 9), (5, 10), (5, 11), (5, 12), (5, 13), (5, 14)] [39, 67, 68, 69, 70, 71, 72, 73, 74, 75, 76, 77, 78, 79, 80, 81, 82, 83, 84, 85] V V102 := agV50.tr ajV102 (by decide) (by decide)
                refine lv_istore (lv' := [(5, .int z99), (4, .int (V 48 (8200 * b + (Int32.toNatClampNeg (V15 84 gf))))), (3, .int y13), (2, .int y14), (0, .ref (ad 5)), (1, .ref (Z.fa gf))]) hx hb dX5_work_85 hl (by decide) rfl (fun ls hl => ?_)
                refine lv_aload_n hx hb dX5_work_87 rfl (lv_at hl 4 rfl) ?_
                refine lv_iload hx hb dX5_work_88 (lv_at hl 1 rfl) ?_
                refine lv_aload_n hx hb dX5_work_90 rfl (lv_at hl 4 rfl) ?_
                refine gA_int (gA_runV (As := []) (rest := [.int (V 48 (8200 * b + (Int32.toNatClampNeg (V15 84 gf)))), .ref (ad 5)]) (ci := 5) (q0 := 5) hx hb hml hown hg hP hD hK hS hA hnw hgk (x_mpull l D ks H.size ad kk V102 L Z  hMV102 ) w1482 w1484 w76 w171 w1485 rfl xgMachine hdV_yX5_pull ⟨Nat.le_of_ble_eq_true rfl, Nat.le_of_ble_eq_true rfl⟩ rfl hl.1 rfl (Nat.le_of_ble_eq_true rfl) dX5_work_91 ⟨z0, z0⟩) hP hD hK hS hA (fun z104 u105 H locs w106 hP hD hK hS => ?_)
                obtain ⟨V107, L108⟩ := u105
                obtain ⟨hMV107, ajV107, axL108⟩ := w106
                have axL108 : L = L108 := Eq.symm axL108
                subst axL108
                have hP : va_P D vwCl (xw ad kk V107 L Z) H := hP
                have hD : va_D A (xw ad kk V107 L Z) := hD
                have hMV107 : rgd bX V107 := hMV107
                have ajV107 : agr [(5, 7)] [] V102 V107 := ajV107
                have agV107 : agr [(5, 6), (5, 7), (5, 9), (5, 10), (5, 11), (5, 12), (5, 13), (5, 14)] [39, 67, 68, 69, 70, 71, 72, 73, 74, 75, 76, 77, 78, 79, 80, 81, 82, 83, 84, 85] V V107 := agV102.tr ajV107 (by decide) (by decide)
                refine lv_iload hx hb dX5_work_94 (lv_at hl 0 rfl) ?_
                refine gE_int (g_runS (As := [.int (V 48 (8200 * b + (Int32.toNatClampNeg (V15 84 gf)))), .int z104, .int z99]) (rest := [.ref (ad 5)]) (wc := []) (tc := []) hx hb hml hown hg gw_self hP hD hK hS hA hnw hgk [] [] (by decide) rfl rfl (x_compute l D ks H.size (V 48 (8200 * b + (Int32.toNatClampNeg (V15 84 gf)))) z104 z99 ) w1486 w1487 w171 w1488 hdS_yX5_compute ⟨Nat.le_of_ble_eq_true rfl, Nat.le_of_ble_eq_true rfl⟩ rfl hl.1 rfl (Nat.le_of_ble_eq_true rfl) dX5_work_96 ⟨z0, z0⟩) hP hD hK hS hA (fun z109 u110 H locs w111 hP hD hK hS => ?_)
                refine gA_void (gA_runV (As := [.int z109]) (rest := []) (ci := 5) (q0 := 5) hx hb hml hown hg hP hD hK hS hA hnw hgk (x_mput l D ks H.size ad kk V107 L Z z109 hMV107 ) w1466 w1468 w72 w171 w1469 rfl xgMachine hdV_yX5_put ⟨Nat.le_of_ble_eq_true rfl, Nat.le_of_ble_eq_true rfl⟩ rfl hl.1 rfl (Nat.le_of_ble_eq_true rfl) dX5_work_99 ⟨z0, z0⟩) hP hD hK hS hA (fun u113 H locs w114 hP hD hK hS => ?_)
                obtain ⟨V115, L116⟩ := u113
                obtain ⟨hMV115, ajV115, axL116⟩ := w114
                have axL116 : L = L116 := Eq.symm axL116
                subst axL116
                have hP : va_P D vwCl (xw ad kk V115 L Z) H := hP
                have hD : va_D A (xw ad kk V115 L Z) := hD
                have hMV115 : rgd bX V115 := hMV115
                have ajV115 : agr [(5, 7)] [39] V107 V115 := ajV115
                have agV115 : agr [(5, 6), (5, 7), (5, 9), (5, 10), (5, 11), (5, 12), (5, 13), (5, 14)] [39, 67, 68, 69, 70, 71, 72, 73, 74, 75, 76, 77, 78, 79, 80, 81, 82, 83, 84, 85] V V115 := agV107.tr ajV115 (by decide) (by decide)
                refine lv_goto (tgt := 113) hx hb dX5_work_102 (by decide) ?_
                obtain ⟨z117, ez117⟩ : ∃ y : Int32, y = y13 + 1 := ⟨_, rfl⟩
                have hz117 : z117.toInt = y13.toInt + 1 := i_add ez117 rfl (by decide) (by (first | exact om_f150dd2841b6 r12.2 klp16_0.1 f39 | omega))
                refine lv_iinc (v := z117) (lv' := [(3, .int z117), (5, .int z99), (4, .int (V 48 (8200 * b + (Int32.toNatClampNeg (V15 84 gf))))), (2, .int y14), (0, .ref (ad 5)), (1, .ref (Z.fa gf))]) hx hb dX5_work_113 hl (k := 2) rfl (by rw [ez117]; rfl) (by decide) rfl (fun ls hl => ?_)
                refine lv_goto (tgt := 4) hx hb dX5_work_116 (by decide) ?_
                have pq118 : (V115 5 6).toInt = ((V15 5 6)).toInt := congrArg Int32.toInt ((ajV115 5 6 rfl).trans ((ajV107 5 6 rfl).trans ((ajV102 5 6 rfl).trans (up2_o hV50 (by decide)))))
                have pq119 : (V115 67 gf).toInt = ((V15 67 gf)).toInt := congrArg Int32.toInt ((ajV115 67 gf rfl).trans ((ajV107 67 gf rfl).trans ((ajV102 67 gf rfl).trans (up2_o hV50 (by decide)))))
                have pq120 : (V115 68 gf).toInt = ((V15 68 gf)).toInt := congrArg Int32.toInt ((ajV115 68 gf rfl).trans ((ajV107 68 gf rfl).trans ((ajV102 68 gf rfl).trans (up2_o hV50 (by decide)))))
                have me121 : ME V15 V115 gf := (ME.tr (ME.tr (ME.tr (ME.up ME.rf hV50 (Or.inl ⟨by decide, by decide, Nat.le_refl _⟩)) (ME.ag ajV102 (by decide))) (ME.ag ajV107 (by decide))) (ME.ag ajV115 (by decide)))
                have pq122 : (V115 70 gf).toInt = ((V15 70 gf)).toInt := congrArg Int32.toInt ((ajV115 70 gf rfl).trans ((ajV107 70 gf rfl).trans ((ajV102 70 gf rfl).trans (up2_o hV50 (by decide)))))
                have pq123 : (V115 71 gf).toInt = ((V15 71 gf)).toInt := congrArg Int32.toInt ((ajV115 71 gf rfl).trans ((ajV107 71 gf rfl).trans ((ajV102 71 gf rfl).trans (up2_o hV50 (by decide)))))
                have pq124 : (V115 75 gf).toInt = ((V15 75 gf)).toInt := congrArg Int32.toInt ((ajV115 75 gf rfl).trans ((ajV107 75 gf rfl).trans ((ajV102 75 gf rfl).trans (up2_o hV50 (by decide)))))
                have pq125 : (V115 76 gf).toInt = ((V15 76 gf)).toInt := congrArg Int32.toInt ((ajV115 76 gf rfl).trans ((ajV107 76 gf rfl).trans ((ajV102 76 gf rfl).trans (up2_o hV50 (by decide)))))
                have pq126 : (V115 80 gf).toInt = ((V15 80 gf)).toInt := congrArg Int32.toInt ((ajV115 80 gf rfl).trans ((ajV107 80 gf rfl).trans ((ajV102 80 gf rfl).trans (up2_o hV50 (by decide)))))
                have pq127 : (V115 84 gf).toInt = z49.toInt := congrArg Int32.toInt ((ajV115 84 gf rfl).trans ((ajV107 84 gf rfl).trans ((ajV102 84 gf rfl).trans (up2_s hV50))))
                have pq128 : (V115 5 8).toInt = ((V 5 8)).toInt := congrArg Int32.toInt ((ajV115 5 8 rfl).trans ((ajV107 5 8 rfl).trans ((ajV102 5 8 rfl).trans ((up2_o hV50 (by decide)).trans (ajV15 5 8 rfl)))))
                have pq129 : (V115 5 9).toInt = ((V15 5 9)).toInt := congrArg Int32.toInt ((ajV115 5 9 rfl).trans ((ajV107 5 9 rfl).trans ((ajV102 5 9 rfl).trans (up2_o hV50 (by decide)))))
                have pq130 : (V115 3 13).toInt = ((V 3 13)).toInt := congrArg Int32.toInt ((ajV115 3 13 rfl).trans ((ajV107 3 13 rfl).trans ((ajV102 3 13 rfl).trans ((up2_o hV50 (by decide)).trans (ajV15 3 13 rfl)))))
                have pq131 : (V115 43 (5 * b + 2)).toInt = ((V 43 (5 * b + 2))).toInt := congrArg Int32.toInt ((ajV115 43 (5 * b + 2) rfl).trans ((ajV107 43 (5 * b + 2) rfl).trans ((ajV102 43 (5 * b + 2) rfl).trans ((up2_o hV50 (by decide)).trans (ajV15 43 (5 * b + 2) rfl)))))
                have pq132 : (V115 42 b).toInt = ((V 42 b)).toInt := congrArg Int32.toInt ((ajV115 42 b rfl).trans ((ajV107 42 b rfl).trans ((ajV102 42 b rfl).trans ((up2_o hV50 (by decide)).trans (ajV15 42 b rfl)))))
                have pq133 : (V115 41 b).toInt = ((V 41 b)).toInt := congrArg Int32.toInt ((ajV115 41 b rfl).trans ((ajV107 41 b rfl).trans ((ajV102 41 b rfl).trans ((up2_o hV50 (by decide)).trans (ajV15 41 b rfl)))))
                have af135 : (V115 42 b).toInt ≤ (V115 84 gf).toInt ∨ (bdp V115 b (V115 84 gf).toInt.toNat).1 = true := by rw [((ajV115 84 gf rfl).trans ((ajV107 84 gf rfl).trans ((ajV102 84 gf rfl).trans (up2_s hV50)))), me121.1.bd, me121.1 42 b (by decide) (by decide)]; exact atn
                have mo134 : MO V115 Z b gf True True True := MO.ch xlp16_0 me121 ((ajV115 67 gf rfl).trans ((ajV107 67 gf rfl).trans ((ajV102 67 gf rfl).trans (up2_o hV50 (by decide))))) ((ajV115 80 gf rfl).trans ((ajV107 80 gf rfl).trans ((ajV102 80 gf rfl).trans (up2_o hV50 (by decide))))) (fun _ => Or.inl (by omega)) (fun x h => FK.k4 (by omega) (by omega) (by omega) af135 (by omega) (fun hph => absurd hph (by omega)))
                exact ihlp16 z117 y14 V115 H locs ls (by (first | exact om_4c7236201e99 r12.2 klp16_0.1 f39 hz117 | omega)) (by (first | exact om_1b1f2d1cff90 klp16_1.1 klp16_1.2 | omega)) mo134 (show (gf : Int) + 1 = (V115 5 6).toInt from by (first | exact om_6e5bbaaa0e03 xlp16_1 pq118 | omega)) (show (V115 67 gf).toInt = 4 from by (first | exact om_ac6651f4ff0c xlp16_2 pq119 | omega)) (show (V115 68 gf).toInt = 0 from by (first | exact om_36161e850215 xlp16_3 pq120 | omega)) (by (first | exact om_5e93b663c12e hn hz117 | omega)) (agr.tr (agr.tr (agr.tr (agr.up (agr.tr agr.rf ajV15 (by decide) (by decide)) hV50 rfl) ajV102 (by decide) (by decide)) ajV107 (by decide) (by decide)) ajV115 (by decide) (by decide)) hMV115 hP hD hS (lv_sub hl [0, 3, 4, 5] rfl)
            · skip
              have f136 : 10 ≤ ((V 48 (8200 * b + (Int32.toNatClampNeg (V15 84 gf))))).toInt := b_nlt rfl (by decide) c53
              refine lv_aload_n hx hb dX5_work_64 rfl (lv_at hl 3 rfl) ?_
              refine lv_aload_n hx hb dX5_work_65 rfl (lv_at hl 4 rfl) ?_
              refine lv_iload hx hb dX5_work_66 (lv_at hl 0 rfl) ?_
              have pq137 : (V50 5 6).toInt = ((V15 5 6)).toInt := congrArg Int32.toInt (up2_o hV50 (by decide))
              have pq138 : (V50 67 gf).toInt = ((V15 67 gf)).toInt := congrArg Int32.toInt (up2_o hV50 (by decide))
              have pq139 : (V50 68 gf).toInt = ((V15 68 gf)).toInt := congrArg Int32.toInt (up2_o hV50 (by decide))
              have pq140 : (V50 84 gf).toInt = z49.toInt := congrArg Int32.toInt (up2_s hV50)
              have moa141 : MOa V50 Z b gf := MOa.up (MO.a xlp16_0 (by (first | exact om_c88e7ce0b8a2 xlp16_2 | omega)) (by (first | exact om_7ed1cb9eefb0 r12.2 pq27 | omega))) hV50
              have me142 : ME V15 V50 0 := (ME.up ME.rf hV50 (Or.inl ⟨by decide, by decide, by omega⟩))
              have hop143 : ∀ a : Nat, (a : Int) = (V50 84 gf).toInt → (a : Int) < (V50 42 b).toInt → okO V50 b ((V 48 (8200 * b + (Int32.toNatClampNeg (V15 84 gf))))).toInt (V50 48 (8200 * b + a)).toInt ∧ (bdp V50 b (a + 1)).1 = true := fun a ha hl => cd_op mup.2.2.1 me142.1 hbd (by omega) (by omega) a (by omega) hl
              refine gA_int (gA_runV (As := [.ref (Z.fa gf), .int (V 48 (8200 * b + (Int32.toNatClampNeg (V15 84 gf))))]) (rest := []) (ci := 5) (q0 := 5) hx hb hml hown hg hP hD hK hS hA hnw hgk (x_worksWith l D ks H.size ad kk V50 L Z (V 48 (8200 * b + (Int32.toNatClampNeg (V15 84 gf)))) (b) (gf) hMV50 (by omega) (show b < 2 from by (first | exact om_f940a4667dd6 hb2 | omega)) (show gf < Z.nf from by (first | exact om_8c5722e49bb1 hgf | omega)) moa141 (show (gf : Int) + 1 = (V50 5 6).toInt from by (first | exact om_6e5bbaaa0e03 xlp16_1 pq137 | omega)) (show (V50 67 gf).toInt = 4 from by (first | exact om_ac6651f4ff0c xlp16_2 pq138 | omega)) (show (V50 68 gf).toInt = 0 from by (first | exact om_36161e850215 xlp16_3 pq139 | omega)) (show (V50 84 gf).toInt ≤ 8200 from by (first | exact om_e3dfe80441bf r12.2 f46 hz49 pq140 | omega)) hop143) w1478 w1480 w75 w171 w1481 rfl xgMachine hdV_yX5_worksWith ⟨Nat.le_of_ble_eq_true rfl, Nat.le_of_ble_eq_true rfl⟩ rfl hl.1 rfl (Nat.le_of_ble_eq_true rfl) dX5_work_68 ⟨z0, z0⟩) hP hD hK hS hA (fun z144 u145 H locs w146 hP hD hK hS => ?_)
              obtain ⟨V150, L151⟩ := u145
              obtain ⟨hMV150, ajV150, axL151, rgz144, t147, t148, t149⟩ := w146
              have axL151 : L = L151 := Eq.symm axL151
              subst axL151
              have hP : va_P D vwCl (xw ad kk V150 L Z) H := hP
              have hD : va_D A (xw ad kk V150 L Z) := hD
              have hMV150 : rgd bX V150 := hMV150
              have ajV150 : agr [(5, 6), (5, 7), (5, 9), (5, 11), (5, 12)] [39, 68, 75, 77, 78, 84] V50 V150 := ajV150
              have agV150 : agr [(5, 6), (5, 7), (5, 9), (5, 10), (5, 11), (5, 12), (5, 13), (5, 14)] [39, 67, 68, 69, 70, 71, 72, 73, 74, 75, 76, 77, 78, 79, 80, 81, 82, 83, 84, 85] V V150 := agV50.tr ajV150 (by decide) (by decide)
              have rgz144 : 0 ≤ z144.toInt ∧ z144.toInt ≤ 1 := rgz144
              have t147 : Imp (z144.toInt = 1) (MO V150 Z b gf True True True) := t147
              have t148 : Imp (z144.toInt = 0) (MJ V150 Z b) := t148
              have t149 : Imp (z144.toInt = 1) ((V150 5 6).toInt = (V50 5 6).toInt ∧ (V150 67 gf).toInt = 4 ∧ (V150 68 gf).toInt = 0) := t149
              have r152 : 0 ≤ ((V150 5 6)).toInt ∧ ((V150 5 6)).toInt ≤ 400 := hMV150 5 6
              refine lv_istore_n (lv' := [(2, .int z144), (4, .int (V 48 (8200 * b + (Int32.toNatClampNeg (V15 84 gf))))), (3, .int y13), (0, .ref (ad 5)), (1, .ref (Z.fa gf))]) hx hb dX5_work_71 rfl hl (by decide) rfl (fun ls hl => ?_)
              refine lv_goto (tgt := 113) hx hb dX5_work_72 (by decide) ?_
              by_cases hr0 : z144.toInt = 0
              · skip
                obtain ⟨z153, ez153⟩ : ∃ y : Int32, y = y13 + 1 := ⟨_, rfl⟩
                have hz153 : z153.toInt = y13.toInt + 1 := i_add ez153 rfl (by decide) (by (first | exact om_f150dd2841b6 r12.2 klp16_0.1 f39 | omega))
                refine lv_iinc (v := z153) (lv' := [(3, .int z153), (2, .int z144), (4, .int (V 48 (8200 * b + (Int32.toNatClampNeg (V15 84 gf))))), (0, .ref (ad 5)), (1, .ref (Z.fa gf))]) hx hb dX5_work_113 hl (k := 2) rfl (by rw [ez153]; rfl) (by decide) rfl (fun ls hl => ?_)
                refine lv_goto (tgt := 4) hx hb dX5_work_116 (by decide) ?_
                refine lv_iload_n hx hb dX5_work_4 rfl (lv_at hl 1 rfl) ?_
                refine lv_if_eq (tgt := 119) hx hb dX5_work_5 (by decide) (fun c154 => ?_) (fun c154 => ?_)
                · skip
                  have f155 : z144.toInt = 0 := b_eq rfl (by decide) c154
                  refine W.know (fun kr1 kr2 => ?_)
                  refine W.widen (k := zcc Z) (n := zss Z) (Nat.sub_le _ _) (Nat.sub_le _ _) ?_
                  exact W.vret hx hb hr (fun t ht hW => ⟨⟨(V150, L, Z), rfl, ⟨hMV150, agV150, rfl, zoZ, (Imp.go t148 (by (first | exact om_b1799fcf2d63 rgz144.1 f155 | omega)))⟩, ⟨by rw [ht]; exact hP, va_K.moved hW.alike hK, hD⟩, by rw [ht]; exact kr1, by rw [ht]; exact kr2⟩, hS.F ht⟩) hS.2.2 dX5_work_119
                · skip
                  have f156 : z144.toInt ≠ 0 := b_neq rfl (by decide) c154
                  exfalso; first | omega | ((try (have i_t149 := Imp.go t149 (by omega))); omega)
              · skip
                have hr1 : z144.toInt = 1 := by omega
                have mo157 : MO V150 Z b gf True True True := Imp.go t147 hr1
                have hpk := Imp.go t149 hr1
                obtain ⟨z158, ez158⟩ : ∃ y : Int32, y = y13 + 1 := ⟨_, rfl⟩
                have hz158 : z158.toInt = y13.toInt + 1 := i_add ez158 rfl (by decide) (by (first | exact om_f150dd2841b6 r12.2 klp16_0.1 f39 | omega))
                refine lv_iinc (v := z158) (lv' := [(3, .int z158), (2, .int z144), (4, .int (V 48 (8200 * b + (Int32.toNatClampNeg (V15 84 gf))))), (0, .ref (ad 5)), (1, .ref (Z.fa gf))]) hx hb dX5_work_113 hl (k := 2) rfl (by rw [ez158]; rfl) (by decide) rfl (fun ls hl => ?_)
                refine lv_goto (tgt := 4) hx hb dX5_work_116 (by decide) ?_
                have pq159 : (V150 67 gf).toInt = ((V15 67 gf)).toInt := congrArg Int32.toInt ((ajV150 67 gf rfl).trans (up2_o hV50 (by decide)))
                exact ihlp16 z158 z144 V150 H locs ls (by first | exact om_4c7236201e99 r12.2 klp16_0.1 f39 hz158 | first | omega | ((try (have i_t149 := Imp.go t149 (by omega))); omega)) (by first | exact om_e6bad570a1f1 rgz144.2 hr1 | first | omega | ((try (have i_t149 := Imp.go t149 (by omega))); omega)) mo157 (show (gf : Int) + 1 = (V150 5 6).toInt from by first | exact om_697b823fa352 xlp16_1 pq137 ((Imp.go t149 (hr1)).1) | first | omega | ((try (have i_t149 := Imp.go t149 (by omega))); omega)) (show (V150 67 gf).toInt = 4 from by first | exact om_ac6651f4ff0c xlp16_2 pq159 | first | omega | ((try (have i_t149 := Imp.go t149 (by omega))); omega)) (show (V150 68 gf).toInt = 0 from by first | exact om_b66ba74381d5 ((Imp.go t149 (hr1)).2.2) | first | omega | ((try (have i_t149 := Imp.go t149 (by omega))); omega)) (by first | exact om_5e93b663c12e hn hz158 | first | omega | ((try (have i_t149 := Imp.go t149 (by omega))); omega)) (agr.tr (agr.up (agr.tr agr.rf ajV15 (by decide) (by decide)) hV50 rfl) ajV150 (by decide) (by decide)) hMV150 hP hD hS (lv_sub hl [0, 1, 3, 4] rfl)
  have r160 : Int32.toInt 0 = 0 := by decide
  have r161 : Int32.toInt 1 = 1 := by decide
  exact lp16 ((8200 - (Int32.toInt 0) + 1 : Int).toNat) 0 1 V H locs ls (by decide) (by decide) mo (show (gf : Int) + 1 = (V 5 6).toInt from by (first | exact om_b7eb86266639 gd | omega)) (show (V 67 gf).toInt = 4 from by (first | exact om_c88e7ce0b8a2 gk | omega)) (show (V 68 gf).toInt = 0 from by (first | exact om_b66ba74381d5 gph | omega)) (by (first | exact om_fef0be1a3cbf | omega)) agr.rf hMV hP hD hS (lv_sub hl [0, 1, 2, 3] rfl)
end
