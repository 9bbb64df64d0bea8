/-! wraps and methods of an object, at a later version -/
theorem CE.lt {nd : Int} {ar : Bool} {V : Vf} {lo hi a : Nat} (h : CE nd ar V lo hi a) : a < hi := by
  obtain ⟨_, ⟨f, q⟩, _⟩ := h
  cases f with
  | zero => exact q.elim
  | succ f => exact q.2.1
/-- a wrap's E, by its phase -/
theorem TB.wrapE {V : Vf} {o m ph : Int32} {w : Nat} (t : TB V) (hw : (w : Int) < (V 39 (nwh V)).toInt) (b : isWb V o m ph w = true) {ar : Bool} (har : decide (ph.toInt = 1) = ar) : 0 ≤ (V 44 (12 * nwh V + w)).toInt ∧ CE 0 ar V (10000 * nwh V) (10000 * nwh V + 10000) (V 44 (12 * nwh V + w)).toInt.toNat := by
  have q := (show TBL V (nwh V) _ from t).2 w hw
  have b2 := of_decide_eq_true b
  refine ⟨q.1, ?_⟩
  have c := q.2.1
  rw [b2.2.1, har] at c
  exact c
/-- a component's E -/
theorem TB.compE {V : Vf} {c : Nat} (t : TB V) (h : th V c) : cOK V (10000 * nwh V) (10000 * nwh V + 10000) (24 * nwh V + c) := (show TBL V (nwh V) _ from t).1 c h.1
theorem CE.at {nd : Int} {ar : Bool} {V : Vf} {lo hi : Nat} {x : Int32} (h : CE nd ar V lo hi x.toInt.toNat) : CE nd ar V lo hi (Int32.toNatClampNeg x) := h

theorem w2271 : Cond.code yX12_works cX12_works 6 (some .int) ∈ GW := gw_k tk9_9 196 (rfl) rfl
theorem w2268 : Cond.methodLink RX12 503 yX12_works ∈ GW := gw_k tk9_9 193 (by decide +kernel) rfl
theorem w2270 : Cond.instanceMethod yX12_works ∈ GW := gw_k tk9_9 195 (by decide +kernel) rfl
theorem w136 : Cond.selects RX12 yX12_works yX12_works ∈ GW := gw_mem 136 (by decide +kernel) rfl
theorem hdV_yX12_works : yX12_works.cls = RX12 ∧ yX12_works.cls ≠ "java/lang/invoke/MethodHandle" ∧ yX12_works.cls ≠ "java/lang/invoke/VarHandle" ∧ (parseMethodDescriptor yX12_works.desc).map (fun d => d.parameters.length) = some 5 := by decide +kernel
theorem dk9_dX12_closes_0_0 : dOk cX12_closes [(0, .bipush 24, 2), (2, .aload_n 0, 1), (3, .getfield 286, 3), (6, .imul, 1), (7, .aload_n 0, 1), (8, .getfield 164, 3), (11, .iload_n 1, 1), (12, .iaload, 1), (13, .iadd, 1), (14, .istore_n 2, 1), (15, .iconst 0, 1), (16, .istore_n 3, 1), (17, .aload_n 0, 1), (18, .getfield 104, 3), (21, .iload_n 2, 1), (22, .iaload, 1), (23, .ifCond .lt 23, 3), (46, .aload_n 0, 1), (47, .getfield 417, 3), (50, .sipush 300, 3), (53, .if_icmp .ge 56, 3), (109, .aload_n 0, 1), (110, .dup, 1), (111, .getfield 417, 3)] = true ∧ dOk cX12_closes [(114, .iconst 1, 1), (115, .iadd, 1), (116, .putfield 417, 3), (119, .aload_n 0, 1), (120, .getfield 170, 3), (123, .iload_n 1, 1), (124, .iconst 2, 1), (125, .iastore, 1), (126, .iload_n 3, 1), (127, .iconst 2, 1), (128, .if_icmp .ne 7, 3), (135, .iconst 0, 1), (136, .ireturn, 1), (56, .aload_n 0, 1), (57, .getfield 183, 3), (60, .aload_n 0, 1), (61, .getfield 417, 3), (64, .iload_n 1, 1), (65, .iastore, 1), (66, .aload_n 0, 1), (67, .getfield 186, 3), (70, .aload_n 0, 1), (71, .getfield 417, 3), (74, .iload_n 3, 1)] = true ∧ dOk cX12_closes [(75, .ifCond .ne 7, 3), (78, .iconst 0, 1), (79, .goto 29, 3), (108, .iastore, 1), (26, .aload_n 0, 1), (27, .aload_n 0, 1), (28, .getfield 104, 3), (31, .iload_n 2, 1), (32, .iaload, 1), (33, .iload_n 1, 1), (34, .aload_n 0, 1), (35, .getfield 167, 3), (38, .iload_n 1, 1), (39, .iaload, 1), (40, .iconst 0, 1), (41, .iconst (-1), 1), (42, .invokevirtual 503, 3), (45, .istore_n 3, 1), (131, .iconst 1, 1), (132, .goto 4, 3), (82, .iload_n 3, 1), (83, .iconst 2, 1), (84, .if_icmp .ne 8, 3), (92, .aload_n 0, 1)] = true ∧ dOk cX12_closes [(93, .getfield 471, 3), (96, .ifCond .le 8, 3), (104, .aload_n 0, 1), (105, .getfield 474, 3), (99, .bipush 20, 2), (101, .goto 7, 3), (87, .bipush 18, 2), (89, .goto 19, 3)] = true := by decide +kernel
theorem dX12_closes_0 : decode cX12_closes 0 = .ok (.bipush 24, 2) := dr9 dk9_dX12_closes_0_0.1 0 (0, .bipush 24, 2) rfl
theorem dX12_closes_2 : decode cX12_closes 2 = .ok (.aload_n 0, 1) := dr9 dk9_dX12_closes_0_0.1 1 (2, .aload_n 0, 1) rfl
theorem dX12_closes_3 : decode cX12_closes 3 = .ok (.getfield 286, 3) := dr9 dk9_dX12_closes_0_0.1 2 (3, .getfield 286, 3) rfl
theorem dX12_closes_6 : decode cX12_closes 6 = .ok (.imul, 1) := dr9 dk9_dX12_closes_0_0.1 3 (6, .imul, 1) rfl
theorem dX12_closes_7 : decode cX12_closes 7 = .ok (.aload_n 0, 1) := dr9 dk9_dX12_closes_0_0.1 4 (7, .aload_n 0, 1) rfl
theorem dX12_closes_8 : decode cX12_closes 8 = .ok (.getfield 164, 3) := dr9 dk9_dX12_closes_0_0.1 5 (8, .getfield 164, 3) rfl
theorem dX12_closes_11 : decode cX12_closes 11 = .ok (.iload_n 1, 1) := dr9 dk9_dX12_closes_0_0.1 6 (11, .iload_n 1, 1) rfl
theorem dX12_closes_12 : decode cX12_closes 12 = .ok (.iaload, 1) := dr9 dk9_dX12_closes_0_0.1 7 (12, .iaload, 1) rfl
theorem dX12_closes_13 : decode cX12_closes 13 = .ok (.iadd, 1) := dr9 dk9_dX12_closes_0_0.1 8 (13, .iadd, 1) rfl
theorem dX12_closes_14 : decode cX12_closes 14 = .ok (.istore_n 2, 1) := dr9 dk9_dX12_closes_0_0.1 9 (14, .istore_n 2, 1) rfl
theorem dX12_closes_15 : decode cX12_closes 15 = .ok (.iconst 0, 1) := dr9 dk9_dX12_closes_0_0.1 10 (15, .iconst 0, 1) rfl
theorem dX12_closes_16 : decode cX12_closes 16 = .ok (.istore_n 3, 1) := dr9 dk9_dX12_closes_0_0.1 11 (16, .istore_n 3, 1) rfl
theorem dX12_closes_17 : decode cX12_closes 17 = .ok (.aload_n 0, 1) := dr9 dk9_dX12_closes_0_0.1 12 (17, .aload_n 0, 1) rfl
theorem dX12_closes_18 : decode cX12_closes 18 = .ok (.getfield 104, 3) := dr9 dk9_dX12_closes_0_0.1 13 (18, .getfield 104, 3) rfl
theorem dX12_closes_21 : decode cX12_closes 21 = .ok (.iload_n 2, 1) := dr9 dk9_dX12_closes_0_0.1 14 (21, .iload_n 2, 1) rfl
theorem dX12_closes_22 : decode cX12_closes 22 = .ok (.iaload, 1) := dr9 dk9_dX12_closes_0_0.1 15 (22, .iaload, 1) rfl
theorem dX12_closes_23 : decode cX12_closes 23 = .ok (.ifCond .lt 23, 3) := dr9 dk9_dX12_closes_0_0.1 16 (23, .ifCond .lt 23, 3) rfl
theorem dX12_closes_46 : decode cX12_closes 46 = .ok (.aload_n 0, 1) := dr9 dk9_dX12_closes_0_0.1 17 (46, .aload_n 0, 1) rfl
theorem dX12_closes_47 : decode cX12_closes 47 = .ok (.getfield 417, 3) := dr9 dk9_dX12_closes_0_0.1 18 (47, .getfield 417, 3) rfl
theorem dX12_closes_50 : decode cX12_closes 50 = .ok (.sipush 300, 3) := dr9 dk9_dX12_closes_0_0.1 19 (50, .sipush 300, 3) rfl
theorem dX12_closes_53 : decode cX12_closes 53 = .ok (.if_icmp .ge 56, 3) := dr9 dk9_dX12_closes_0_0.1 20 (53, .if_icmp .ge 56, 3) rfl
theorem dX12_closes_109 : decode cX12_closes 109 = .ok (.aload_n 0, 1) := dr9 dk9_dX12_closes_0_0.1 21 (109, .aload_n 0, 1) rfl
theorem dX12_closes_110 : decode cX12_closes 110 = .ok (.dup, 1) := dr9 dk9_dX12_closes_0_0.1 22 (110, .dup, 1) rfl
theorem dX12_closes_111 : decode cX12_closes 111 = .ok (.getfield 417, 3) := dr9 dk9_dX12_closes_0_0.1 23 (111, .getfield 417, 3) rfl
theorem dX12_closes_114 : decode cX12_closes 114 = .ok (.iconst 1, 1) := dr9 dk9_dX12_closes_0_0.2.1 0 (114, .iconst 1, 1) rfl
theorem dX12_closes_115 : decode cX12_closes 115 = .ok (.iadd, 1) := dr9 dk9_dX12_closes_0_0.2.1 1 (115, .iadd, 1) rfl
theorem dX12_closes_116 : decode cX12_closes 116 = .ok (.putfield 417, 3) := dr9 dk9_dX12_closes_0_0.2.1 2 (116, .putfield 417, 3) rfl
theorem dX12_closes_119 : decode cX12_closes 119 = .ok (.aload_n 0, 1) := dr9 dk9_dX12_closes_0_0.2.1 3 (119, .aload_n 0, 1) rfl
theorem dX12_closes_120 : decode cX12_closes 120 = .ok (.getfield 170, 3) := dr9 dk9_dX12_closes_0_0.2.1 4 (120, .getfield 170, 3) rfl
theorem dX12_closes_123 : decode cX12_closes 123 = .ok (.iload_n 1, 1) := dr9 dk9_dX12_closes_0_0.2.1 5 (123, .iload_n 1, 1) rfl
theorem dX12_closes_124 : decode cX12_closes 124 = .ok (.iconst 2, 1) := dr9 dk9_dX12_closes_0_0.2.1 6 (124, .iconst 2, 1) rfl
theorem dX12_closes_125 : decode cX12_closes 125 = .ok (.iastore, 1) := dr9 dk9_dX12_closes_0_0.2.1 7 (125, .iastore, 1) rfl
theorem dX12_closes_126 : decode cX12_closes 126 = .ok (.iload_n 3, 1) := dr9 dk9_dX12_closes_0_0.2.1 8 (126, .iload_n 3, 1) rfl
theorem dX12_closes_127 : decode cX12_closes 127 = .ok (.iconst 2, 1) := dr9 dk9_dX12_closes_0_0.2.1 9 (127, .iconst 2, 1) rfl
theorem dX12_closes_128 : decode cX12_closes 128 = .ok (.if_icmp .ne 7, 3) := dr9 dk9_dX12_closes_0_0.2.1 10 (128, .if_icmp .ne 7, 3) rfl
theorem dX12_closes_135 : decode cX12_closes 135 = .ok (.iconst 0, 1) := dr9 dk9_dX12_closes_0_0.2.1 11 (135, .iconst 0, 1) rfl
theorem dX12_closes_136 : decode cX12_closes 136 = .ok (.ireturn, 1) := dr9 dk9_dX12_closes_0_0.2.1 12 (136, .ireturn, 1) rfl
theorem dX12_closes_56 : decode cX12_closes 56 = .ok (.aload_n 0, 1) := dr9 dk9_dX12_closes_0_0.2.1 13 (56, .aload_n 0, 1) rfl
theorem dX12_closes_57 : decode cX12_closes 57 = .ok (.getfield 183, 3) := dr9 dk9_dX12_closes_0_0.2.1 14 (57, .getfield 183, 3) rfl
theorem dX12_closes_60 : decode cX12_closes 60 = .ok (.aload_n 0, 1) := dr9 dk9_dX12_closes_0_0.2.1 15 (60, .aload_n 0, 1) rfl
theorem dX12_closes_61 : decode cX12_closes 61 = .ok (.getfield 417, 3) := dr9 dk9_dX12_closes_0_0.2.1 16 (61, .getfield 417, 3) rfl
theorem dX12_closes_64 : decode cX12_closes 64 = .ok (.iload_n 1, 1) := dr9 dk9_dX12_closes_0_0.2.1 17 (64, .iload_n 1, 1) rfl
theorem dX12_closes_65 : decode cX12_closes 65 = .ok (.iastore, 1) := dr9 dk9_dX12_closes_0_0.2.1 18 (65, .iastore, 1) rfl
theorem dX12_closes_66 : decode cX12_closes 66 = .ok (.aload_n 0, 1) := dr9 dk9_dX12_closes_0_0.2.1 19 (66, .aload_n 0, 1) rfl
theorem dX12_closes_67 : decode cX12_closes 67 = .ok (.getfield 186, 3) := dr9 dk9_dX12_closes_0_0.2.1 20 (67, .getfield 186, 3) rfl
theorem dX12_closes_70 : decode cX12_closes 70 = .ok (.aload_n 0, 1) := dr9 dk9_dX12_closes_0_0.2.1 21 (70, .aload_n 0, 1) rfl
theorem dX12_closes_71 : decode cX12_closes 71 = .ok (.getfield 417, 3) := dr9 dk9_dX12_closes_0_0.2.1 22 (71, .getfield 417, 3) rfl
theorem dX12_closes_74 : decode cX12_closes 74 = .ok (.iload_n 3, 1) := dr9 dk9_dX12_closes_0_0.2.1 23 (74, .iload_n 3, 1) rfl
theorem dX12_closes_75 : decode cX12_closes 75 = .ok (.ifCond .ne 7, 3) := dr9 dk9_dX12_closes_0_0.2.2.1 0 (75, .ifCond .ne 7, 3) rfl
theorem dX12_closes_78 : decode cX12_closes 78 = .ok (.iconst 0, 1) := dr9 dk9_dX12_closes_0_0.2.2.1 1 (78, .iconst 0, 1) rfl
theorem dX12_closes_79 : decode cX12_closes 79 = .ok (.goto 29, 3) := dr9 dk9_dX12_closes_0_0.2.2.1 2 (79, .goto 29, 3) rfl
theorem dX12_closes_108 : decode cX12_closes 108 = .ok (.iastore, 1) := dr9 dk9_dX12_closes_0_0.2.2.1 3 (108, .iastore, 1) rfl
theorem dX12_closes_26 : decode cX12_closes 26 = .ok (.aload_n 0, 1) := dr9 dk9_dX12_closes_0_0.2.2.1 4 (26, .aload_n 0, 1) rfl
theorem dX12_closes_27 : decode cX12_closes 27 = .ok (.aload_n 0, 1) := dr9 dk9_dX12_closes_0_0.2.2.1 5 (27, .aload_n 0, 1) rfl
theorem dX12_closes_28 : decode cX12_closes 28 = .ok (.getfield 104, 3) := dr9 dk9_dX12_closes_0_0.2.2.1 6 (28, .getfield 104, 3) rfl
theorem dX12_closes_31 : decode cX12_closes 31 = .ok (.iload_n 2, 1) := dr9 dk9_dX12_closes_0_0.2.2.1 7 (31, .iload_n 2, 1) rfl
theorem dX12_closes_32 : decode cX12_closes 32 = .ok (.iaload, 1) := dr9 dk9_dX12_closes_0_0.2.2.1 8 (32, .iaload, 1) rfl
theorem dX12_closes_33 : decode cX12_closes 33 = .ok (.iload_n 1, 1) := dr9 dk9_dX12_closes_0_0.2.2.1 9 (33, .iload_n 1, 1) rfl
theorem dX12_closes_34 : decode cX12_closes 34 = .ok (.aload_n 0, 1) := dr9 dk9_dX12_closes_0_0.2.2.1 10 (34, .aload_n 0, 1) rfl
theorem dX12_closes_35 : decode cX12_closes 35 = .ok (.getfield 167, 3) := dr9 dk9_dX12_closes_0_0.2.2.1 11 (35, .getfield 167, 3) rfl
theorem dX12_closes_38 : decode cX12_closes 38 = .ok (.iload_n 1, 1) := dr9 dk9_dX12_closes_0_0.2.2.1 12 (38, .iload_n 1, 1) rfl
theorem dX12_closes_39 : decode cX12_closes 39 = .ok (.iaload, 1) := dr9 dk9_dX12_closes_0_0.2.2.1 13 (39, .iaload, 1) rfl
theorem dX12_closes_40 : decode cX12_closes 40 = .ok (.iconst 0, 1) := dr9 dk9_dX12_closes_0_0.2.2.1 14 (40, .iconst 0, 1) rfl
theorem dX12_closes_41 : decode cX12_closes 41 = .ok (.iconst (-1), 1) := dr9 dk9_dX12_closes_0_0.2.2.1 15 (41, .iconst (-1), 1) rfl
theorem dX12_closes_42 : decode cX12_closes 42 = .ok (.invokevirtual 503, 3) := dr9 dk9_dX12_closes_0_0.2.2.1 16 (42, .invokevirtual 503, 3) rfl
theorem dX12_closes_45 : decode cX12_closes 45 = .ok (.istore_n 3, 1) := dr9 dk9_dX12_closes_0_0.2.2.1 17 (45, .istore_n 3, 1) rfl
theorem dX12_closes_131 : decode cX12_closes 131 = .ok (.iconst 1, 1) := dr9 dk9_dX12_closes_0_0.2.2.1 18 (131, .iconst 1, 1) rfl
theorem dX12_closes_132 : decode cX12_closes 132 = .ok (.goto 4, 3) := dr9 dk9_dX12_closes_0_0.2.2.1 19 (132, .goto 4, 3) rfl
theorem dX12_closes_82 : decode cX12_closes 82 = .ok (.iload_n 3, 1) := dr9 dk9_dX12_closes_0_0.2.2.1 20 (82, .iload_n 3, 1) rfl
theorem dX12_closes_83 : decode cX12_closes 83 = .ok (.iconst 2, 1) := dr9 dk9_dX12_closes_0_0.2.2.1 21 (83, .iconst 2, 1) rfl
theorem dX12_closes_84 : decode cX12_closes 84 = .ok (.if_icmp .ne 8, 3) := dr9 dk9_dX12_closes_0_0.2.2.1 22 (84, .if_icmp .ne 8, 3) rfl
theorem dX12_closes_92 : decode cX12_closes 92 = .ok (.aload_n 0, 1) := dr9 dk9_dX12_closes_0_0.2.2.1 23 (92, .aload_n 0, 1) rfl
theorem dX12_closes_93 : decode cX12_closes 93 = .ok (.getfield 471, 3) := dr9 dk9_dX12_closes_0_0.2.2.2 0 (93, .getfield 471, 3) rfl
theorem dX12_closes_96 : decode cX12_closes 96 = .ok (.ifCond .le 8, 3) := dr9 dk9_dX12_closes_0_0.2.2.2 1 (96, .ifCond .le 8, 3) rfl
theorem dX12_closes_104 : decode cX12_closes 104 = .ok (.aload_n 0, 1) := dr9 dk9_dX12_closes_0_0.2.2.2 2 (104, .aload_n 0, 1) rfl
theorem dX12_closes_105 : decode cX12_closes 105 = .ok (.getfield 474, 3) := dr9 dk9_dX12_closes_0_0.2.2.2 3 (105, .getfield 474, 3) rfl
theorem dX12_closes_99 : decode cX12_closes 99 = .ok (.bipush 20, 2) := dr9 dk9_dX12_closes_0_0.2.2.2 4 (99, .bipush 20, 2) rfl
theorem dX12_closes_101 : decode cX12_closes 101 = .ok (.goto 7, 3) := dr9 dk9_dX12_closes_0_0.2.2.2 5 (101, .goto 7, 3) rfl
theorem dX12_closes_87 : decode cX12_closes 87 = .ok (.bipush 18, 2) := dr9 dk9_dX12_closes_0_0.2.2.2 6 (87, .bipush 18, 2) rfl
theorem dX12_closes_89 : decode cX12_closes 89 = .ok (.goto 19, 3) := dr9 dk9_dX12_closes_0_0.2.2.2 7 (89, .goto 19, 3) rfl
abbrev q_s_closes (D : va_G) (ks : KS) (ad : Nat → Nat) (kk : Nat → ClassId) (V : Vf) (L : Lf) (p0 : Int32) (A : Nat → Prop) : Array Value → State → Outcome → State → Prop := va_Qi (fun (r : Int32) (u : Vf × Lf) => rgd bM u.1 ∧ agr [(0, 60), (0, 65), (0, 68), (0, 69), (0, 73), (0, 76), (0, 90), (0, 91), (0, 92), (0, 93), (0, 95), (0, 96), (0, 98)] [59, 61, 62, 63, 64, 66, 67, 74, 75, 77, 78, 79, 80, 94, 97] V u.1 ∧ u.2 = L ∧ (0 ≤ r.toInt ∧ r.toInt ≤ 1) ∧ ((u.1 0 93).toInt = (V 0 93).toInt) ∧ ((u.1 0 98).toInt = (V 0 98).toInt) ∧ ((V 0 60).toInt ≤ (u.1 0 60).toInt) ∧ ((V 0 65).toInt ≤ (u.1 0 65).toInt) ∧ ((u.1 0 65).toInt - (V 0 65).toInt ≤ (u.1 0 60).toInt - (V 0 60).toInt) ∧ ((u.1 0 73).toInt + (u.1 0 95).toInt - (u.1 0 65).toInt ≤ (V 0 73).toInt + (V 0 95).toInt - (V 0 65).toInt + 1) ∧ ((V 0 73).toInt ≤ (u.1 0 73).toInt) ∧ ((V 0 69).toInt ≤ (u.1 0 69).toInt) ∧ ((u.1 0 95).toInt = (V 0 95).toInt) ∧ ((u.1 0 76).toInt - (u.1 0 69).toInt - (u.1 0 73).toInt ≤ (V 0 76).toInt - (V 0 69).toInt - (V 0 73).toInt) ∧ ((u.1 63 (Int32.toNatClampNeg p0)).toInt = 2) ∧ (RT u.1) ∧ (FRM V u.1 (-1))) (fun u t => gq D A (mw ad kk ks.1 u.1 u.2) (mty kk) t) A
def K_s_closes (l : Launch) (D : va_G) (ks : KS) (d1 d2 : Nat) : Prop := ∀ (sz : Nat) (ad : Nat → Nat) (kk : Nat → ClassId) (V : Vf) (L : Lf) (p0 : Int32) (hMV : rgd bM V) (rg_p0 : 0 ≤ p0.toInt ∧ p0.toInt ≤ 299) (rt : RT V) (n1 : (V 0 65).toInt ≤ (V 0 60).toInt) (n2 : (V 0 95).toInt ≤ (V 0 65).toInt) (n3 : (V 0 73).toInt + (V 0 95).toInt - (V 0 65).toInt ≤ 999000) (n4 : (V 0 76).toInt - (V 0 69).toInt - (V 0 73).toInt ≤ 1000000000) (n5 : 300 - (V 0 60).toInt ≤ (d1 : Int)) (n6 : 10 - (V 0 93).toInt ≤ (d2 : Int)) (oq1 : p0.toInt < (V 0 60).toInt) (n7 : (V 0 98).toInt + 400 * (d2 : Int) + 30 ≤ 19000) (st1 : 1 ≤ (V 63 (Int32.toNatClampNeg p0)).toInt) , Met l yX12_closes (Cond.code yX12_closes cX12_closes 4 (some .boolean) :: GW) (rK2 (4 * d1 + 40 * d2 + 13) (100 * d1 + 1000 * d2 + 500)) (va_Pc [.ref (ad 0), .int p0] (gp D ks (mw ad kk ks.1 V L) (mty kk) sz)) (q_s_closes D ks ad kk V L p0 (va_A (mw ad kk ks.1 V L) sz)) 0 0 (va_A (mw ad kk ks.1 V L) sz)