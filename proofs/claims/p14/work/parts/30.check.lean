theorem DD.nx {fs : List (Nat × Nat)} {cs : List Nat} {V W : Vf} {l k : Int} {c j lo hi : Nat} (h : DD V l k) (c0 : c0k V W) (a : agr fs cs V W) (q : thC fs cs) (hn : 1 ≤ (V 30 (8 * (24 * nwh V + c) + j)).toInt ∨ th V (cd0 W)) (cok : cOK V lo hi (24 * nwh V + c)) (hc : (c : Int) = l) (hj : (j : Int) = k) : DD W l (k + 1) := by
  rcases hn with hn | hn
  · have h2 : DD V l (k + 1) := by
      rcases h with h | h
      · exact Or.inl h
      · refine Or.inr (fun c' j' hq ht hL => ?_)
        by_cases e : (c' : Int) = l ∧ (j' : Int) = k
        · have e1 : c' = c := by omega
          have e2 : j' = j := by omega
          subst e1
          subst e2
          have h9 := (cok.2.2.2 j' hL.1).2 hL.2
          omega
        · exact h c' j' (by omega) ht hL
    exact h2.st a q c0
  · exact Or.inl (hn.ag a q)
theorem DD.up1 {V : Vf} {l k : Int} {c : Nat} (h : DD V l k) (hc : (c : Int) = l) (hx : (V 27 (24 * nwh V + c)).toInt ≤ k ∨ ¬ th V c) : DD V (l + 1) 0 := by
  rcases h with h | h
  · exact Or.inl h
  · refine Or.inr (fun c' j' hq ht hL => ?_)
    by_cases e : (c' : Int) < l
    · exact h c' j' (Or.inl e) ht hL
    · have e1 : c' = c := by omega
      subst e1
      rcases hx with hx | hx
      · exact h c' j' (Or.inr ⟨hc, by have := hL.1; omega⟩) ht hL
      · exact hx ht
theorem DD.le {V : Vf} {l l' k : Int} (h : DD V l k) (hl : l' ≤ l) : DD V l' 0 := by
  rcases h with h | h
  · exact Or.inl h
  · exact Or.inr (fun c j hq => h c j (by omega))
theorem DD.z {V : Vf} {l : Int} (hl : l ≤ 0) : DD V l 0 := Or.inr (fun c j hq => absurd hq (by omega))
theorem DD.RD {V : Vf} {l k : Int} (h : DD V l k) (hl : (V 19 (nwh V)).toInt ≤ l) : th V (cd0 V) ∨ ∀ c j : Nat, th V c → ¬ ndL V c j := by
  rcases h with h | h
  · exact Or.inl h
  · exact Or.inr (fun c j ht => h c j (Or.inl (by have := ht.1; omega)) ht)
theorem RD_st {fs : List (Nat × Nat)} {cs : List Nat} {V W : Vf} (h : th V (cd0 V) ∨ ∀ c j : Nat, th V c → ¬ ndL V c j) (a : agr fs cs V W) (q : thC fs cs) (c0 : c0k V W) : th W (cd0 W) ∨ ∀ c j : Nat, th W c → ¬ ndL W c j := by
  rcases h with h | h
  · rcases c0 with c0 | c0
    · left
      have e : cd0 W = cd0 V := by unfold cd0; rw [c0]
      rw [e]
      exact h.ag a q
    · exact Or.inl (c0.ag a q)
  · exact Or.inr (fun c j ht hn => h c j (ht.ag a.sy q) (hn.ag a.sy q))

theorem w2171 : Cond.code yX12_checkNeed cX12_checkNeed 10 none ∈ GW := gw_k tk9_9 96 (rfl) rfl
theorem w2168 : Cond.methodLink RX12 445 yX12_checkNeed ∈ GW := gw_k tk9_9 93 (by decide +kernel) rfl
theorem w2170 : Cond.instanceMethod yX12_checkNeed ∈ GW := gw_k tk9_9 95 (by decide +kernel) rfl
theorem w118 : Cond.selects RX12 yX12_checkNeed yX12_checkNeed ∈ GW := gw_mem 118 (by decide +kernel) rfl
theorem hdV_yX12_checkNeed : yX12_checkNeed.cls = RX12 ∧ yX12_checkNeed.cls ≠ "java/lang/invoke/MethodHandle" ∧ yX12_checkNeed.cls ≠ "java/lang/invoke/VarHandle" ∧ (parseMethodDescriptor yX12_checkNeed.desc).map (fun d => d.parameters.length) = some 2 := by decide +kernel
theorem dk9_dX12_check_0_0 : dOk cX12_check [(0, .aload_n 0, 1), (1, .iconst 0, 1), (2, .putfield 1, 3), (5, .aload_n 0, 1), (6, .iconst 0, 1), (7, .putfield 435, 3), (10, .iconst 0, 1), (11, .istore_n 1, 1), (12, .iload_n 1, 1), (13, .aload_n 0, 1), (14, .getfield 62, 3), (17, .aload_n 0, 1), (18, .getfield 286, 3), (21, .iaload, 1), (22, .if_icmp .ge 56, 3), (78, .aload_n 0, 1), (79, .iconst 0, 1), (80, .putfield 449, 3), (83, .iconst 0, 1), (84, .istore_n 1, 1), (85, .iload_n 1, 1), (86, .aload_n 0, 1), (87, .getfield 62, 3), (90, .aload_n 0, 1)] = true ∧ dOk cX12_check [(91, .getfield 286, 3), (94, .iaload, 1), (95, .if_icmp .ge 31, 3), (126, .aload_n 0, 1), (127, .aload_n 0, 1), (128, .getfield 408, 3), (131, .ifCond .ne 10, 3), (141, .iconst 1, 1), (142, .goto 4, 3), (146, .putfield 408, 3), (149, .aload_n 0, 1), (150, .getfield 435, 3), (153, .ireturn, 1), (134, .aload_n 0, 1), (135, .getfield 435, 3), (138, .ifCond .ne 7, 3), (145, .iconst 0, 1), (98, .aload_n 0, 1), (99, .iload_n 1, 1), (100, .invokevirtual 438, 3), (103, .ifCond .eq 17, 3), (120, .iinc 1 1, 3), (123, .goto (-38), 3), (106, .aload_n 0, 1)] = true ∧ dOk cX12_check [(107, .getfield 216, 3), (110, .iload_n 1, 1), (111, .iaload, 1), (112, .ifCond .ne 8, 3), (115, .aload_n 0, 1), (116, .iload_n 1, 1), (117, .invokevirtual 452, 3), (25, .aload_n 0, 1), (26, .getfield 216, 3), (29, .iload_n 1, 1), (30, .iconst 0, 1), (31, .iastore, 1), (32, .iconst 0, 1), (33, .istore_n 2, 1), (34, .iload_n 2, 1), (35, .aload_n 0, 1), (36, .getfield 86, 3), (39, .bipush 24, 2), (41, .aload_n 0, 1), (42, .getfield 286, 3), (45, .imul, 1), (46, .iload_n 1, 1), (47, .iadd, 1), (48, .iaload, 1)] = true ∧ dOk cX12_check [(49, .if_icmp .ge 23, 3), (72, .iinc 1 1, 3), (75, .goto (-63), 3), (52, .aload_n 0, 1), (53, .iload_n 1, 1), (54, .invokevirtual 438, 3), (57, .ifCond .eq 15, 3), (60, .aload_n 0, 1), (61, .iload_n 1, 1), (62, .iload_n 2, 1), (63, .invokevirtual 445, 3), (66, .iinc 2 1, 3), (69, .goto (-35), 3)] = true := by decide +kernel
theorem dX12_check_0 : decode cX12_check 0 = .ok (.aload_n 0, 1) := dr9 dk9_dX12_check_0_0.1 0 (0, .aload_n 0, 1) rfl
theorem dX12_check_1 : decode cX12_check 1 = .ok (.iconst 0, 1) := dr9 dk9_dX12_check_0_0.1 1 (1, .iconst 0, 1) rfl
theorem dX12_check_2 : decode cX12_check 2 = .ok (.putfield 1, 3) := dr9 dk9_dX12_check_0_0.1 2 (2, .putfield 1, 3) rfl
theorem dX12_check_5 : decode cX12_check 5 = .ok (.aload_n 0, 1) := dr9 dk9_dX12_check_0_0.1 3 (5, .aload_n 0, 1) rfl
theorem dX12_check_6 : decode cX12_check 6 = .ok (.iconst 0, 1) := dr9 dk9_dX12_check_0_0.1 4 (6, .iconst 0, 1) rfl
theorem dX12_check_7 : decode cX12_check 7 = .ok (.putfield 435, 3) := dr9 dk9_dX12_check_0_0.1 5 (7, .putfield 435, 3) rfl
theorem dX12_check_10 : decode cX12_check 10 = .ok (.iconst 0, 1) := dr9 dk9_dX12_check_0_0.1 6 (10, .iconst 0, 1) rfl
theorem dX12_check_11 : decode cX12_check 11 = .ok (.istore_n 1, 1) := dr9 dk9_dX12_check_0_0.1 7 (11, .istore_n 1, 1) rfl
theorem dX12_check_12 : decode cX12_check 12 = .ok (.iload_n 1, 1) := dr9 dk9_dX12_check_0_0.1 8 (12, .iload_n 1, 1) rfl
theorem dX12_check_13 : decode cX12_check 13 = .ok (.aload_n 0, 1) := dr9 dk9_dX12_check_0_0.1 9 (13, .aload_n 0, 1) rfl
theorem dX12_check_14 : decode cX12_check 14 = .ok (.getfield 62, 3) := dr9 dk9_dX12_check_0_0.1 10 (14, .getfield 62, 3) rfl
theorem dX12_check_17 : decode cX12_check 17 = .ok (.aload_n 0, 1) := dr9 dk9_dX12_check_0_0.1 11 (17, .aload_n 0, 1) rfl
theorem dX12_check_18 : decode cX12_check 18 = .ok (.getfield 286, 3) := dr9 dk9_dX12_check_0_0.1 12 (18, .getfield 286, 3) rfl
theorem dX12_check_21 : decode cX12_check 21 = .ok (.iaload, 1) := dr9 dk9_dX12_check_0_0.1 13 (21, .iaload, 1) rfl
theorem dX12_check_22 : decode cX12_check 22 = .ok (.if_icmp .ge 56, 3) := dr9 dk9_dX12_check_0_0.1 14 (22, .if_icmp .ge 56, 3) rfl
theorem dX12_check_78 : decode cX12_check 78 = .ok (.aload_n 0, 1) := dr9 dk9_dX12_check_0_0.1 15 (78, .aload_n 0, 1) rfl
theorem dX12_check_79 : decode cX12_check 79 = .ok (.iconst 0, 1) := dr9 dk9_dX12_check_0_0.1 16 (79, .iconst 0, 1) rfl
theorem dX12_check_80 : decode cX12_check 80 = .ok (.putfield 449, 3) := dr9 dk9_dX12_check_0_0.1 17 (80, .putfield 449, 3) rfl
theorem dX12_check_83 : decode cX12_check 83 = .ok (.iconst 0, 1) := dr9 dk9_dX12_check_0_0.1 18 (83, .iconst 0, 1) rfl
theorem dX12_check_84 : decode cX12_check 84 = .ok (.istore_n 1, 1) := dr9 dk9_dX12_check_0_0.1 19 (84, .istore_n 1, 1) rfl
theorem dX12_check_85 : decode cX12_check 85 = .ok (.iload_n 1, 1) := dr9 dk9_dX12_check_0_0.1 20 (85, .iload_n 1, 1) rfl
theorem dX12_check_86 : decode cX12_check 86 = .ok (.aload_n 0, 1) := dr9 dk9_dX12_check_0_0.1 21 (86, .aload_n 0, 1) rfl
theorem dX12_check_87 : decode cX12_check 87 = .ok (.getfield 62, 3) := dr9 dk9_dX12_check_0_0.1 22 (87, .getfield 62, 3) rfl
theorem dX12_check_90 : decode cX12_check 90 = .ok (.aload_n 0, 1) := dr9 dk9_dX12_check_0_0.1 23 (90, .aload_n 0, 1) rfl
theorem dX12_check_91 : decode cX12_check 91 = .ok (.getfield 286, 3) := dr9 dk9_dX12_check_0_0.2.1 0 (91, .getfield 286, 3) rfl
theorem dX12_check_94 : decode cX12_check 94 = .ok (.iaload, 1) := dr9 dk9_dX12_check_0_0.2.1 1 (94, .iaload, 1) rfl
theorem dX12_check_95 : decode cX12_check 95 = .ok (.if_icmp .ge 31, 3) := dr9 dk9_dX12_check_0_0.2.1 2 (95, .if_icmp .ge 31, 3) rfl
theorem dX12_check_126 : decode cX12_check 126 = .ok (.aload_n 0, 1) := dr9 dk9_dX12_check_0_0.2.1 3 (126, .aload_n 0, 1) rfl
theorem dX12_check_127 : decode cX12_check 127 = .ok (.aload_n 0, 1) := dr9 dk9_dX12_check_0_0.2.1 4 (127, .aload_n 0, 1) rfl
theorem dX12_check_128 : decode cX12_check 128 = .ok (.getfield 408, 3) := dr9 dk9_dX12_check_0_0.2.1 5 (128, .getfield 408, 3) rfl
theorem dX12_check_131 : decode cX12_check 131 = .ok (.ifCond .ne 10, 3) := dr9 dk9_dX12_check_0_0.2.1 6 (131, .ifCond .ne 10, 3) rfl
theorem dX12_check_141 : decode cX12_check 141 = .ok (.iconst 1, 1) := dr9 dk9_dX12_check_0_0.2.1 7 (141, .iconst 1, 1) rfl
theorem dX12_check_142 : decode cX12_check 142 = .ok (.goto 4, 3) := dr9 dk9_dX12_check_0_0.2.1 8 (142, .goto 4, 3) rfl
theorem dX12_check_146 : decode cX12_check 146 = .ok (.putfield 408, 3) := dr9 dk9_dX12_check_0_0.2.1 9 (146, .putfield 408, 3) rfl
theorem dX12_check_149 : decode cX12_check 149 = .ok (.aload_n 0, 1) := dr9 dk9_dX12_check_0_0.2.1 10 (149, .aload_n 0, 1) rfl
theorem dX12_check_150 : decode cX12_check 150 = .ok (.getfield 435, 3) := dr9 dk9_dX12_check_0_0.2.1 11 (150, .getfield 435, 3) rfl
theorem dX12_check_153 : decode cX12_check 153 = .ok (.ireturn, 1) := dr9 dk9_dX12_check_0_0.2.1 12 (153, .ireturn, 1) rfl
theorem dX12_check_134 : decode cX12_check 134 = .ok (.aload_n 0, 1) := dr9 dk9_dX12_check_0_0.2.1 13 (134, .aload_n 0, 1) rfl
theorem dX12_check_135 : decode cX12_check 135 = .ok (.getfield 435, 3) := dr9 dk9_dX12_check_0_0.2.1 14 (135, .getfield 435, 3) rfl
theorem dX12_check_138 : decode cX12_check 138 = .ok (.ifCond .ne 7, 3) := dr9 dk9_dX12_check_0_0.2.1 15 (138, .ifCond .ne 7, 3) rfl
theorem dX12_check_145 : decode cX12_check 145 = .ok (.iconst 0, 1) := dr9 dk9_dX12_check_0_0.2.1 16 (145, .iconst 0, 1) rfl
theorem dX12_check_98 : decode cX12_check 98 = .ok (.aload_n 0, 1) := dr9 dk9_dX12_check_0_0.2.1 17 (98, .aload_n 0, 1) rfl
theorem dX12_check_99 : decode cX12_check 99 = .ok (.iload_n 1, 1) := dr9 dk9_dX12_check_0_0.2.1 18 (99, .iload_n 1, 1) rfl
theorem dX12_check_100 : decode cX12_check 100 = .ok (.invokevirtual 438, 3) := dr9 dk9_dX12_check_0_0.2.1 19 (100, .invokevirtual 438, 3) rfl
theorem dX12_check_103 : decode cX12_check 103 = .ok (.ifCond .eq 17, 3) := dr9 dk9_dX12_check_0_0.2.1 20 (103, .ifCond .eq 17, 3) rfl
theorem dX12_check_120 : decode cX12_check 120 = .ok (.iinc 1 1, 3) := dr9 dk9_dX12_check_0_0.2.1 21 (120, .iinc 1 1, 3) rfl
theorem dX12_check_123 : decode cX12_check 123 = .ok (.goto (-38), 3) := dr9 dk9_dX12_check_0_0.2.1 22 (123, .goto (-38), 3) rfl
theorem dX12_check_106 : decode cX12_check 106 = .ok (.aload_n 0, 1) := dr9 dk9_dX12_check_0_0.2.1 23 (106, .aload_n 0, 1) rfl
theorem dX12_check_107 : decode cX12_check 107 = .ok (.getfield 216, 3) := dr9 dk9_dX12_check_0_0.2.2.1 0 (107, .getfield 216, 3) rfl
theorem dX12_check_110 : decode cX12_check 110 = .ok (.iload_n 1, 1) := dr9 dk9_dX12_check_0_0.2.2.1 1 (110, .iload_n 1, 1) rfl
theorem dX12_check_111 : decode cX12_check 111 = .ok (.iaload, 1) := dr9 dk9_dX12_check_0_0.2.2.1 2 (111, .iaload, 1) rfl
theorem dX12_check_112 : decode cX12_check 112 = .ok (.ifCond .ne 8, 3) := dr9 dk9_dX12_check_0_0.2.2.1 3 (112, .ifCond .ne 8, 3) rfl
theorem dX12_check_115 : decode cX12_check 115 = .ok (.aload_n 0, 1) := dr9 dk9_dX12_check_0_0.2.2.1 4 (115, .aload_n 0, 1) rfl
theorem dX12_check_116 : decode cX12_check 116 = .ok (.iload_n 1, 1) := dr9 dk9_dX12_check_0_0.2.2.1 5 (116, .iload_n 1, 1) rfl
theorem dX12_check_117 : decode cX12_check 117 = .ok (.invokevirtual 452, 3) := dr9 dk9_dX12_check_0_0.2.2.1 6 (117, .invokevirtual 452, 3) rfl
theorem dX12_check_25 : decode cX12_check 25 = .ok (.aload_n 0, 1) := dr9 dk9_dX12_check_0_0.2.2.1 7 (25, .aload_n 0, 1) rfl
theorem dX12_check_26 : decode cX12_check 26 = .ok (.getfield 216, 3) := dr9 dk9_dX12_check_0_0.2.2.1 8 (26, .getfield 216, 3) rfl
theorem dX12_check_29 : decode cX12_check 29 = .ok (.iload_n 1, 1) := dr9 dk9_dX12_check_0_0.2.2.1 9 (29, .iload_n 1, 1) rfl
theorem dX12_check_30 : decode cX12_check 30 = .ok (.iconst 0, 1) := dr9 dk9_dX12_check_0_0.2.2.1 10 (30, .iconst 0, 1) rfl
theorem dX12_check_31 : decode cX12_check 31 = .ok (.iastore, 1) := dr9 dk9_dX12_check_0_0.2.2.1 11 (31, .iastore, 1) rfl
theorem dX12_check_32 : decode cX12_check 32 = .ok (.iconst 0, 1) := dr9 dk9_dX12_check_0_0.2.2.1 12 (32, .iconst 0, 1) rfl
theorem dX12_check_33 : decode cX12_check 33 = .ok (.istore_n 2, 1) := dr9 dk9_dX12_check_0_0.2.2.1 13 (33, .istore_n 2, 1) rfl
theorem dX12_check_34 : decode cX12_check 34 = .ok (.iload_n 2, 1) := dr9 dk9_dX12_check_0_0.2.2.1 14 (34, .iload_n 2, 1) rfl
theorem dX12_check_35 : decode cX12_check 35 = .ok (.aload_n 0, 1) := dr9 dk9_dX12_check_0_0.2.2.1 15 (35, .aload_n 0, 1) rfl
theorem dX12_check_36 : decode cX12_check 36 = .ok (.getfield 86, 3) := dr9 dk9_dX12_check_0_0.2.2.1 16 (36, .getfield 86, 3) rfl
theorem dX12_check_39 : decode cX12_check 39 = .ok (.bipush 24, 2) := dr9 dk9_dX12_check_0_0.2.2.1 17 (39, .bipush 24, 2) rfl
theorem dX12_check_41 : decode cX12_check 41 = .ok (.aload_n 0, 1) := dr9 dk9_dX12_check_0_0.2.2.1 18 (41, .aload_n 0, 1) rfl
theorem dX12_check_42 : decode cX12_check 42 = .ok (.getfield 286, 3) := dr9 dk9_dX12_check_0_0.2.2.1 19 (42, .getfield 286, 3) rfl
theorem dX12_check_45 : decode cX12_check 45 = .ok (.imul, 1) := dr9 dk9_dX12_check_0_0.2.2.1 20 (45, .imul, 1) rfl
theorem dX12_check_46 : decode cX12_check 46 = .ok (.iload_n 1, 1) := dr9 dk9_dX12_check_0_0.2.2.1 21 (46, .iload_n 1, 1) rfl
theorem dX12_check_47 : decode cX12_check 47 = .ok (.iadd, 1) := dr9 dk9_dX12_check_0_0.2.2.1 22 (47, .iadd, 1) rfl
theorem dX12_check_48 : decode cX12_check 48 = .ok (.iaload, 1) := dr9 dk9_dX12_check_0_0.2.2.1 23 (48, .iaload, 1) rfl
theorem dX12_check_49 : decode cX12_check 49 = .ok (.if_icmp .ge 23, 3) := dr9 dk9_dX12_check_0_0.2.2.2 0 (49, .if_icmp .ge 23, 3) rfl
theorem dX12_check_72 : decode cX12_check 72 = .ok (.iinc 1 1, 3) := dr9 dk9_dX12_check_0_0.2.2.2 1 (72, .iinc 1 1, 3) rfl
theorem dX12_check_75 : decode cX12_check 75 = .ok (.goto (-63), 3) := dr9 dk9_dX12_check_0_0.2.2.2 2 (75, .goto (-63), 3) rfl
theorem dX12_check_52 : decode cX12_check 52 = .ok (.aload_n 0, 1) := dr9 dk9_dX12_check_0_0.2.2.2 3 (52, .aload_n 0, 1) rfl
theorem dX12_check_53 : decode cX12_check 53 = .ok (.iload_n 1, 1) := dr9 dk9_dX12_check_0_0.2.2.2 4 (53, .iload_n 1, 1) rfl
theorem dX12_check_54 : decode cX12_check 54 = .ok (.invokevirtual 438, 3) := dr9 dk9_dX12_check_0_0.2.2.2 5 (54, .invokevirtual 438, 3) rfl
theorem dX12_check_57 : decode cX12_check 57 = .ok (.ifCond .eq 15, 3) := dr9 dk9_dX12_check_0_0.2.2.2 6 (57, .ifCond .eq 15, 3) rfl
theorem dX12_check_60 : decode cX12_check 60 = .ok (.aload_n 0, 1) := dr9 dk9_dX12_check_0_0.2.2.2 7 (60, .aload_n 0, 1) rfl
theorem dX12_check_61 : decode cX12_check 61 = .ok (.iload_n 1, 1) := dr9 dk9_dX12_check_0_0.2.2.2 8 (61, .iload_n 1, 1) rfl
theorem dX12_check_62 : decode cX12_check 62 = .ok (.iload_n 2, 1) := dr9 dk9_dX12_check_0_0.2.2.2 9 (62, .iload_n 2, 1) rfl
theorem dX12_check_63 : decode cX12_check 63 = .ok (.invokevirtual 445, 3) := dr9 dk9_dX12_check_0_0.2.2.2 10 (63, .invokevirtual 445, 3) rfl
theorem dX12_check_66 : decode cX12_check 66 = .ok (.iinc 2 1, 3) := dr9 dk9_dX12_check_0_0.2.2.2 11 (66, .iinc 2 1, 3) rfl
theorem dX12_check_69 : decode cX12_check 69 = .ok (.goto (-35), 3) := dr9 dk9_dX12_check_0_0.2.2.2 12 (69, .goto (-35), 3) rfl
abbrev r_s_visits24 : Room := { frames := 248, cells := 0, slots := 0, locals := 7460 }
abbrev q_s_visits24 (D : va_G) (ks : KS) (ad : Nat → Nat) (kk : Nat → ClassId) (V : Vf) (L : Lf) (p0 : Int32) (FM : Int) (A : Nat → Prop) : Array Value → State → Outcome → State → Prop := q_s_visits D ks ad kk V L p0 FM A
theorem s_visits24 (l : Launch) (D : va_G) (ks : KS) (sz : Nat) (ad : Nat → Nat) (kk : Nat → ClassId) (V : Vf) (L : Lf) (p0 : Int32) (FM : Int) (hMV : rgd bM V) (rg_p0 : 0 ≤ p0.toInt ∧ p0.toInt ≤ 23) (v2 : (V 0 89).toInt + (cz V 24 : Int) ≤ 24) (v3 : (V 87 (Int32.toNatClampNeg p0)).toInt = 0) (v4 : WY V) (v5 : (V 0 81).toInt + 192 * (cz V 24 : Int) ≤ FM) (v7 : FM ≤ 999000) (v6 : p0.toInt < (V 19 (nwh V)).toInt) (tb : TB V) : Met l yX12_visits (Cond.code yX12_visits cX12_visits 5 none :: GW) r_s_visits24 (va_Pc [.ref (ad 0), .int p0] (gp D ks (mw ad kk ks.1 V L) (mty kk) sz)) (q_s_visits24 D ks ad kk V L p0 FM (va_A (mw ad kk ks.1 V L) sz)) 0 0 (va_A (mw ad kk ks.1 V L) sz) :=
  K_visits 24 sz ad kk V L p0 FM hMV rg_p0 (by have h9 := cz_le V 24; omega) v2 v3 v4 v5 v7 v6 tb

abbrev r_s_check2 : Room := { frames := 249, cells := 0, slots := 0, locals := 7484 }
abbrev q_s_check2 (D : va_G) (ks : KS) (ad : Nat → Nat) (kk : Nat → ClassId) (V : Vf) (L : Lf) (A : Nat → Prop) : Array Value → State → Outcome → State → Prop := va_Qi (fun (r : Int32) (u : Vf × Lf) => rgd bM u.1 ∧ agr [(0, 0), (0, 54), (0, 81), (0, 89)] [80, 82, 83, 84, 85, 86, 87, 88] V u.1 ∧ u.2 = L ∧ (RD u.1) ∧ (Imp ((V 0 54).toInt = 1) ((u.1 0 54).toInt = 1))) (fun u t => gq D A (mw ad kk ks.1 u.1 u.2) (mty kk) t) A
set_option maxHeartbeats 4000000 in
set_option maxRecDepth 100000 in
theorem s_check2 (l : Launch) (D : va_G) (ks : KS) (sz : Nat) (ad : Nat → Nat) (kk : Nat → ClassId) (V : Vf) (L : Lf)  (hMV : rgd bM V) (tb : TB V) (rd : RD V)  : Met l yX12_check (Cond.code yX12_check cX12_check 3 (some .int) :: GW) r_s_check2 (va_Pc [.ref (ad 0)] (gp D ks (mw ad kk ks.1 V L) (mty kk) sz)) (q_s_check2 D ks ad kk V L  (va_A (mw ad kk ks.1 V L) sz)) 0 0 (va_A (mw ad kk ks.1 V L) sz) := by
  refine g_met (q_s_check2 D ks ad kk V L) (by decide) (Nat.le_of_ble_eq_true rfl) ?_
  intro p e s m below meth c A ls H locs hx hb hr hml hown hg hlocks hin hnw hgk hP hK hD hS hA hl
  have hown : s.vm.findClass RX12 = some m.cls := hown
  have hl : lv_has ls 3 [(0, .ref (ad 0))] := hl
  have hP : va_P D vwCl (mw ad kk ks.1 V L) H := hP
  have hD : va_D A (mw ad kk ks.1 V L) := hD
  have hK : va_K D vwCl (mty kk) s := hK
  have agV : agr [(0, 0), (0, 54), (0, 81), (0, 89)] [80, 82, 83, 84, 85, 86, 87, 88] V V := agr.rf
  refine lv_aload_n hx hb dX12_check_0 rfl (lv_at hl 0 rfl) ?_
  refine lv_iconst (v := 0) hx hb dX12_check_1 (by decide) ?_
  refine va_put (D := D) (ci := 12) (v := .int 0) (ty := tyX12 0) (C := RX12) (T := TX12) (N := 100) hx hb hg inX12 tyX12 tyX12_ok nmX12 hown hK hP hD hS 0 rfl rfl 0 (by decide) (hg _ w1706) (fun _ h9 => h9) rfl (tyX12_ok 0 (by decide)) rfl rfl (Nat.le_of_ble_eq_true rfl) dX12_check_2 (fun H locs hP hD hS => ?_)
  obtain ⟨V1, hV1⟩ : ∃ z, z = up2 V 0 0 0 := ⟨_, rfl⟩
  have hP : va_P D vwCl (mw ad kk ks.1 V1 L) H := by rw [hV1]; exact hP
  have hD : va_D A (mw ad kk ks.1 V1 L) := by rw [hV1]; exact hD
  have hMV1 : rgd bM V1 := hMV.put hV1 (i_full _)
  have agV1 : agr [(0, 0), (0, 54), (0, 81), (0, 89)] [80, 82, 83, 84, 85, 86, 87, 88] V V1 := agV.up hV1 rfl
  refine lv_aload_n hx hb dX12_check_5 rfl (lv_at hl 0 rfl) ?_
  refine lv_iconst (v := 0) hx hb dX12_check_6 (by decide) ?_
  refine va_put (D := D) (ci := 12) (v := .int 0) (ty := tyX12 81) (C := RX12) (T := TX12) (N := 100) hx hb hg inX12 tyX12 tyX12_ok nmX12 hown hK hP hD hS 0 rfl rfl 81 (by decide) (hg _ w1787) (fun _ h9 => h9) rfl (tyX12_ok 81 (by decide)) rfl rfl (Nat.le_of_ble_eq_true rfl) dX12_check_7 (fun H locs hP hD hS => ?_)
  obtain ⟨V2, hV2⟩ : ∃ z, z = up2 V1 0 81 0 := ⟨_, rfl⟩
  have hP : va_P D vwCl (mw ad kk ks.1 V2 L) H := by rw [hV2]; exact hP
  have hD : va_D A (mw ad kk ks.1 V2 L) := by rw [hV2]; exact hD
  have hMV2 : rgd bM V2 := hMV1.put hV2 (by decide)
  have agV2 : agr [(0, 0), (0, 54), (0, 81), (0, 89)] [80, 82, 83, 84, 85, 86, 87, 88] V V2 := agV1.up hV2 rfl
  refine lv_iconst (v := 0) hx hb dX12_check_10 (by decide) ?_
  refine lv_istore_n (lv' := [(1, .int 0), (0, .ref (ad 0))]) hx hb dX12_check_11 rfl hl (by decide) rfl (fun ls hl => ?_)
  have lp5 : ∀ (fulp5 : Nat) (y3 : Int32) (V4 : Vf) (H : Heap) (locs : List Loc) (ls : Array Slot), 0 ≤ y3.toInt ∧ y3.toInt ≤ 24 → (V4 0 81).toInt ≤ 8 * y3.toInt → (∀ d : Nat, (d : Int) < y3.toInt → (V4 87 d).toInt = 0) → Imp ((V4 0 81).toInt = 0) (DD V4 y3.toInt 0) → c0k V V4 → 24 - y3.toInt < (fulp5 : Int) → agr [(0, 81)] [80, 82, 83, 84, 86, 87] V2 V4 → rgd bM V4 → va_P D vwCl (mw ad kk ks.1 V4 L) H → va_D A (mw ad kk ks.1 V4 L) → va_S A s.heap H locs → lv_has ls 3 [(1, .int y3), (0, .ref (ad 0))] → W p l e r_s_check2 s m ([.ref (ad 0)] : List Value).toArray below meth c H locs 0 0 (MQ below (q_s_check2 D ks ad kk V L  A) ([.ref (ad 0)] : List Value).toArray s 0 0 A) (F0 m 12 ls []) := by
    intro fulp5
    induction fulp5 with
    | zero =>
      intro y3 V4 H locs ls klp5_0 xlp5_0 xlp5_1 xlp5_2 xlp5_3 hn ajV4 hMV4 hP hD hS hl
      exfalso; omega
    | succ fulp5 ihlp5 =>
      intro y3 V4 H locs ls klp5_0 xlp5_0 xlp5_1 xlp5_2 xlp5_3 hn ajV4 hMV4 hP hD hS hl
      have agV4 : agr [(0, 0), (0, 54), (0, 81), (0, 89)] [80, 82, 83, 84, 85, 86, 87, 88] V V4 := agV2.tr ajV4 (by decide) (by decide)
      have r6 : 0 ≤ ((V4 0 81)).toInt ∧ ((V4 0 81)).toInt ≤ 1000000 := hMV4 0 81
      refine lv_iload_n hx hb dX12_check_12 rfl (lv_at hl 0 rfl) ?_
      refine lv_aload_n hx hb dX12_check_13 rfl (lv_at hl 1 rfl) ?_
      refine va_get (D := D) (ci := 12) (v := .ref (ad 19)) (C := RX12) (T := TX12) (N := 100) hx hb hg inX12 hown hK hP 0 rfl rfl 19 (by decide) (hg _ w1725) (fun _ h9 => h9) rfl dX12_check_14 ?_
      refine lv_aload_n hx hb dX12_check_17 rfl (lv_at hl 1 rfl) ?_
      refine va_get (D := D) (ci := 12) (v := .int (V4 0 11)) (C := RX12) (T := TX12) (N := 100) hx hb hg inX12 hown hK hP 0 rfl rfl 11 (by decide) (hg _ w1717) (fun _ h9 => h9) rfl dX12_check_18 ?_
      refine g_top (v := (V 0 11)) ((ajV4 0 11 rfl).trans ((up2_k hV2 (by decide)).trans (up2_k hV1 (by decide)))) ?_
      have r7 : 0 ≤ ((V 0 11)).toInt ∧ ((V 0 11)).toInt ≤ 1 := hMV 0 11
      refine va_iald (D := D) (i := (V 0 11)) hx hb hK hP 12 11 rfl rfl (i_in (a := ((V 0 11)).toInt) rfl (by first | omega | ((try (have i_rd := Imp.go rd (by omega))); (try (have i_tb := Imp.go tb (by omega))); (try (have i_tb := Imp.go tb (by omega))); (try (have i_rd := Imp.go rd (by omega))); omega))) dX12_check_21 ?_
      refine g_top (v := (V 19 (Int32.toNatClampNeg (V 0 11)))) ((ajV4 19 (Int32.toNatClampNeg (V 0 11)) rfl).trans ((up2_o hV2 (by decide)).trans (up2_o hV1 (by decide)))) ?_
      have r8 : 0 ≤ ((V 19 (Int32.toNatClampNeg (V 0 11)))).toInt ∧ ((V 19 (Int32.toNatClampNeg (V 0 11)))).toInt ≤ 24 := hMV 19 (Int32.toNatClampNeg (V 0 11))
      refine lv_icmp_ge (tgt := 78) hx hb dX12_check_22 (by decide) (fun c9 => ?_) (fun c9 => ?_)
      · skip
        have f10 : ((V 19 (Int32.toNatClampNeg (V 0 11)))).toInt ≤ y3.toInt := b_le rfl rfl c9
        have czl0 := cz_le V4 24
        refine lv_aload_n hx hb dX12_check_78 rfl (lv_at hl 1 rfl) ?_
        refine lv_iconst (v := 0) hx hb dX12_check_79 (by decide) ?_
        refine va_put (D := D) (ci := 12) (v := .int 0) (ty := tyX12 89) (C := RX12) (T := TX12) (N := 100) hx hb hg inX12 tyX12 tyX12_ok nmX12 hown hK hP hD hS 0 rfl rfl 89 (by decide) (hg _ w1795) (fun _ h9 => h9) rfl (tyX12_ok 89 (by decide)) rfl rfl (Nat.le_of_ble_eq_true rfl) dX12_check_80 (fun H locs hP hD hS => ?_)
        obtain ⟨V11, hV11⟩ : ∃ z, z = up2 V4 0 89 0 := ⟨_, rfl⟩
        have hP : va_P D vwCl (mw ad kk ks.1 V11 L) H := by rw [hV11]; exact hP
        have hD : va_D A (mw ad kk ks.1 V11 L) := by rw [hV11]; exact hD
        have hMV11 : rgd bM V11 := hMV4.put hV11 (by decide)
        have agV11 : agr [(0, 0), (0, 54), (0, 81), (0, 89)] [80, 82, 83, 84, 85, 86, 87, 88] V V11 := agV4.up hV11 rfl
        refine lv_iconst (v := 0) hx hb dX12_check_83 (by decide) ?_
        refine lv_istore_n (lv' := [(1, .int 0), (0, .ref (ad 0))]) hx hb dX12_check_84 rfl hl (by decide) rfl (fun ls hl => ?_)
        have lp14 : ∀ (fulp14 : Nat) (y12 : Int32) (V13 : Vf) (H : Heap) (locs : List Loc) (ls : Array Slot), 0 ≤ y12.toInt ∧ y12.toInt ≤ 24 → (V13 0 89).toInt = 0 → (V13 0 81).toInt + 192 * (cz V13 24 : Int) ≤ 4800 → (∀ d : Nat, (d : Int) < (V 19 (nwh V)).toInt → (V13 87 d).toInt ≠ 1) → c0k V V13 → Imp ((V13 0 81).toInt = 0) (DD V13 (V 19 (nwh V)).toInt 0) → 24 - y12.toInt < (fulp14 : Int) → agr [(0, 81), (0, 89)] [80, 82, 83, 84, 85, 87, 88] V11 V13 → rgd bM V13 → va_P D vwCl (mw ad kk ks.1 V13 L) H → va_D A (mw ad kk ks.1 V13 L) → va_S A s.heap H locs → lv_has ls 3 [(1, .int y12), (0, .ref (ad 0))] → W p l e r_s_check2 s m ([.ref (ad 0)] : List Value).toArray below meth c H locs 0 0 (MQ below (q_s_check2 D ks ad kk V L  A) ([.ref (ad 0)] : List Value).toArray s 0 0 A) (F0 m 85 ls []) := by
          intro fulp14
          induction fulp14 with
          | zero =>
            intro y12 V13 H locs ls klp14_0 xlp14_0 xlp14_1 xlp14_2 xlp14_3 xlp14_4 hn ajV13 hMV13 hP hD hS hl
            exfalso; omega
          | succ fulp14 ihlp14 =>
            intro y12 V13 H locs ls klp14_0 xlp14_0 xlp14_1 xlp14_2 xlp14_3 xlp14_4 hn ajV13 hMV13 hP hD hS hl
            have agV13 : agr [(0, 0), (0, 54), (0, 81), (0, 89)] [80, 82, 83, 84, 85, 86, 87, 88] V V13 := agV11.tr ajV13 (by decide) (by decide)
            have r15 : 0 ≤ ((V13 0 89)).toInt ∧ ((V13 0 89)).toInt ≤ 24 := hMV13 0 89
            have r16 : 0 ≤ ((V13 0 81)).toInt ∧ ((V13 0 81)).toInt ≤ 1000000 := hMV13 0 81
            refine lv_iload_n hx hb dX12_check_85 rfl (lv_at hl 0 rfl) ?_
            refine lv_aload_n hx hb dX12_check_86 rfl (lv_at hl 1 rfl) ?_
            refine va_get (D := D) (ci := 12) (v := .ref (ad 19)) (C := RX12) (T := TX12) (N := 100) hx hb hg inX12 hown hK hP 0 rfl rfl 19 (by decide) (hg _ w1725) (fun _ h9 => h9) rfl dX12_check_87 ?_
            refine lv_aload_n hx hb dX12_check_90 rfl (lv_at hl 1 rfl) ?_
            refine va_get (D := D) (ci := 12) (v := .int (V13 0 11)) (C := RX12) (T := TX12) (N := 100) hx hb hg inX12 hown hK hP 0 rfl rfl 11 (by decide) (hg _ w1717) (fun _ h9 => h9) rfl dX12_check_91 ?_
            refine g_top (v := (V 0 11)) ((ajV13 0 11 rfl).trans ((up2_k hV11 (by decide)).trans ((ajV4 0 11 rfl).trans ((up2_k hV2 (by decide)).trans (up2_k hV1 (by decide)))))) ?_
            refine va_iald (D := D) (i := (V 0 11)) hx hb hK hP 12 11 rfl rfl (i_in (a := ((V 0 11)).toInt) rfl (by first | omega | ((try (have i_rd := Imp.go rd (by omega))); (try (have i_tb := Imp.go tb (by omega))); (try (have i_tb := Imp.go tb (by omega))); (try (have i_rd := Imp.go rd (by omega))); omega))) dX12_check_94 ?_
            refine g_top (v := (V 19 (Int32.toNatClampNeg (V 0 11)))) ((ajV13 19 (Int32.toNatClampNeg (V 0 11)) rfl).trans ((up2_o hV11 (by decide)).trans ((ajV4 19 (Int32.toNatClampNeg (V 0 11)) rfl).trans ((up2_o hV2 (by decide)).trans (up2_o hV1 (by decide)))))) ?_
            refine lv_icmp_ge (tgt := 126) hx hb dX12_check_95 (by decide) (fun c17 => ?_) (fun c17 => ?_)
            · skip
              have f18 : ((V 19 (Int32.toNatClampNeg (V 0 11)))).toInt ≤ y12.toInt := b_le rfl rfl c17
              refine lv_aload_n hx hb dX12_check_126 rfl (lv_at hl 1 rfl) ?_
              refine lv_aload_n hx hb dX12_check_127 rfl (lv_at hl 1 rfl) ?_
              refine va_get (D := D) (ci := 12) (v := .int (V13 0 54)) (C := RX12) (T := TX12) (N := 100) hx hb hg inX12 hown hK hP 0 rfl rfl 54 (by decide) (hg _ w1760) (fun _ h9 => h9) rfl dX12_check_128 ?_
              refine g_top (v := (V 0 54)) ((ajV13 0 54 rfl).trans ((up2_k hV11 (by decide)).trans ((ajV4 0 54 rfl).trans ((up2_k hV2 (by decide)).trans (up2_k hV1 (by decide)))))) ?_
              have r19 : 0 ≤ ((V 0 54)).toInt ∧ ((V 0 54)).toInt ≤ 1 := hMV 0 54
              refine lv_if_ne (tgt := 141) hx hb dX12_check_131 (by decide) (fun c20 => ?_) (fun c20 => ?_)
              · skip
                have f21 : ((V 0 54)).toInt ≠ 0 := b_neq rfl (by decide) c20
                refine lv_iconst (v := 1) hx hb dX12_check_141 (by decide) ?_
                refine lv_goto (tgt := 146) hx hb dX12_check_142 (by decide) ?_
                refine va_put (D := D) (ci := 12) (v := .int 1) (ty := tyX12 54) (C := RX12) (T := TX12) (N := 100) hx hb hg inX12 tyX12 tyX12_ok nmX12 hown hK hP hD hS 0 rfl rfl 54 (by decide) (hg _ w1760) (fun _ h9 => h9) rfl (tyX12_ok 54 (by decide)) rfl rfl (Nat.le_of_ble_eq_true rfl) dX12_check_146 (fun H locs hP hD hS => ?_)
                obtain ⟨V22, hV22⟩ : ∃ z, z = up2 V13 0 54 1 := ⟨_, rfl⟩
                have hP : va_P D vwCl (mw ad kk ks.1 V22 L) H := by rw [hV22]; exact hP
                have hD : va_D A (mw ad kk ks.1 V22 L) := by rw [hV22]; exact hD
                have hMV22 : rgd bM V22 := hMV13.put hV22 (by decide)
                have agV22 : agr [(0, 0), (0, 54), (0, 81), (0, 89)] [80, 82, 83, 84, 85, 86, 87, 88] V V22 := agV13.up hV22 rfl
                refine lv_aload_n hx hb dX12_check_149 rfl (lv_at hl 1 rfl) ?_
                refine va_get (D := D) (ci := 12) (v := .int (V22 0 81)) (C := RX12) (T := TX12) (N := 100) hx hb hg inX12 hown hK hP 0 rfl rfl 81 (by decide) (hg _ w1787) (fun _ h9 => h9) rfl dX12_check_150 ?_
                refine g_top (v := (V13 0 81)) (up2_k hV22 (by decide)) ?_
                have pq23 : (V22 0 54).toInt = 1 := (congrArg Int32.toInt (up2_s hV22)).trans (by decide)
                have a54 : agr [(0, 54)] [] V13 V22 := agr.up agr.rf hV22 rfl
                have c025 : c0k V V13 := xlp14_3
                have rd24 : RD V22 := fun _ => RD_st (RD_st (rd (by omega)) agV13 ⟨rfl, fun _ => rfl, fun _ => rfl, fun _ => rfl, fun _ => rfl, fun _ => rfl, fun _ => rfl⟩ c025) a54 ⟨rfl, fun _ => rfl, fun _ => rfl, fun _ => rfl, fun _ => rfl, fun _ => rfl, fun _ => rfl⟩ (c0k.ag a54 rfl)
                exact W.iret (v := (V13 0 81)) hx hb hr (fun t ht hW => ⟨⟨(V13 0 81), (V22, L), rfl, ⟨hMV22, agV22, rfl, rd24, (Imp.mk (fun hp => have hp : (V 0 54).toInt = 1 := hp; (show (V22 0 54).toInt = 1 from by first | omega | ((try (have i_rd := Imp.go rd (by omega))); (try (have i_tb := Imp.go tb (by omega))); (try (have i_tb := Imp.go tb (by omega))); (try (have i_rd := Imp.go rd (by omega))); omega))))⟩, by rw [ht]; exact hP, va_K.moved hW.alike hK, hD⟩, hS.F ht⟩) hS.2.2 dX12_check_153
              · skip
                have f26 : ((V 0 54)).toInt = 0 := b_eq rfl (by decide) c20
                refine lv_aload_n hx hb dX12_check_134 rfl (lv_at hl 1 rfl) ?_
                refine va_get (D := D) (ci := 12) (v := .int (V13 0 81)) (C := RX12) (T := TX12) (N := 100) hx hb hg inX12 hown hK hP 0 rfl rfl 81 (by decide) (hg _ w1787) (fun _ h9 => h9) rfl dX12_check_135 ?_
                refine lv_if_ne (tgt := 145) hx hb dX12_check_138 (by decide) (fun c27 => ?_) (fun c27 => ?_)
                · skip
                  have f28 : ((V13 0 81)).toInt ≠ 0 := b_neq rfl (by decide) c27
                  refine lv_iconst (v := 0) hx hb dX12_check_145 (by decide) ?_
                  refine va_put (D := D) (ci := 12) (v := .int 0) (ty := tyX12 54) (C := RX12) (T := TX12) (N := 100) hx hb hg inX12 tyX12 tyX12_ok nmX12 hown hK hP hD hS 0 rfl rfl 54 (by decide) (hg _ w1760) (fun _ h9 => h9) rfl (tyX12_ok 54 (by decide)) rfl rfl (Nat.le_of_ble_eq_true rfl) dX12_check_146 (fun H locs hP hD hS => ?_)
                  obtain ⟨V29, hV29⟩ : ∃ z, z = up2 V13 0 54 0 := ⟨_, rfl⟩
                  have hP : va_P D vwCl (mw ad kk ks.1 V29 L) H := by rw [hV29]; exact hP
                  have hD : va_D A (mw ad kk ks.1 V29 L) := by rw [hV29]; exact hD
                  have hMV29 : rgd bM V29 := hMV13.put hV29 (by decide)
                  have agV29 : agr [(0, 0), (0, 54), (0, 81), (0, 89)] [80, 82, 83, 84, 85, 86, 87, 88] V V29 := agV13.up hV29 rfl
                  refine lv_aload_n hx hb dX12_check_149 rfl (lv_at hl 1 rfl) ?_
                  refine va_get (D := D) (ci := 12) (v := .int (V29 0 81)) (C := RX12) (T := TX12) (N := 100) hx hb hg inX12 hown hK hP 0 rfl rfl 81 (by decide) (hg _ w1787) (fun _ h9 => h9) rfl dX12_check_150 ?_
                  refine g_top (v := (V13 0 81)) (up2_k hV29 (by decide)) ?_
                  have pq30 : (V29 0 54).toInt = 0 := (congrArg Int32.toInt (up2_s hV29)).trans (by decide)
                  have a54 : agr [(0, 54)] [] V13 V29 := agr.up agr.rf hV29 rfl
                  have rd31 : RD V29 := fun h1 => absurd h1 (by rw [up2_s hV29]; decide)
                  exact W.iret (v := (V13 0 81)) hx hb hr (fun t ht hW => ⟨⟨(V13 0 81), (V29, L), rfl, ⟨hMV29, agV29, rfl, rd31, (Imp.mk (fun hp => have hp : (V 0 54).toInt = 1 := hp; (show (V29 0 54).toInt = 1 from by first | omega | ((try (have i_rd := Imp.go rd (by omega))); (try (have i_tb := Imp.go tb (by omega))); (try (have i_tb := Imp.go tb (by omega))); (try (have i_rd := Imp.go rd (by omega))); omega))))⟩, by rw [ht]; exact hP, va_K.moved hW.alike hK, hD⟩, hS.F ht⟩) hS.2.2 dX12_check_153
                · skip
                  have f32 : ((V13 0 81)).toInt = 0 := b_eq rfl (by decide) c27
                  refine lv_iconst (v := 1) hx hb dX12_check_141 (by decide) ?_
                  refine lv_goto (tgt := 146) hx hb dX12_check_142 (by decide) ?_
                  refine va_put (D := D) (ci := 12) (v := .int 1) (ty := tyX12 54) (C := RX12) (T := TX12) (N := 100) hx hb hg inX12 tyX12 tyX12_ok nmX12 hown hK hP hD hS 0 rfl rfl 54 (by decide) (hg _ w1760) (fun _ h9 => h9) rfl (tyX12_ok 54 (by decide)) rfl rfl (Nat.le_of_ble_eq_true rfl) dX12_check_146 (fun H locs hP hD hS => ?_)
                  obtain ⟨V33, hV33⟩ : ∃ z, z = up2 V13 0 54 1 := ⟨_, rfl⟩
                  have hP : va_P D vwCl (mw ad kk ks.1 V33 L) H := by rw [hV33]; exact hP
                  have hD : va_D A (mw ad kk ks.1 V33 L) := by rw [hV33]; exact hD
                  have hMV33 : rgd bM V33 := hMV13.put hV33 (by decide)
                  have agV33 : agr [(0, 0), (0, 54), (0, 81), (0, 89)] [80, 82, 83, 84, 85, 86, 87, 88] V V33 := agV13.up hV33 rfl
                  refine lv_aload_n hx hb dX12_check_149 rfl (lv_at hl 1 rfl) ?_
                  refine va_get (D := D) (ci := 12) (v := .int (V33 0 81)) (C := RX12) (T := TX12) (N := 100) hx hb hg inX12 hown hK hP 0 rfl rfl 81 (by decide) (hg _ w1787) (fun _ h9 => h9) rfl dX12_check_150 ?_
                  refine g_top (v := (V13 0 81)) (up2_k hV33 (by decide)) ?_
                  have pq34 : (V33 0 54).toInt = 1 := (congrArg Int32.toInt (up2_s hV33)).trans (by decide)
                  have a54 : agr [(0, 54)] [] V13 V33 := agr.up agr.rf hV33 rfl
                  have rd35 : RD V33 := fun _ => RD_st (DD.RD (Imp.go xlp14_4 (by omega)) (by rw [(nwh_ag agV13 ⟨rfl, fun _ => rfl, fun _ => rfl, fun _ => rfl, fun _ => rfl, fun _ => rfl, fun _ => rfl⟩).2]; exact Int.le_refl _)) a54 ⟨rfl, fun _ => rfl, fun _ => rfl, fun _ => rfl, fun _ => rfl, fun _ => rfl, fun _ => rfl⟩ (c0k.ag a54 rfl)
                  exact W.iret (v := (V13 0 81)) hx hb hr (fun t ht hW => ⟨⟨(V13 0 81), (V33, L), rfl, ⟨hMV33, agV33, rfl, rd35, (Imp.mk (fun hp => have hp : (V 0 54).toInt = 1 := hp; (show (V33 0 54).toInt = 1 from by first | omega | ((try (have i_rd := Imp.go rd (by omega))); (try (have i_tb := Imp.go tb (by omega))); (try (have i_tb := Imp.go tb (by omega))); (try (have i_rd := Imp.go rd (by omega))); omega))))⟩, by rw [ht]; exact hP, va_K.moved hW.alike hK, hD⟩, hS.F ht⟩) hS.2.2 dX12_check_153
            · skip
              have f36 : y12.toInt < ((V 19 (Int32.toNatClampNeg (V 0 11)))).toInt := b_nle rfl rfl c17
              refine lv_aload_n hx hb dX12_check_98 rfl (lv_at hl 1 rfl) ?_
              refine lv_iload_n hx hb dX12_check_99 rfl (lv_at hl 0 rfl) ?_
              refine gA_int (gA_runV (As := [.int y12]) (rest := []) (ci := 12) (q0 := 0) hx hb hml hown hg hP hD hK hS hA hnw hgk (s_isThere2 l D ks H.size ad kk V13 L y12 hMV13 ) w2164 w2166 w117 w172 w2167 rfl rfl hdV_yX12_isThere ⟨Nat.le_of_ble_eq_true rfl, Nat.le_of_ble_eq_true rfl⟩ rfl hl.1 rfl (Nat.le_of_ble_eq_true rfl) dX12_check_100 ⟨Nat.le_of_ble_eq_true rfl, Nat.le_of_ble_eq_true rfl⟩) hP hD hK hS hA (fun z37 u38 H locs w39 hP hD hK hS => ?_)
              obtain ⟨rgz37, t40, t41, t42⟩ := w39
              have rgz37 : 0 ≤ z37.toInt ∧ z37.toInt ≤ 1 := rgz37
              have t40 : Imp (z37.toInt = 1) (0 ≤ y12.toInt ∧ y12.toInt ≤ 23) := t40
              have t41 : Imp (z37.toInt = 1) (th V13 (Int32.toNatClampNeg y12)) := t41
              have t42 : Imp (z37.toInt = 0) (0 ≤ y12.toInt → ¬ th V13 (Int32.toNatClampNeg y12)) := t42
              refine lv_if_eq (tgt := 120) hx hb dX12_check_103 (by decide) (fun c43 => ?_) (fun c43 => ?_)
              · skip
                have f44 : z37.toInt = 0 := b_eq rfl (by decide) c43
                obtain ⟨z45, ez45⟩ : ∃ y : Int32, y = y12 + 1 := ⟨_, rfl⟩
                have hz45 : z45.toInt = y12.toInt + 1 := i_add ez45 rfl (by decide) (by omega)
                refine lv_iinc (v := z45) (lv' := [(1, .int z45), (0, .ref (ad 0))]) hx hb dX12_check_120 hl (k := 0) rfl (by rw [ez45]; rfl) (by decide) rfl (fun ls hl => ?_)
                refine lv_goto (tgt := 85) hx hb dX12_check_123 (by decide) ?_
                have c046 : c0k V V13 := xlp14_3
                exact ihlp14 z45 V13 H locs ls (by first | omega | ((try (have i_t40 := Imp.go t40 (by omega))); (try (have i_rd := Imp.go rd (by omega))); (try (have i_tb := Imp.go tb (by omega))); (try (have i_tb := Imp.go tb (by omega))); (try (have i_rd := Imp.go rd (by omega))); (try (have i_t40 := Imp.go t40 (by omega))); omega)) (show (V13 0 89).toInt = 0 from by first | omega | ((try (have i_t40 := Imp.go t40 (by omega))); (try (have i_rd := Imp.go rd (by omega))); (try (have i_tb := Imp.go tb (by omega))); (try (have i_tb := Imp.go tb (by omega))); (try (have i_rd := Imp.go rd (by omega))); (try (have i_t40 := Imp.go t40 (by omega))); omega)) (show (V13 0 81).toInt + 192 * (cz V13 24 : Int) ≤ 4800 from by first | omega | ((try (have i_t40 := Imp.go t40 (by omega))); (try (have i_rd := Imp.go rd (by omega))); (try (have i_tb := Imp.go tb (by omega))); (try (have i_tb := Imp.go tb (by omega))); (try (have i_rd := Imp.go rd (by omega))); (try (have i_t40 := Imp.go t40 (by omega))); omega)) xlp14_2 c046 xlp14_4 (by first | omega | ((try (have i_t40 := Imp.go t40 (by omega))); (try (have i_rd := Imp.go rd (by omega))); (try (have i_tb := Imp.go tb (by omega))); (try (have i_tb := Imp.go tb (by omega))); (try (have i_rd := Imp.go rd (by omega))); (try (have i_t40 := Imp.go t40 (by omega))); omega)) (agr.tr agr.rf ajV13 (by decide) (by decide)) hMV13 hP hD hS (lv_sub hl [0, 1] rfl)
              · skip
                have f47 : z37.toInt ≠ 0 := b_neq rfl (by decide) c43
                refine lv_aload_n hx hb dX12_check_106 rfl (lv_at hl 1 rfl) ?_
                refine va_get (D := D) (ci := 12) (v := .ref (ad 87)) (C := RX12) (T := TX12) (N := 100) hx hb hg inX12 hown hK hP 0 rfl rfl 87 (by decide) (hg _ w1793) (fun _ h9 => h9) rfl dX12_check_107 ?_
                refine lv_iload_n hx hb dX12_check_110 rfl (lv_at hl 0 rfl) ?_
                refine va_iald (D := D) (i := y12) hx hb hK hP 63 62 rfl rfl (i_in (a := y12.toInt) rfl (by first | omega | ((try (have i_t40 := Imp.go t40 (by omega))); (try (have i_rd := Imp.go rd (by omega))); (try (have i_tb := Imp.go tb (by omega))); (try (have i_tb := Imp.go tb (by omega))); (try (have i_rd := Imp.go rd (by omega))); (try (have i_t40 := Imp.go t40 (by omega))); omega))) dX12_check_111 ?_
                have r48 : 0 ≤ ((V13 87 (Int32.toNatClampNeg y12))).toInt ∧ ((V13 87 (Int32.toNatClampNeg y12))).toInt ≤ 2 := hMV13 87 (Int32.toNatClampNeg y12)
                refine lv_if_ne (tgt := 120) hx hb dX12_check_112 (by decide) (fun c49 => ?_) (fun c49 => ?_)
                · skip
                  have f50 : ((V13 87 (Int32.toNatClampNeg y12))).toInt ≠ 0 := b_neq rfl (by decide) c49
                  obtain ⟨z51, ez51⟩ : ∃ y : Int32, y = y12 + 1 := ⟨_, rfl⟩
                  have hz51 : z51.toInt = y12.toInt + 1 := i_add ez51 rfl (by decide) (by omega)
                  refine lv_iinc (v := z51) (lv' := [(1, .int z51), (0, .ref (ad 0))]) hx hb dX12_check_120 hl (k := 0) rfl (by rw [ez51]; rfl) (by decide) rfl (fun ls hl => ?_)
                  refine lv_goto (tgt := 85) hx hb dX12_check_123 (by decide) ?_
                  have c052 : c0k V V13 := xlp14_3
                  exact ihlp14 z51 V13 H locs ls (by first | omega | ((try (have i_t40 := Imp.go t40 (by omega))); (try (have i_rd := Imp.go rd (by omega))); (try (have i_tb := Imp.go tb (by omega))); (try (have i_tb := Imp.go tb (by omega))); (try (have i_rd := Imp.go rd (by omega))); (try (have i_t40 := Imp.go t40 (by omega))); omega)) (show (V13 0 89).toInt = 0 from by first | omega | ((try (have i_t40 := Imp.go t40 (by omega))); (try (have i_rd := Imp.go rd (by omega))); (try (have i_tb := Imp.go tb (by omega))); (try (have i_tb := Imp.go tb (by omega))); (try (have i_rd := Imp.go rd (by omega))); (try (have i_t40 := Imp.go t40 (by omega))); omega)) (show (V13 0 81).toInt + 192 * (cz V13 24 : Int) ≤ 4800 from by first | omega | ((try (have i_t40 := Imp.go t40 (by omega))); (try (have i_rd := Imp.go rd (by omega))); (try (have i_tb := Imp.go tb (by omega))); (try (have i_tb := Imp.go tb (by omega))); (try (have i_rd := Imp.go rd (by omega))); (try (have i_t40 := Imp.go t40 (by omega))); omega)) xlp14_2 c052 xlp14_4 (by first | omega | ((try (have i_t40 := Imp.go t40 (by omega))); (try (have i_rd := Imp.go rd (by omega))); (try (have i_tb := Imp.go tb (by omega))); (try (have i_tb := Imp.go tb (by omega))); (try (have i_rd := Imp.go rd (by omega))); (try (have i_t40 := Imp.go t40 (by omega))); omega)) (agr.tr agr.rf ajV13 (by decide) (by decide)) hMV13 hP hD hS (lv_sub hl [0, 1] rfl)
                · skip
                  have f53 : ((V13 87 (Int32.toNatClampNeg y12))).toInt = 0 := b_eq rfl (by decide) c49
                  have czl := cz_le V13 24
                  refine lv_aload_n hx hb dX12_check_115 rfl (lv_at hl 1 rfl) ?_
                  refine lv_iload_n hx hb dX12_check_116 rfl (lv_at hl 0 rfl) ?_
                  refine gA_void (gA_runV (As := [.int y12]) (rest := []) (ci := 12) (q0 := 0) hx hb hml hown hg hP hD hK hS hA hnw hgk (s_visits24 l D ks H.size ad kk V13 L y12 (4800) hMV13 (by first | omega | ((try (have i_t40 := Imp.go t40 (by omega))); (try (have i_rd := Imp.go rd (by omega))); (try (have i_tb := Imp.go tb (by omega))); (try (have i_tb := Imp.go tb (by omega))); (try (have i_rd := Imp.go rd (by omega))); (try (have i_t40 := Imp.go t40 (by omega))); omega)) (show (V13 0 89).toInt + (cz V13 24 : Int) ≤ 24 from by first | omega | ((try (have i_t40 := Imp.go t40 (by omega))); (try (have i_rd := Imp.go rd (by omega))); (try (have i_tb := Imp.go tb (by omega))); (try (have i_tb := Imp.go tb (by omega))); (try (have i_rd := Imp.go rd (by omega))); (try (have i_t40 := Imp.go t40 (by omega))); omega)) (show (V13 87 (Int32.toNatClampNeg y12)).toInt = 0 from by first | omega | ((try (have i_t40 := Imp.go t40 (by omega))); (try (have i_rd := Imp.go rd (by omega))); (try (have i_tb := Imp.go tb (by omega))); (try (have i_tb := Imp.go tb (by omega))); (try (have i_rd := Imp.go rd (by omega))); (try (have i_t40 := Imp.go t40 (by omega))); omega)) (fun d hd h1 => absurd h1 (xlp14_2 d (by rw [(nwh_ag agV13 ⟨rfl, fun _ => rfl, fun _ => rfl, fun _ => rfl, fun _ => rfl, fun _ => rfl, fun _ => rfl⟩).2] at hd; exact hd))) (show (V13 0 81).toInt + 192 * (cz V13 24 : Int) ≤ (4800) from by first | omega | ((try (have i_t40 := Imp.go t40 (by omega))); (try (have i_rd := Imp.go rd (by omega))); (try (have i_tb := Imp.go tb (by omega))); (try (have i_tb := Imp.go tb (by omega))); (try (have i_rd := Imp.go rd (by omega))); (try (have i_t40 := Imp.go t40 (by omega))); omega)) (show (4800) ≤ 999000 from by first | omega | ((try (have i_t40 := Imp.go t40 (by omega))); (try (have i_rd := Imp.go rd (by omega))); (try (have i_tb := Imp.go tb (by omega))); (try (have i_tb := Imp.go tb (by omega))); (try (have i_rd := Imp.go rd (by omega))); (try (have i_t40 := Imp.go t40 (by omega))); omega)) (by rw [(nwh_ag agV13 ⟨rfl, fun _ => rfl, fun _ => rfl, fun _ => rfl, fun _ => rfl, fun _ => rfl, fun _ => rfl⟩).2]; show y12.toInt < (V 19 (Int32.toNatClampNeg (V 0 11))).toInt; first | omega | ((try (have i_t40 := Imp.go t40 (by omega))); (try (have i_rd := Imp.go rd (by omega))); (try (have i_tb := Imp.go tb (by omega))); (try (have i_tb := Imp.go tb (by omega))); (try (have i_rd := Imp.go rd (by omega))); (try (have i_t40 := Imp.go t40 (by omega))); omega)) (TB.ag tb hMV agV13 rfl (by decide) (by decide))) w2187 w2189 w122 w172 w2190 rfl rfl hdV_yX12_visits ⟨Nat.le_of_ble_eq_true rfl, Nat.le_of_ble_eq_true rfl⟩ rfl hl.1 rfl (Nat.le_of_ble_eq_true rfl) dX12_check_117 ⟨Nat.le_of_ble_eq_true rfl, Nat.le_of_ble_eq_true rfl⟩) hP hD hK hS hA (fun u55 H locs w56 hP hD hK hS => ?_)
                  obtain ⟨V63, L64⟩ := u55
                  obtain ⟨hMV63, ajV63, axL64, t57, t58, t59, t60, t61, t62⟩ := w56
                  have axL64 : L = L64 := Eq.symm axL64
                  subst axL64
                  have hP : va_P D vwCl (mw ad kk ks.1 V63 L) H := hP
                  have hD : va_D A (mw ad kk ks.1 V63 L) := hD
                  have hMV63 : rgd bM V63 := hMV63
                  have ajV63 : agr [(0, 81), (0, 89)] [80, 82, 83, 84, 85, 87, 88] V13 V63 := ajV63
                  have agV63 : agr [(0, 0), (0, 54), (0, 81), (0, 89)] [80, 82, 83, 84, 85, 86, 87, 88] V V63 := agV13.tr ajV63 (by decide) (by decide)
                  have t57 : (V63 0 89).toInt = (V13 0 89).toInt := t57
                  have t58 : (cz V63 24 : Int) + 1 ≤ (cz V13 24 : Int) := t58
                  have t59 : (V63 0 81).toInt + 192 * (cz V63 24 : Int) ≤ (4800) := t59
                  have t60 : (V13 0 81).toInt ≤ (V63 0 81).toInt := t60
                  have t61 : visP V13 V63 := t61
                  have t62 : c0k V13 V63 := t62
                  have r65 : 0 ≤ ((V63 0 89)).toInt ∧ ((V63 0 89)).toInt ≤ 24 := hMV63 0 89
                  have r66 : 0 ≤ ((V63 0 81)).toInt ∧ ((V63 0 81)).toInt ≤ 1000000 := hMV63 0 81
                  obtain ⟨z67, ez67⟩ : ∃ y : Int32, y = y12 + 1 := ⟨_, rfl⟩
                  have hz67 : z67.toInt = y12.toInt + 1 := i_add ez67 rfl (by decide) (by omega)
                  refine lv_iinc (v := z67) (lv' := [(1, .int z67), (0, .ref (ad 0))]) hx hb dX12_check_120 hl (k := 0) rfl (by rw [ez67]; rfl) (by decide) rfl (fun ls hl => ?_)
                  refine lv_goto (tgt := 85) hx hb dX12_check_123 (by decide) ?_
                  have c068 : c0k V V63 := (c0k.tr (V := V) (W := V13) (X := V63) xlp14_3 t62 agV13 ⟨rfl, fun _ => rfl, fun _ => rfl, fun _ => rfl, fun _ => rfl, fun _ => rfl, fun _ => rfl⟩)
                  exact ihlp14 z67 V63 H locs ls (by first | omega | ((try (have i_t40 := Imp.go t40 (by omega))); (try (have i_rd := Imp.go rd (by omega))); (try (have i_tb := Imp.go tb (by omega))); (try (have i_tb := Imp.go tb (by omega))); (try (have i_rd := Imp.go rd (by omega))); (try (have i_t40 := Imp.go t40 (by omega))); omega)) (show (V63 0 89).toInt = 0 from by first | omega | ((try (have i_t40 := Imp.go t40 (by omega))); (try (have i_rd := Imp.go rd (by omega))); (try (have i_tb := Imp.go tb (by omega))); (try (have i_tb := Imp.go tb (by omega))); (try (have i_rd := Imp.go rd (by omega))); (try (have i_t40 := Imp.go t40 (by omega))); omega)) (show (V63 0 81).toInt + 192 * (cz V63 24 : Int) ≤ 4800 from by first | omega | ((try (have i_t40 := Imp.go t40 (by omega))); (try (have i_rd := Imp.go rd (by omega))); (try (have i_tb := Imp.go tb (by omega))); (try (have i_tb := Imp.go tb (by omega))); (try (have i_rd := Imp.go rd (by omega))); (try (have i_t40 := Imp.go t40 (by omega))); omega)) (fun d hd h1 => xlp14_2 d hd (t61.1 d h1)) c068 (Imp.mk (fun hp => DD.st (Imp.go xlp14_4 (by omega)) ajV63 ⟨rfl, fun _ => rfl, fun _ => rfl, fun _ => rfl, fun _ => rfl, fun _ => rfl, fun _ => rfl⟩ t62)) (by first | omega | ((try (have i_t40 := Imp.go t40 (by omega))); (try (have i_rd := Imp.go rd (by omega))); (try (have i_tb := Imp.go tb (by omega))); (try (have i_tb := Imp.go tb (by omega))); (try (have i_rd := Imp.go rd (by omega))); (try (have i_t40 := Imp.go t40 (by omega))); omega)) (agr.tr (agr.tr agr.rf ajV13 (by decide) (by decide)) ajV63 (by decide) (by decide)) hMV63 hP hD hS (lv_sub hl [0, 1] rfl)
        have r69 : Int32.toInt 0 = 0 := by decide
        have pq70 : (V11 0 89).toInt = 0 := (congrArg Int32.toInt (up2_s hV11)).trans (by decide)
        have cz71 : cz V11 24 = cz V4 24 := cz_o hV11 (by decide)
        have pq72 : (V11 0 81).toInt = ((V4 0 81)).toInt := congrArg Int32.toInt (up2_k hV11 (by decide))
        have e19c : (V 19 (nwh V)).toInt = (V 19 (Int32.toNatClampNeg (V 0 11))).toInt := rfl
        have c073 : c0k V V11 := (c0k.tr (V := V) (W := V4) (X := V11) xlp5_3 (Or.inl (up2_o hV11 (by decide))) agV4 ⟨rfl, fun _ => rfl, fun _ => rfl, fun _ => rfl, fun _ => rfl, fun _ => rfl, fun _ => rfl⟩)
        exact lp14 ((24 - (Int32.toInt 0) + 1 : Int).toNat) 0 V11 H locs ls (by decide) (show (V11 0 89).toInt = 0 from by first | omega | ((try (have i_rd := Imp.go rd (by omega))); (try (have i_tb := Imp.go tb (by omega))); (try (have i_tb := Imp.go tb (by omega))); (try (have i_rd := Imp.go rd (by omega))); omega)) (show (V11 0 81).toInt + 192 * (cz V11 24 : Int) ≤ 4800 from by first | omega | ((try (have i_rd := Imp.go rd (by omega))); (try (have i_tb := Imp.go tb (by omega))); (try (have i_tb := Imp.go tb (by omega))); (try (have i_rd := Imp.go rd (by omega))); omega)) (fun d hd h1 => by rw [(show agr [(0, 89)] [] V4 V11 from (agr.up agr.rf hV11 rfl)) 87 _ rfl] at h1; have h9 := xlp5_1 d (by omega); omega) c073 (Imp.mk (fun hp => DD.le (DD.st (Imp.go xlp5_2 (by omega)) (show agr [(0, 89)] [] V4 V11 from (agr.up agr.rf hV11 rfl)) ⟨rfl, fun _ => rfl, fun _ => rfl, fun _ => rfl, fun _ => rfl, fun _ => rfl, fun _ => rfl⟩ (c0k.ag (show agr [(0, 89)] [] V4 V11 from (agr.up agr.rf hV11 rfl)) rfl)) (by omega))) (by first | omega | ((try (have i_rd := Imp.go rd (by omega))); (try (have i_tb := Imp.go tb (by omega))); (try (have i_tb := Imp.go tb (by omega))); (try (have i_rd := Imp.go rd (by omega))); omega)) agr.rf hMV11 hP hD hS (lv_sub hl [0, 1] rfl)
      · skip
        have f74 : y3.toInt < ((V 19 (Int32.toNatClampNeg (V 0 11)))).toInt := b_nle rfl rfl c9
        refine lv_aload_n hx hb dX12_check_25 rfl (lv_at hl 1 rfl) ?_
        refine va_get (D := D) (ci := 12) (v := .ref (ad 87)) (C := RX12) (T := TX12) (N := 100) hx hb hg inX12 hown hK hP 0 rfl rfl 87 (by decide) (hg _ w1793) (fun _ h9 => h9) rfl dX12_check_26 ?_
        refine lv_iload_n hx hb dX12_check_29 rfl (lv_at hl 0 rfl) ?_
        refine lv_iconst (v := 0) hx hb dX12_check_30 (by decide) ?_
        refine va_iast (D := D) (i := y3) (x := 0) hx hb hK hP hD hS 63 62 rfl rfl (i_in (a := y3.toInt) rfl (by first | omega | ((try (have i_rd := Imp.go rd (by omega))); (try (have i_tb := Imp.go tb (by omega))); (try (have i_tb := Imp.go tb (by omega))); (try (have i_rd := Imp.go rd (by omega))); omega))) dX12_check_31 (fun H locs hP hD hS => ?_)
        obtain ⟨V75, hV75⟩ : ∃ z, z = up2 V4 87 (Int32.toNatClampNeg y3) 0 := ⟨_, rfl⟩
        have hP : va_P D vwCl (mw ad kk ks.1 V75 L) H := by rw [hV75]; exact hP
        have hD : va_D A (mw ad kk ks.1 V75 L) := by rw [hV75]; exact hD
        have hMV75 : rgd bM V75 := hMV4.put hV75 (show 0 ≤ Int32.toInt 0 ∧ Int32.toInt 0 ≤ 2 from by decide)
        have agV75 : agr [(0, 0), (0, 54), (0, 81), (0, 89)] [80, 82, 83, 84, 85, 86, 87, 88] V V75 := agV4.up hV75 rfl
        refine lv_iconst (v := 0) hx hb dX12_check_32 (by decide) ?_
        refine lv_istore_n (lv' := [(2, .int 0), (1, .int y3), (0, .ref (ad 0))]) hx hb dX12_check_33 rfl hl (by decide) rfl (fun ls hl => ?_)
        have lp78 : ∀ (fulp78 : Nat) (y76 : Int32) (V77 : Vf) (H : Heap) (locs : List Loc) (ls : Array Slot), 0 ≤ y76.toInt ∧ y76.toInt ≤ 8 → (V77 0 81).toInt ≤ 8 * y3.toInt + y76.toInt → (∀ d : Nat, (d : Int) < y3.toInt + 1 → (V77 87 d).toInt = 0) → Imp ((V77 0 81).toInt = 0) (DD V77 y3.toInt y76.toInt) → c0k V V77 → 8 - y76.toInt < (fulp78 : Int) → agr [(0, 81)] [80, 82, 83, 84, 86] V75 V77 → rgd bM V77 → va_P D vwCl (mw ad kk ks.1 V77 L) H → va_D A (mw ad kk ks.1 V77 L) → va_S A s.heap H locs → lv_has ls 3 [(2, .int y76), (1, .int y3), (0, .ref (ad 0))] → W p l e r_s_check2 s m ([.ref (ad 0)] : List Value).toArray below meth c H locs 0 0 (MQ below (q_s_check2 D ks ad kk V L  A) ([.ref (ad 0)] : List Value).toArray s 0 0 A) (F0 m 34 ls []) := by
          intro fulp78
          induction fulp78 with
          | zero =>
            intro y76 V77 H locs ls klp78_0 xlp78_0 xlp78_1 xlp78_2 xlp78_3 hn ajV77 hMV77 hP hD hS hl
            exfalso; omega
          | succ fulp78 ihlp78 =>
            intro y76 V77 H locs ls klp78_0 xlp78_0 xlp78_1 xlp78_2 xlp78_3 hn ajV77 hMV77 hP hD hS hl
            have agV77 : agr [(0, 0), (0, 54), (0, 81), (0, 89)] [80, 82, 83, 84, 85, 86, 87, 88] V V77 := agV75.tr ajV77 (by decide) (by decide)
            have r79 : 0 ≤ ((V77 0 81)).toInt ∧ ((V77 0 81)).toInt ≤ 1000000 := hMV77 0 81
            refine lv_iload_n hx hb dX12_check_34 rfl (lv_at hl 0 rfl) ?_
            refine lv_aload_n hx hb dX12_check_35 rfl (lv_at hl 2 rfl) ?_
            refine va_get (D := D) (ci := 12) (v := .ref (ad 27)) (C := RX12) (T := TX12) (N := 100) hx hb hg inX12 hown hK hP 0 rfl rfl 27 (by decide) (hg _ w1733) (fun _ h9 => h9) rfl dX12_check_36 ?_
            refine lv_bipush (v := 24) hx hb dX12_check_39 (by decide) ?_
            refine lv_aload_n hx hb dX12_check_41 rfl (lv_at hl 2 rfl) ?_
            refine va_get (D := D) (ci := 12) (v := .int (V77 0 11)) (C := RX12) (T := TX12) (N := 100) hx hb hg inX12 hown hK hP 0 rfl rfl 11 (by decide) (hg _ w1717) (fun _ h9 => h9) rfl dX12_check_42 ?_
            refine g_top (v := (V 0 11)) ((ajV77 0 11 rfl).trans ((up2_o hV75 (by decide)).trans ((ajV4 0 11 rfl).trans ((up2_k hV2 (by decide)).trans (up2_k hV1 (by decide)))))) ?_
            refine lv_imul hx hb dX12_check_45 ?_
            refine lv_topi (fun z80 ez80 => ?_)
            have hz80 : z80.toInt = 24 * ((V 0 11)).toInt := i_mul ez80 (by decide) rfl (by omega)
            refine lv_iload_n hx hb dX12_check_46 rfl (lv_at hl 1 rfl) ?_
            refine lv_iadd hx hb dX12_check_47 ?_
            refine lv_topi (fun z81 ez81 => ?_)
            have hz81 : z81.toInt = z80.toInt + y3.toInt := i_add ez81 rfl rfl (by omega)
            refine va_iald (D := D) (i := z81) hx hb hK hP 20 19 rfl rfl (i_in (a := z81.toInt) rfl (by first | omega | ((try (have i_rd := Imp.go rd (by omega))); (try (have i_tb := Imp.go tb (by omega))); (try (have i_tb := Imp.go tb (by omega))); (try (have i_rd := Imp.go rd (by omega))); omega))) dX12_check_48 ?_
            refine g_top (v := (V 27 (Int32.toNatClampNeg z81))) ((ajV77 27 (Int32.toNatClampNeg z81) rfl).trans ((up2_o hV75 (by decide)).trans ((ajV4 27 (Int32.toNatClampNeg z81) rfl).trans ((up2_o hV2 (by decide)).trans (up2_o hV1 (by decide)))))) ?_
            have r82 : 0 ≤ ((V 27 (Int32.toNatClampNeg z81))).toInt ∧ ((V 27 (Int32.toNatClampNeg z81))).toInt ≤ 8 := hMV 27 (Int32.toNatClampNeg z81)
            refine lv_icmp_ge (tgt := 72) hx hb dX12_check_49 (by decide) (fun c83 => ?_) (fun c83 => ?_)
            · skip
              have f84 : ((V 27 (Int32.toNatClampNeg z81))).toInt ≤ y76.toInt := b_le rfl rfl c83
              have kn : (nwh V : Int) = (V 0 11).toInt := i_clamp (x := V 0 11) rfl (by omega)
              have kl1 := i_clamp (x := y3) rfl (by omega)
              have e19b : (V 19 (nwh V)).toInt = (V 19 (Int32.toNatClampNeg (V 0 11))).toInt := rfl
              have ki : Int32.toNatClampNeg z81 = 24 * nwh V + Int32.toNatClampNeg y3 := by have h9 := i_clamp (x := z81) rfl (by omega); omega
              have q27 : (V 27 (24 * nwh V + Int32.toNatClampNeg y3)).toInt = (V 27 (Int32.toNatClampNeg z81)).toInt := by rw [ki]
              obtain ⟨z85, ez85⟩ : ∃ y : Int32, y = y3 + 1 := ⟨_, rfl⟩
              have hz85 : z85.toInt = y3.toInt + 1 := i_add ez85 rfl (by decide) (by omega)
              refine lv_iinc (v := z85) (lv' := [(1, .int z85), (2, .int y76), (0, .ref (ad 0))]) hx hb dX12_check_72 hl (k := 1) rfl (by rw [ez85]; rfl) (by decide) rfl (fun ls hl => ?_)
              refine lv_goto (tgt := 12) hx hb dX12_check_75 (by decide) ?_
              have c086 : c0k V V77 := xlp78_3
              exact ihlp5 z85 V77 H locs ls (by first | omega | ((try (have i_rd := Imp.go rd (by omega))); (try (have i_tb := Imp.go tb (by omega))); (try (have i_tb := Imp.go tb (by omega))); (try (have i_rd := Imp.go rd (by omega))); omega)) (show (V77 0 81).toInt ≤ 8 * z85.toInt from by first | omega | ((try (have i_rd := Imp.go rd (by omega))); (try (have i_tb := Imp.go tb (by omega))); (try (have i_tb := Imp.go tb (by omega))); (try (have i_rd := Imp.go rd (by omega))); omega)) (fun d hd => xlp78_1 d (by omega)) (Imp.mk (fun hp => by have h9 := DD.up1 (c := Int32.toNatClampNeg y3) (Imp.go xlp78_2 hp) (by omega) (Or.inl (by rw [(nwh_ag agV77 ⟨rfl, fun _ => rfl, fun _ => rfl, fun _ => rfl, fun _ => rfl, fun _ => rfl, fun _ => rfl⟩).1, agV77 27 _ rfl]; omega)); have e9 : z85.toInt = y3.toInt + 1 := (by omega); rw [e9]; exact h9)) c086 (by first | omega | ((try (have i_rd := Imp.go rd (by omega))); (try (have i_tb := Imp.go tb (by omega))); (try (have i_tb := Imp.go tb (by omega))); (try (have i_rd := Imp.go rd (by omega))); omega)) (agr.tr (agr.up (agr.tr agr.rf ajV4 (by decide) (by decide)) hV75 rfl) ajV77 (by decide) (by decide)) hMV77 hP hD hS (lv_sub hl [0, 2] rfl)
            · skip
              have f87 : y76.toInt < ((V 27 (Int32.toNatClampNeg z81))).toInt := b_nle rfl rfl c83
              have kn : (nwh V : Int) = (V 0 11).toInt := i_clamp (x := V 0 11) rfl (by omega)
              have kl1 := i_clamp (x := y3) rfl (by omega)
              have e19b : (V 19 (nwh V)).toInt = (V 19 (Int32.toNatClampNeg (V 0 11))).toInt := rfl
              have ki : Int32.toNatClampNeg z81 = 24 * nwh V + Int32.toNatClampNeg y3 := by have h9 := i_clamp (x := z81) rfl (by omega); omega
              have q27 : (V 27 (24 * nwh V + Int32.toNatClampNeg y3)).toInt = (V 27 (Int32.toNatClampNeg z81)).toInt := by rw [ki]
              refine lv_aload_n hx hb dX12_check_52 rfl (lv_at hl 2 rfl) ?_
              refine lv_iload_n hx hb dX12_check_53 rfl (lv_at hl 1 rfl) ?_
              refine gA_int (gA_runV (As := [.int y3]) (rest := []) (ci := 12) (q0 := 0) hx hb hml hown hg hP hD hK hS hA hnw hgk (s_isThere2 l D ks H.size ad kk V77 L y3 hMV77 ) w2164 w2166 w117 w172 w2167 rfl rfl hdV_yX12_isThere ⟨Nat.le_of_ble_eq_true rfl, Nat.le_of_ble_eq_true rfl⟩ rfl hl.1 rfl (Nat.le_of_ble_eq_true rfl) dX12_check_54 ⟨Nat.le_of_ble_eq_true rfl, Nat.le_of_ble_eq_true rfl⟩) hP hD hK hS hA (fun z88 u89 H locs w90 hP hD hK hS => ?_)
              obtain ⟨rgz88, t91, t92, t93⟩ := w90
              have rgz88 : 0 ≤ z88.toInt ∧ z88.toInt ≤ 1 := rgz88
              have t91 : Imp (z88.toInt = 1) (0 ≤ y3.toInt ∧ y3.toInt ≤ 23) := t91
              have t92 : Imp (z88.toInt = 1) (th V77 (Int32.toNatClampNeg y3)) := t92
              have t93 : Imp (z88.toInt = 0) (0 ≤ y3.toInt → ¬ th V77 (Int32.toNatClampNeg y3)) := t93
              refine lv_if_eq (tgt := 72) hx hb dX12_check_57 (by decide) (fun c94 => ?_) (fun c94 => ?_)
              · skip
                have f95 : z88.toInt = 0 := b_eq rfl (by decide) c94
                obtain ⟨z96, ez96⟩ : ∃ y : Int32, y = y3 + 1 := ⟨_, rfl⟩
                have hz96 : z96.toInt = y3.toInt + 1 := i_add ez96 rfl (by decide) (by omega)
                refine lv_iinc (v := z96) (lv' := [(1, .int z96), (2, .int y76), (0, .ref (ad 0))]) hx hb dX12_check_72 hl (k := 1) rfl (by rw [ez96]; rfl) (by decide) rfl (fun ls hl => ?_)
                refine lv_goto (tgt := 12) hx hb dX12_check_75 (by decide) ?_
                have c097 : c0k V V77 := xlp78_3
                exact ihlp5 z96 V77 H locs ls (by first | omega | ((try (have i_t91 := Imp.go t91 (by omega))); (try (have i_rd := Imp.go rd (by omega))); (try (have i_tb := Imp.go tb (by omega))); (try (have i_tb := Imp.go tb (by omega))); (try (have i_rd := Imp.go rd (by omega))); (try (have i_t91 := Imp.go t91 (by omega))); omega)) (show (V77 0 81).toInt ≤ 8 * z96.toInt from by first | omega | ((try (have i_t91 := Imp.go t91 (by omega))); (try (have i_rd := Imp.go rd (by omega))); (try (have i_tb := Imp.go tb (by omega))); (try (have i_tb := Imp.go tb (by omega))); (try (have i_rd := Imp.go rd (by omega))); (try (have i_t91 := Imp.go t91 (by omega))); omega)) (fun d hd => xlp78_1 d (by omega)) (Imp.mk (fun hp => by have h9 := DD.up1 (c := Int32.toNatClampNeg y3) (Imp.go xlp78_2 hp) (by omega) (Or.inr ((Imp.go t93 (by omega)) (by omega))); have e9 : z96.toInt = y3.toInt + 1 := (by omega); rw [e9]; exact h9)) c097 (by first | omega | ((try (have i_t91 := Imp.go t91 (by omega))); (try (have i_rd := Imp.go rd (by omega))); (try (have i_tb := Imp.go tb (by omega))); (try (have i_tb := Imp.go tb (by omega))); (try (have i_rd := Imp.go rd (by omega))); (try (have i_t91 := Imp.go t91 (by omega))); omega)) (agr.tr (agr.up (agr.tr agr.rf ajV4 (by decide) (by decide)) hV75 rfl) ajV77 (by decide) (by decide)) hMV77 hP hD hS (lv_sub hl [0, 2] rfl)
              · skip
                have f98 : z88.toInt ≠ 0 := b_neq rfl (by decide) c94
                refine lv_aload_n hx hb dX12_check_60 rfl (lv_at hl 2 rfl) ?_
                refine lv_iload_n hx hb dX12_check_61 rfl (lv_at hl 1 rfl) ?_
                refine lv_iload_n hx hb dX12_check_62 rfl (lv_at hl 0 rfl) ?_
                have kl2 := i_clamp (x := y76) rfl (by omega)
                have cok := (show TBL V (nwh V) _ from tb).1 (Int32.toNatClampNeg y3) (by omega)
                refine gA_void (gA_runV (As := [.int y3, .int y76]) (rest := []) (ci := 12) (q0 := 0) hx hb hml hown hg hP hD hK hS hA hnw hgk (s_checkNeed2 l D ks H.size ad kk V77 L y3 y76 hMV77 (by first | omega | ((try (have i_t91 := Imp.go t91 (by omega))); (try (have i_rd := Imp.go rd (by omega))); (try (have i_tb := Imp.go tb (by omega))); (try (have i_tb := Imp.go tb (by omega))); (try (have i_rd := Imp.go rd (by omega))); (try (have i_t91 := Imp.go t91 (by omega))); omega)) (by first | omega | ((try (have i_t91 := Imp.go t91 (by omega))); (try (have i_rd := Imp.go rd (by omega))); (try (have i_tb := Imp.go tb (by omega))); (try (have i_tb := Imp.go tb (by omega))); (try (have i_rd := Imp.go rd (by omega))); (try (have i_t91 := Imp.go t91 (by omega))); omega)) (by rw [(nwh_ag agV77 ⟨rfl, fun _ => rfl, fun _ => rfl, fun _ => rfl, fun _ => rfl, fun _ => rfl, fun _ => rfl⟩).1, agV77 28 _ rfl]; exact (cok.2.2.2 (Int32.toNatClampNeg y76) (by omega)).1) (show (V77 0 81).toInt ≤ 999999 from by first | omega | ((try (have i_t91 := Imp.go t91 (by omega))); (try (have i_rd := Imp.go rd (by omega))); (try (have i_tb := Imp.go tb (by omega))); (try (have i_tb := Imp.go tb (by omega))); (try (have i_rd := Imp.go rd (by omega))); (try (have i_t91 := Imp.go t91 (by omega))); omega))) w2168 w2170 w118 w172 w2171 rfl rfl hdV_yX12_checkNeed ⟨Nat.le_of_ble_eq_true rfl, Nat.le_of_ble_eq_true rfl⟩ rfl hl.1 rfl (Nat.le_of_ble_eq_true rfl) dX12_check_63 ⟨Nat.le_of_ble_eq_true rfl, Nat.le_of_ble_eq_true rfl⟩) hP hD hK hS hA (fun u100 H locs w101 hP hD hK hS => ?_)
                obtain ⟨V106, L107⟩ := u100
                obtain ⟨hMV106, ajV106, axL107, t102, t103, t104, t105⟩ := w101
                have axL107 : L = L107 := Eq.symm axL107
                subst axL107
                have hP : va_P D vwCl (mw ad kk ks.1 V106 L) H := hP
                have hD : va_D A (mw ad kk ks.1 V106 L) := hD
                have hMV106 : rgd bM V106 := hMV106
                have ajV106 : agr [(0, 81)] [80, 82, 83, 84, 86] V77 V106 := ajV106
                have agV106 : agr [(0, 0), (0, 54), (0, 81), (0, 89)] [80, 82, 83, 84, 85, 86, 87, 88] V V106 := agV77.tr ajV106 (by decide) (by decide)
                have t102 : (V106 0 81).toInt ≤ (V77 0 81).toInt + 1 := t102
                have t103 : (V77 0 81).toInt ≤ (V106 0 81).toInt := t103
                have t104 : c0k V77 V106 := t104
                have t105 : Imp ((V106 0 81).toInt = (V77 0 81).toInt) (1 ≤ (V77 30 (8 * (24 * nwh V77 + Int32.toNatClampNeg y3) + Int32.toNatClampNeg y76)).toInt ∨ th V77 (cd0 V106)) := t105
                have r108 : 0 ≤ ((V106 0 81)).toInt ∧ ((V106 0 81)).toInt ≤ 1000000 := hMV106 0 81
                obtain ⟨z109, ez109⟩ : ∃ y : Int32, y = y76 + 1 := ⟨_, rfl⟩
                have hz109 : z109.toInt = y76.toInt + 1 := i_add ez109 rfl (by decide) (by omega)
                refine lv_iinc (v := z109) (lv' := [(2, .int z109), (1, .int y3), (0, .ref (ad 0))]) hx hb dX12_check_66 hl (k := 0) rfl (by rw [ez109]; rfl) (by decide) rfl (fun ls hl => ?_)
                refine lv_goto (tgt := 34) hx hb dX12_check_69 (by decide) ?_
                have c0110 : c0k V V106 := (c0k.tr (V := V) (W := V77) (X := V106) xlp78_3 t104 agV77 ⟨rfl, fun _ => rfl, fun _ => rfl, fun _ => rfl, fun _ => rfl, fun _ => rfl, fun _ => rfl⟩)
                exact ihlp78 z109 V106 H locs ls (by first | omega | ((try (have i_t91 := Imp.go t91 (by omega))); (try (have i_rd := Imp.go rd (by omega))); (try (have i_tb := Imp.go tb (by omega))); (try (have i_tb := Imp.go tb (by omega))); (try (have i_rd := Imp.go rd (by omega))); (try (have i_t91 := Imp.go t91 (by omega))); omega)) (show (V106 0 81).toInt ≤ 8 * y3.toInt + z109.toInt from by first | omega | ((try (have i_t91 := Imp.go t91 (by omega))); (try (have i_rd := Imp.go rd (by omega))); (try (have i_tb := Imp.go tb (by omega))); (try (have i_tb := Imp.go tb (by omega))); (try (have i_rd := Imp.go rd (by omega))); (try (have i_t91 := Imp.go t91 (by omega))); omega)) (fun d hd => by rw [(show agr [(0, 81)] [80, 82, 83, 84, 86] V77 V106 from (agr.tr agr.rf ajV106 (by decide) (by decide))) 87 _ rfl]; exact xlp78_1 d (by omega)) (Imp.mk (fun hp => by have h9 := DD.nx (c := Int32.toNatClampNeg y3) (j := Int32.toNatClampNeg y76) (Imp.go xlp78_2 (by omega)) t104 ajV106 ⟨rfl, fun _ => rfl, fun _ => rfl, fun _ => rfl, fun _ => rfl, fun _ => rfl, fun _ => rfl⟩ (Imp.go t105 (by omega)) (by have h8 := cOK.ag cok hMV agV77 (fun _ _ _ => ⟨agV77 _ _ rfl, agV77 _ _ rfl, agV77 _ _ rfl⟩) (Nat.le_refl _) (fun _ => rfl) (fun _ => rfl) (fun _ => rfl) (fun _ => rfl) (fun _ => rfl) (fun _ => rfl) (fun _ => rfl); rw [(nwh_ag agV77 ⟨rfl, fun _ => rfl, fun _ => rfl, fun _ => rfl, fun _ => rfl, fun _ => rfl, fun _ => rfl⟩).1]; exact h8) (by omega) (by omega); have e9 : z109.toInt = y76.toInt + 1 := (by omega); rw [e9]; exact h9)) c0110 (by first | omega | ((try (have i_t91 := Imp.go t91 (by omega))); (try (have i_rd := Imp.go rd (by omega))); (try (have i_tb := Imp.go tb (by omega))); (try (have i_tb := Imp.go tb (by omega))); (try (have i_rd := Imp.go rd (by omega))); (try (have i_t91 := Imp.go t91 (by omega))); omega)) (agr.tr (agr.tr agr.rf ajV77 (by decide) (by decide)) ajV106 (by decide) (by decide)) hMV106 hP hD hS (lv_sub hl [0, 1, 2] rfl)
        have r111 : Int32.toInt 0 = 0 := by decide
        have pq112 : (V75 0 81).toInt = ((V4 0 81)).toInt := congrArg Int32.toInt (up2_o hV75 (by decide))
        have kz9 := i_clamp (x := y3) rfl (by omega)
        have c0113 : c0k V V75 := (c0k.tr (V := V) (W := V4) (X := V75) xlp5_3 (Or.inl (up2_o hV75 (by decide))) agV4 ⟨rfl, fun _ => rfl, fun _ => rfl, fun _ => rfl, fun _ => rfl, fun _ => rfl, fun _ => rfl⟩)
        exact lp78 ((8 - (Int32.toInt 0) + 1 : Int).toNat) 0 V75 H locs ls (by decide) (show (V75 0 81).toInt ≤ 8 * y3.toInt + (Int32.toInt 0) from by first | omega | ((try (have i_rd := Imp.go rd (by omega))); (try (have i_tb := Imp.go tb (by omega))); (try (have i_tb := Imp.go tb (by omega))); (try (have i_rd := Imp.go rd (by omega))); omega)) (fun d hd => by rcases Decidable.em (d = Int32.toNatClampNeg y3) with hk | hk; (rw [hk, up2_s hV75]; decide); (rw [up2_k hV75 hk]; exact xlp5_1 d (by omega))) (Imp.mk (fun hp => DD.st (Imp.go xlp5_2 (by omega)) (show agr [] [87] V4 V75 from (agr.up agr.rf hV75 rfl)) ⟨rfl, fun _ => rfl, fun _ => rfl, fun _ => rfl, fun _ => rfl, fun _ => rfl, fun _ => rfl⟩ (c0k.ag (show agr [] [87] V4 V75 from (agr.up agr.rf hV75 rfl)) rfl))) c0113 (by first | omega | ((try (have i_rd := Imp.go rd (by omega))); (try (have i_tb := Imp.go tb (by omega))); (try (have i_tb := Imp.go tb (by omega))); (try (have i_rd := Imp.go rd (by omega))); omega)) agr.rf hMV75 hP hD hS (lv_sub hl [0, 1, 2] rfl)
  have r114 : Int32.toInt 0 = 0 := by decide
  have pq115 : (V2 0 81).toInt = 0 := (congrArg Int32.toInt (up2_s hV2)).trans (by decide)
  have c0116 : c0k V V2 := (c0k.tr (V := V) (W := V1) (X := V2) (c0k.tr (V := V) (W := V) (X := V1) c0k.rf (Or.inl (up2_o hV1 (by decide))) agV ⟨rfl, fun _ => rfl, fun _ => rfl, fun _ => rfl, fun _ => rfl, fun _ => rfl, fun _ => rfl⟩) (Or.inl (up2_o hV2 (by decide))) agV1 ⟨rfl, fun _ => rfl, fun _ => rfl, fun _ => rfl, fun _ => rfl, fun _ => rfl, fun _ => rfl⟩)
  exact lp5 ((24 - (Int32.toInt 0) + 1 : Int).toNat) 0 V2 H locs ls (by decide) (show (V2 0 81).toInt ≤ 8 * (Int32.toInt 0) from by first | omega | ((try (have i_rd := Imp.go rd (by omega))); (try (have i_tb := Imp.go tb (by omega))); (try (have i_tb := Imp.go tb (by omega))); (try (have i_rd := Imp.go rd (by omega))); omega)) (fun d hd => absurd hd (by omega)) (Imp.mk (fun _ => DD.z (by omega))) c0116 (by first | omega | ((try (have i_rd := Imp.go rd (by omega))); (try (have i_tb := Imp.go tb (by omega))); (try (have i_tb := Imp.go tb (by omega))); (try (have i_rd := Imp.go rd (by omega))); omega)) agr.rf hMV2 hP hD hS (lv_sub hl [0, 1] rfl)
