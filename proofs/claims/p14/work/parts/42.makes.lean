/-! making: the new object's own places -/
theorem FRM.state0 {V W X : Vf} {k : Nat} {v : Int32} {x : Int} (h : FRM V W x) (e : X = up2 W 63 k v) (h0 : (V 0 60).toInt ≤ (k : Int)) : FRM V X x := by
  have a : agr [] [63] W X := agr.up agr.rf e rfl
  refine ⟨by rw [a 0 60 rfl]; exact h.1, fun o ho => ?_, fun o k' ho he hk hl => (a 66 _ rfl).trans (h.2.2.1 o k' ho he hk hl), fun i hi => (a 94 _ rfl).trans (h.2.2.2 i hi)⟩
  have b := h.2.1 o ho
  have e63 : X 63 o = W 63 o := up2_k e (by omega)
  refine ⟨(a 61 _ rfl).trans b.1, (a 62 _ rfl).trans b.2.1, ?_, ?_⟩
  · rw [e63]
    exact b.2.2.1
  · rw [e63]
    exact b.2.2.2
theorem FRM.trn {fs : List (Nat × Nat)} {cs : List Nat} {V W X : Vf} {x : Int} (h1 : FRM V W (-1)) (h2 : FRM W X x) (a : agr fs cs V W) (q : thC fs cs) (hf : (V 0 95).toInt ≤ (W 0 95).toInt) (hx : (V 0 60).toInt ≤ x) : FRM V X (-1) := by
  have h3 : FRM V X x := FRM.tr h1.weak h2 a q hf
  exact ⟨h3.1, h3.2.1, fun o k ho _ hk hl => h3.2.2.1 o k ho (by omega) hk hl, h3.2.2.2⟩
theorem FRM.more {V W V1 X : Vf} {k : Nat} {o v : Int32} {x : Int} (h : FRM V W x) (e1 : V1 = up2 W 94 k o) (e2 : X = up2 V1 0 95 v) (hk : (V 0 95).toInt ≤ (k : Int)) : FRM V X x := by
  have a : agr [(0, 95)] [94] W X := agr.up (agr.up agr.rf e1 rfl) e2 rfl
  refine ⟨by rw [a 0 60 rfl]; exact h.1, fun o ho => ?_, fun o k' ho he hk hl => (a 66 _ rfl).trans (h.2.2.1 o k' ho he hk hl), fun i hi => ?_⟩
  · have b := h.2.1 o ho
    have e63 : X 63 o = W 63 o := a 63 _ rfl
    refine ⟨(a 61 _ rfl).trans b.1, (a 62 _ rfl).trans b.2.1, ?_, ?_⟩
    · rw [e63]
      exact b.2.2.1
    · rw [e63]
      exact b.2.2.2
  · exact ((up2_o e2 (by decide)).trans (up2_k e1 (by omega))).trans (h.2.2.2 i hi)
/-- the joins of an object whose joins are being laid: none from need l on (of those that are not late) -/
def JZ (V W : Vf) (c o : Nat) (l : Int) : Prop := ∀ k : Nat, k < 8 → l ≤ (k : Int) → (V 29 (8 * (24 * nwh V + c) + k)).toInt ≠ 1 → (W 66 (8 * o + k)).toInt = 0
def JL (V W : Vf) (c o k : Nat) (m : Int) : Prop := (V 29 (8 * (24 * nwh V + c) + k)).toInt ≠ 1 → (W 66 (8 * o + k)).toInt ≤ m
theorem FRM.nl {fs : List (Nat × Nat)} {cs : List Nat} {V W X : Vf} {c o : Nat} (h : FRM W X (-1)) (a : agr fs cs V W) (q : thC fs cs) (ho : (o : Int) < (W 0 60).toInt) (e : Int32.toNatClampNeg (W 61 o) = c) : ∀ k, k < 8 → (V 29 (8 * (24 * nwh V + c) + k)).toInt ≠ 1 → X 66 (8 * o + k) = W 66 (8 * o + k) := by
  intro k hk hl
  have en : nwh W = nwh V := by unfold nwh; rw [a 0 11 q.1]
  exact h.2.2.1 o k ho (by omega) hk (by rw [en, e, a _ _ (q.2.2.2.2.2.2 _)]; exact hl)
theorem JZ.keep {V W X : Vf} {c o : Nat} {l l' : Int} (h : JZ V W c o l) (hl : l ≤ l') (e : ∀ k, k < 8 → (V 29 (8 * (24 * nwh V + c) + k)).toInt ≠ 1 → X 66 (8 * o + k) = W 66 (8 * o + k)) : JZ V X c o l' := fun k hk h1 h2 => by rw [e k hk h2]; exact h k hk (by omega) h2
theorem JL.keep {V W X : Vf} {c o k : Nat} {m m' : Int} (h : JL V W c o k m) (hm : m ≤ m') (hk : k < 8) (e : ∀ k, k < 8 → (V 29 (8 * (24 * nwh V + c) + k)).toInt ≠ 1 → X 66 (8 * o + k) = W 66 (8 * o + k)) : JL V X c o k m' := fun h2 => by rw [e k hk h2]; have := h h2; omega
theorem JZ.jl {V W : Vf} {c o k : Nat} {m : Int} (h : JZ V W c o (k : Int)) (hk : k < 8) (hm : 0 ≤ m) : JL V W c o k m := fun h2 => by rw [h k hk (Int.le_refl _) h2]; exact hm
theorem JZ.up {V W W1 X : Vf} {c o k p r : Nat} {g v : Int32} {l : Int} (h : JZ V W c o l) (e1 : W1 = up2 W 67 p g) (e2 : X = up2 W1 66 r v) (hr : r = 8 * o + k) (hl : (k : Int) < l) : JZ V X c o l := fun j hj h1 h2 => by
  have e : X 66 (8 * o + j) = W 66 (8 * o + j) := (up2_k e2 (by omega)).trans (up2_o e1 (by decide))
  rw [e]
  exact h j hj h1 h2
theorem JL.up {V W1 X : Vf} {c o k r : Nat} {v : Int32} {m : Int} (e2 : X = up2 W1 66 r v) (hr : r = 8 * o + k) (hm : v.toInt ≤ m) : JL V X c o k m := fun _ => by
  rw [← hr, up2_s e2]
  exact hm

theorem w2267 : Cond.code yX12_joinsAll cX12_joinsAll 8 (some .int) ∈ GW := gw_k tk9_9 192 (rfl) rfl
theorem w2264 : Cond.methodLink RX12 500 yX12_joinsAll ∈ GW := gw_k tk9_9 189 (by decide +kernel) rfl
theorem w2266 : Cond.instanceMethod yX12_joinsAll ∈ GW := gw_k tk9_9 191 (by decide +kernel) rfl
theorem w135 : Cond.selects RX12 yX12_joinsAll yX12_joinsAll ∈ GW := gw_mem 135 (by decide +kernel) rfl
theorem hdV_yX12_joinsAll : yX12_joinsAll.cls = RX12 ∧ yX12_joinsAll.cls ≠ "java/lang/invoke/MethodHandle" ∧ yX12_joinsAll.cls ≠ "java/lang/invoke/VarHandle" ∧ (parseMethodDescriptor yX12_joinsAll.desc).map (fun d => d.parameters.length) = some 3 := by decide +kernel
theorem dk9_dX12_makes_0_0 : dOk cX12_makes [(0, .aload_n 0, 1), (1, .invokevirtual 497, 3), (4, .ifCond .ne 5, 3), (9, .aload_n 0, 1), (10, .getfield 411, 3), (13, .sipush 300, 3), (16, .if_icmp .ne 10, 3), (26, .aload_n 0, 1), (27, .getfield 411, 3), (30, .istore 4, 2), (32, .aload_n 0, 1), (33, .dup, 1), (34, .getfield 411, 3), (37, .iconst 1, 1), (38, .iadd, 1), (39, .putfield 411, 3), (42, .aload_n 0, 1), (43, .getfield 164, 3), (46, .iload 4, 2), (48, .iload_n 1, 1), (49, .iastore, 1), (50, .aload_n 0, 1), (51, .getfield 167, 3), (54, .iload 4, 2)] = true ∧ dOk cX12_makes [(56, .iload_n 2, 1), (57, .iastore, 1), (58, .aload_n 0, 1), (59, .getfield 170, 3), (62, .iload 4, 2), (64, .iconst 0, 1), (65, .iastore, 1), (66, .iconst 0, 1), (67, .istore 5, 2), (69, .iload 5, 2), (71, .bipush 8, 2), (73, .if_icmp .ge 23, 3), (96, .aload_n 0, 1), (97, .iload 4, 2), (99, .iload_n 1, 1), (100, .iload_n 2, 1), (101, .invokevirtual 500, 3), (104, .istore 5, 2), (106, .iload 5, 2), (108, .ifCond .ne 45, 3), (153, .iload 5, 2), (155, .ifCond .ne 61, 3), (216, .aload_n 0, 1), (217, .getfield 170, 3)] = true ∧ dOk cX12_makes [(220, .iload 4, 2), (222, .iconst 2, 1), (223, .iastore, 1), (224, .iload 5, 2), (226, .iconst 1, 1), (227, .if_icmp .ne 46, 3), (273, .iload 5, 2), (275, .ireturn, 1), (230, .iload_n 3, 1), (231, .ifCond .ne 42, 3), (234, .aload_n 0, 1), (235, .getfield 474, 3), (238, .bipush 12, 2), (240, .if_icmp .eq 33, 3), (243, .aload_n 0, 1), (244, .getfield 474, 3), (247, .bipush 13, 2), (249, .if_icmp .eq 24, 3), (252, .aload_n 0, 1), (253, .getfield 474, 3), (256, .bipush 16, 2), (258, .if_icmp .eq 15, 3), (261, .aload_n 0, 1), (262, .getfield 161, 3)] = true ∧ dOk cX12_makes [(265, .bipush 24, 2), (267, .iload_n 2, 1), (268, .imul, 1), (269, .iload_n 1, 1), (270, .iadd, 1), (271, .iconst 1, 1), (272, .bastore, 1), (111, .aload_n 0, 1), (112, .getfield 101, 3), (115, .bipush 24, 2), (117, .aload_n 0, 1), (118, .getfield 286, 3), (121, .imul, 1), (122, .iload_n 1, 1), (123, .iadd, 1), (124, .iaload, 1), (125, .ifCond .lt 28, 3), (158, .aload_n 0, 1), (159, .getfield 170, 3), (162, .iload 4, 2), (164, .iconst 1, 1), (165, .iastore, 1), (166, .aload_n 0, 1), (167, .getfield 173, 3)] = true ∧ dOk cX12_makes [(170, .iload 4, 2), (172, .aload_n 0, 1), (173, .getfield 414, 3), (176, .iastore, 1), (177, .aload_n 0, 1), (178, .dup, 1), (179, .getfield 414, 3), (182, .iconst 1, 1), (183, .iadd, 1), (184, .putfield 414, 3), (187, .aload_n 0, 1), (188, .getfield 222, 3), (191, .aload_n 0, 1), (192, .getfield 507, 3), (195, .iload 4, 2), (197, .iastore, 1), (198, .aload_n 0, 1), (199, .dup, 1), (200, .getfield 507, 3), (203, .iconst 1, 1), (204, .iadd, 1), (205, .putfield 507, 3), (208, .aload_n 0, 1), (209, .iload 4, 2)] = true ∧ dOk cX12_makes [(211, .putfield 490, 3), (214, .iconst 0, 1), (215, .ireturn, 1), (128, .aload_n 0, 1), (129, .aload_n 0, 1), (130, .getfield 101, 3), (133, .bipush 24, 2), (135, .aload_n 0, 1), (136, .getfield 286, 3), (139, .imul, 1), (140, .iload_n 1, 1), (141, .iadd, 1), (142, .iaload, 1), (143, .iload 4, 2), (145, .iload_n 2, 1), (146, .iconst 0, 1), (147, .iconst (-1), 1), (148, .invokevirtual 503, 3), (151, .istore 5, 2), (76, .aload_n 0, 1), (77, .getfield 176, 3), (80, .bipush 8, 2), (82, .iload 4, 2), (84, .imul, 1)] = true ∧ dOk cX12_makes [(85, .iload 5, 2), (87, .iadd, 1), (88, .iconst 0, 1), (89, .iastore, 1), (90, .iinc 5 1, 3), (93, .goto (-24), 3), (19, .aload_n 0, 1), (20, .bipush 16, 2), (22, .invokevirtual 484, 3), (25, .ireturn, 1), (7, .iconst 2, 1), (8, .ireturn, 1)] = true := by decide +kernel
theorem dX12_makes_0 : decode cX12_makes 0 = .ok (.aload_n 0, 1) := dr9 dk9_dX12_makes_0_0.1 0 (0, .aload_n 0, 1) rfl
theorem dX12_makes_1 : decode cX12_makes 1 = .ok (.invokevirtual 497, 3) := dr9 dk9_dX12_makes_0_0.1 1 (1, .invokevirtual 497, 3) rfl
theorem dX12_makes_4 : decode cX12_makes 4 = .ok (.ifCond .ne 5, 3) := dr9 dk9_dX12_makes_0_0.1 2 (4, .ifCond .ne 5, 3) rfl
theorem dX12_makes_9 : decode cX12_makes 9 = .ok (.aload_n 0, 1) := dr9 dk9_dX12_makes_0_0.1 3 (9, .aload_n 0, 1) rfl
theorem dX12_makes_10 : decode cX12_makes 10 = .ok (.getfield 411, 3) := dr9 dk9_dX12_makes_0_0.1 4 (10, .getfield 411, 3) rfl
theorem dX12_makes_13 : decode cX12_makes 13 = .ok (.sipush 300, 3) := dr9 dk9_dX12_makes_0_0.1 5 (13, .sipush 300, 3) rfl
theorem dX12_makes_16 : decode cX12_makes 16 = .ok (.if_icmp .ne 10, 3) := dr9 dk9_dX12_makes_0_0.1 6 (16, .if_icmp .ne 10, 3) rfl
theorem dX12_makes_26 : decode cX12_makes 26 = .ok (.aload_n 0, 1) := dr9 dk9_dX12_makes_0_0.1 7 (26, .aload_n 0, 1) rfl
theorem dX12_makes_27 : decode cX12_makes 27 = .ok (.getfield 411, 3) := dr9 dk9_dX12_makes_0_0.1 8 (27, .getfield 411, 3) rfl
theorem dX12_makes_30 : decode cX12_makes 30 = .ok (.istore 4, 2) := dr9 dk9_dX12_makes_0_0.1 9 (30, .istore 4, 2) rfl
theorem dX12_makes_32 : decode cX12_makes 32 = .ok (.aload_n 0, 1) := dr9 dk9_dX12_makes_0_0.1 10 (32, .aload_n 0, 1) rfl
theorem dX12_makes_33 : decode cX12_makes 33 = .ok (.dup, 1) := dr9 dk9_dX12_makes_0_0.1 11 (33, .dup, 1) rfl
theorem dX12_makes_34 : decode cX12_makes 34 = .ok (.getfield 411, 3) := dr9 dk9_dX12_makes_0_0.1 12 (34, .getfield 411, 3) rfl
theorem dX12_makes_37 : decode cX12_makes 37 = .ok (.iconst 1, 1) := dr9 dk9_dX12_makes_0_0.1 13 (37, .iconst 1, 1) rfl
theorem dX12_makes_38 : decode cX12_makes 38 = .ok (.iadd, 1) := dr9 dk9_dX12_makes_0_0.1 14 (38, .iadd, 1) rfl
theorem dX12_makes_39 : decode cX12_makes 39 = .ok (.putfield 411, 3) := dr9 dk9_dX12_makes_0_0.1 15 (39, .putfield 411, 3) rfl
theorem dX12_makes_42 : decode cX12_makes 42 = .ok (.aload_n 0, 1) := dr9 dk9_dX12_makes_0_0.1 16 (42, .aload_n 0, 1) rfl
theorem dX12_makes_43 : decode cX12_makes 43 = .ok (.getfield 164, 3) := dr9 dk9_dX12_makes_0_0.1 17 (43, .getfield 164, 3) rfl
theorem dX12_makes_46 : decode cX12_makes 46 = .ok (.iload 4, 2) := dr9 dk9_dX12_makes_0_0.1 18 (46, .iload 4, 2) rfl
theorem dX12_makes_48 : decode cX12_makes 48 = .ok (.iload_n 1, 1) := dr9 dk9_dX12_makes_0_0.1 19 (48, .iload_n 1, 1) rfl
theorem dX12_makes_49 : decode cX12_makes 49 = .ok (.iastore, 1) := dr9 dk9_dX12_makes_0_0.1 20 (49, .iastore, 1) rfl
theorem dX12_makes_50 : decode cX12_makes 50 = .ok (.aload_n 0, 1) := dr9 dk9_dX12_makes_0_0.1 21 (50, .aload_n 0, 1) rfl
theorem dX12_makes_51 : decode cX12_makes 51 = .ok (.getfield 167, 3) := dr9 dk9_dX12_makes_0_0.1 22 (51, .getfield 167, 3) rfl
theorem dX12_makes_54 : decode cX12_makes 54 = .ok (.iload 4, 2) := dr9 dk9_dX12_makes_0_0.1 23 (54, .iload 4, 2) rfl
theorem dX12_makes_56 : decode cX12_makes 56 = .ok (.iload_n 2, 1) := dr9 dk9_dX12_makes_0_0.2.1 0 (56, .iload_n 2, 1) rfl
theorem dX12_makes_57 : decode cX12_makes 57 = .ok (.iastore, 1) := dr9 dk9_dX12_makes_0_0.2.1 1 (57, .iastore, 1) rfl
theorem dX12_makes_58 : decode cX12_makes 58 = .ok (.aload_n 0, 1) := dr9 dk9_dX12_makes_0_0.2.1 2 (58, .aload_n 0, 1) rfl
theorem dX12_makes_59 : decode cX12_makes 59 = .ok (.getfield 170, 3) := dr9 dk9_dX12_makes_0_0.2.1 3 (59, .getfield 170, 3) rfl
theorem dX12_makes_62 : decode cX12_makes 62 = .ok (.iload 4, 2) := dr9 dk9_dX12_makes_0_0.2.1 4 (62, .iload 4, 2) rfl
theorem dX12_makes_64 : decode cX12_makes 64 = .ok (.iconst 0, 1) := dr9 dk9_dX12_makes_0_0.2.1 5 (64, .iconst 0, 1) rfl
theorem dX12_makes_65 : decode cX12_makes 65 = .ok (.iastore, 1) := dr9 dk9_dX12_makes_0_0.2.1 6 (65, .iastore, 1) rfl
theorem dX12_makes_66 : decode cX12_makes 66 = .ok (.iconst 0, 1) := dr9 dk9_dX12_makes_0_0.2.1 7 (66, .iconst 0, 1) rfl
theorem dX12_makes_67 : decode cX12_makes 67 = .ok (.istore 5, 2) := dr9 dk9_dX12_makes_0_0.2.1 8 (67, .istore 5, 2) rfl
theorem dX12_makes_69 : decode cX12_makes 69 = .ok (.iload 5, 2) := dr9 dk9_dX12_makes_0_0.2.1 9 (69, .iload 5, 2) rfl
theorem dX12_makes_71 : decode cX12_makes 71 = .ok (.bipush 8, 2) := dr9 dk9_dX12_makes_0_0.2.1 10 (71, .bipush 8, 2) rfl
theorem dX12_makes_73 : decode cX12_makes 73 = .ok (.if_icmp .ge 23, 3) := dr9 dk9_dX12_makes_0_0.2.1 11 (73, .if_icmp .ge 23, 3) rfl
theorem dX12_makes_96 : decode cX12_makes 96 = .ok (.aload_n 0, 1) := dr9 dk9_dX12_makes_0_0.2.1 12 (96, .aload_n 0, 1) rfl
theorem dX12_makes_97 : decode cX12_makes 97 = .ok (.iload 4, 2) := dr9 dk9_dX12_makes_0_0.2.1 13 (97, .iload 4, 2) rfl
theorem dX12_makes_99 : decode cX12_makes 99 = .ok (.iload_n 1, 1) := dr9 dk9_dX12_makes_0_0.2.1 14 (99, .iload_n 1, 1) rfl
theorem dX12_makes_100 : decode cX12_makes 100 = .ok (.iload_n 2, 1) := dr9 dk9_dX12_makes_0_0.2.1 15 (100, .iload_n 2, 1) rfl
theorem dX12_makes_101 : decode cX12_makes 101 = .ok (.invokevirtual 500, 3) := dr9 dk9_dX12_makes_0_0.2.1 16 (101, .invokevirtual 500, 3) rfl
theorem dX12_makes_104 : decode cX12_makes 104 = .ok (.istore 5, 2) := dr9 dk9_dX12_makes_0_0.2.1 17 (104, .istore 5, 2) rfl
theorem dX12_makes_106 : decode cX12_makes 106 = .ok (.iload 5, 2) := dr9 dk9_dX12_makes_0_0.2.1 18 (106, .iload 5, 2) rfl
theorem dX12_makes_108 : decode cX12_makes 108 = .ok (.ifCond .ne 45, 3) := dr9 dk9_dX12_makes_0_0.2.1 19 (108, .ifCond .ne 45, 3) rfl
theorem dX12_makes_153 : decode cX12_makes 153 = .ok (.iload 5, 2) := dr9 dk9_dX12_makes_0_0.2.1 20 (153, .iload 5, 2) rfl
theorem dX12_makes_155 : decode cX12_makes 155 = .ok (.ifCond .ne 61, 3) := dr9 dk9_dX12_makes_0_0.2.1 21 (155, .ifCond .ne 61, 3) rfl
theorem dX12_makes_216 : decode cX12_makes 216 = .ok (.aload_n 0, 1) := dr9 dk9_dX12_makes_0_0.2.1 22 (216, .aload_n 0, 1) rfl
theorem dX12_makes_217 : decode cX12_makes 217 = .ok (.getfield 170, 3) := dr9 dk9_dX12_makes_0_0.2.1 23 (217, .getfield 170, 3) rfl
theorem dX12_makes_220 : decode cX12_makes 220 = .ok (.iload 4, 2) := dr9 dk9_dX12_makes_0_0.2.2.1 0 (220, .iload 4, 2) rfl
theorem dX12_makes_222 : decode cX12_makes 222 = .ok (.iconst 2, 1) := dr9 dk9_dX12_makes_0_0.2.2.1 1 (222, .iconst 2, 1) rfl
theorem dX12_makes_223 : decode cX12_makes 223 = .ok (.iastore, 1) := dr9 dk9_dX12_makes_0_0.2.2.1 2 (223, .iastore, 1) rfl
theorem dX12_makes_224 : decode cX12_makes 224 = .ok (.iload 5, 2) := dr9 dk9_dX12_makes_0_0.2.2.1 3 (224, .iload 5, 2) rfl
theorem dX12_makes_226 : decode cX12_makes 226 = .ok (.iconst 1, 1) := dr9 dk9_dX12_makes_0_0.2.2.1 4 (226, .iconst 1, 1) rfl
theorem dX12_makes_227 : decode cX12_makes 227 = .ok (.if_icmp .ne 46, 3) := dr9 dk9_dX12_makes_0_0.2.2.1 5 (227, .if_icmp .ne 46, 3) rfl
theorem dX12_makes_273 : decode cX12_makes 273 = .ok (.iload 5, 2) := dr9 dk9_dX12_makes_0_0.2.2.1 6 (273, .iload 5, 2) rfl
theorem dX12_makes_275 : decode cX12_makes 275 = .ok (.ireturn, 1) := dr9 dk9_dX12_makes_0_0.2.2.1 7 (275, .ireturn, 1) rfl
theorem dX12_makes_230 : decode cX12_makes 230 = .ok (.iload_n 3, 1) := dr9 dk9_dX12_makes_0_0.2.2.1 8 (230, .iload_n 3, 1) rfl
theorem dX12_makes_231 : decode cX12_makes 231 = .ok (.ifCond .ne 42, 3) := dr9 dk9_dX12_makes_0_0.2.2.1 9 (231, .ifCond .ne 42, 3) rfl
theorem dX12_makes_234 : decode cX12_makes 234 = .ok (.aload_n 0, 1) := dr9 dk9_dX12_makes_0_0.2.2.1 10 (234, .aload_n 0, 1) rfl
theorem dX12_makes_235 : decode cX12_makes 235 = .ok (.getfield 474, 3) := dr9 dk9_dX12_makes_0_0.2.2.1 11 (235, .getfield 474, 3) rfl
theorem dX12_makes_238 : decode cX12_makes 238 = .ok (.bipush 12, 2) := dr9 dk9_dX12_makes_0_0.2.2.1 12 (238, .bipush 12, 2) rfl
theorem dX12_makes_240 : decode cX12_makes 240 = .ok (.if_icmp .eq 33, 3) := dr9 dk9_dX12_makes_0_0.2.2.1 13 (240, .if_icmp .eq 33, 3) rfl
theorem dX12_makes_243 : decode cX12_makes 243 = .ok (.aload_n 0, 1) := dr9 dk9_dX12_makes_0_0.2.2.1 14 (243, .aload_n 0, 1) rfl
theorem dX12_makes_244 : decode cX12_makes 244 = .ok (.getfield 474, 3) := dr9 dk9_dX12_makes_0_0.2.2.1 15 (244, .getfield 474, 3) rfl
theorem dX12_makes_247 : decode cX12_makes 247 = .ok (.bipush 13, 2) := dr9 dk9_dX12_makes_0_0.2.2.1 16 (247, .bipush 13, 2) rfl
theorem dX12_makes_249 : decode cX12_makes 249 = .ok (.if_icmp .eq 24, 3) := dr9 dk9_dX12_makes_0_0.2.2.1 17 (249, .if_icmp .eq 24, 3) rfl
theorem dX12_makes_252 : decode cX12_makes 252 = .ok (.aload_n 0, 1) := dr9 dk9_dX12_makes_0_0.2.2.1 18 (252, .aload_n 0, 1) rfl
theorem dX12_makes_253 : decode cX12_makes 253 = .ok (.getfield 474, 3) := dr9 dk9_dX12_makes_0_0.2.2.1 19 (253, .getfield 474, 3) rfl
theorem dX12_makes_256 : decode cX12_makes 256 = .ok (.bipush 16, 2) := dr9 dk9_dX12_makes_0_0.2.2.1 20 (256, .bipush 16, 2) rfl
theorem dX12_makes_258 : decode cX12_makes 258 = .ok (.if_icmp .eq 15, 3) := dr9 dk9_dX12_makes_0_0.2.2.1 21 (258, .if_icmp .eq 15, 3) rfl
theorem dX12_makes_261 : decode cX12_makes 261 = .ok (.aload_n 0, 1) := dr9 dk9_dX12_makes_0_0.2.2.1 22 (261, .aload_n 0, 1) rfl
theorem dX12_makes_262 : decode cX12_makes 262 = .ok (.getfield 161, 3) := dr9 dk9_dX12_makes_0_0.2.2.1 23 (262, .getfield 161, 3) rfl
theorem dX12_makes_265 : decode cX12_makes 265 = .ok (.bipush 24, 2) := dr9 dk9_dX12_makes_0_0.2.2.2.1 0 (265, .bipush 24, 2) rfl
theorem dX12_makes_267 : decode cX12_makes 267 = .ok (.iload_n 2, 1) := dr9 dk9_dX12_makes_0_0.2.2.2.1 1 (267, .iload_n 2, 1) rfl
theorem dX12_makes_268 : decode cX12_makes 268 = .ok (.imul, 1) := dr9 dk9_dX12_makes_0_0.2.2.2.1 2 (268, .imul, 1) rfl
theorem dX12_makes_269 : decode cX12_makes 269 = .ok (.iload_n 1, 1) := dr9 dk9_dX12_makes_0_0.2.2.2.1 3 (269, .iload_n 1, 1) rfl
theorem dX12_makes_270 : decode cX12_makes 270 = .ok (.iadd, 1) := dr9 dk9_dX12_makes_0_0.2.2.2.1 4 (270, .iadd, 1) rfl
theorem dX12_makes_271 : decode cX12_makes 271 = .ok (.iconst 1, 1) := dr9 dk9_dX12_makes_0_0.2.2.2.1 5 (271, .iconst 1, 1) rfl
theorem dX12_makes_272 : decode cX12_makes 272 = .ok (.bastore, 1) := dr9 dk9_dX12_makes_0_0.2.2.2.1 6 (272, .bastore, 1) rfl
theorem dX12_makes_111 : decode cX12_makes 111 = .ok (.aload_n 0, 1) := dr9 dk9_dX12_makes_0_0.2.2.2.1 7 (111, .aload_n 0, 1) rfl
theorem dX12_makes_112 : decode cX12_makes 112 = .ok (.getfield 101, 3) := dr9 dk9_dX12_makes_0_0.2.2.2.1 8 (112, .getfield 101, 3) rfl
theorem dX12_makes_115 : decode cX12_makes 115 = .ok (.bipush 24, 2) := dr9 dk9_dX12_makes_0_0.2.2.2.1 9 (115, .bipush 24, 2) rfl
theorem dX12_makes_117 : decode cX12_makes 117 = .ok (.aload_n 0, 1) := dr9 dk9_dX12_makes_0_0.2.2.2.1 10 (117, .aload_n 0, 1) rfl
theorem dX12_makes_118 : decode cX12_makes 118 = .ok (.getfield 286, 3) := dr9 dk9_dX12_makes_0_0.2.2.2.1 11 (118, .getfield 286, 3) rfl
theorem dX12_makes_121 : decode cX12_makes 121 = .ok (.imul, 1) := dr9 dk9_dX12_makes_0_0.2.2.2.1 12 (121, .imul, 1) rfl
theorem dX12_makes_122 : decode cX12_makes 122 = .ok (.iload_n 1, 1) := dr9 dk9_dX12_makes_0_0.2.2.2.1 13 (122, .iload_n 1, 1) rfl
theorem dX12_makes_123 : decode cX12_makes 123 = .ok (.iadd, 1) := dr9 dk9_dX12_makes_0_0.2.2.2.1 14 (123, .iadd, 1) rfl
theorem dX12_makes_124 : decode cX12_makes 124 = .ok (.iaload, 1) := dr9 dk9_dX12_makes_0_0.2.2.2.1 15 (124, .iaload, 1) rfl
theorem dX12_makes_125 : decode cX12_makes 125 = .ok (.ifCond .lt 28, 3) := dr9 dk9_dX12_makes_0_0.2.2.2.1 16 (125, .ifCond .lt 28, 3) rfl
theorem dX12_makes_158 : decode cX12_makes 158 = .ok (.aload_n 0, 1) := dr9 dk9_dX12_makes_0_0.2.2.2.1 17 (158, .aload_n 0, 1) rfl
theorem dX12_makes_159 : decode cX12_makes 159 = .ok (.getfield 170, 3) := dr9 dk9_dX12_makes_0_0.2.2.2.1 18 (159, .getfield 170, 3) rfl
theorem dX12_makes_162 : decode cX12_makes 162 = .ok (.iload 4, 2) := dr9 dk9_dX12_makes_0_0.2.2.2.1 19 (162, .iload 4, 2) rfl
theorem dX12_makes_164 : decode cX12_makes 164 = .ok (.iconst 1, 1) := dr9 dk9_dX12_makes_0_0.2.2.2.1 20 (164, .iconst 1, 1) rfl
theorem dX12_makes_165 : decode cX12_makes 165 = .ok (.iastore, 1) := dr9 dk9_dX12_makes_0_0.2.2.2.1 21 (165, .iastore, 1) rfl
theorem dX12_makes_166 : decode cX12_makes 166 = .ok (.aload_n 0, 1) := dr9 dk9_dX12_makes_0_0.2.2.2.1 22 (166, .aload_n 0, 1) rfl
theorem dX12_makes_167 : decode cX12_makes 167 = .ok (.getfield 173, 3) := dr9 dk9_dX12_makes_0_0.2.2.2.1 23 (167, .getfield 173, 3) rfl
theorem dX12_makes_170 : decode cX12_makes 170 = .ok (.iload 4, 2) := dr9 dk9_dX12_makes_0_0.2.2.2.2.1 0 (170, .iload 4, 2) rfl
theorem dX12_makes_172 : decode cX12_makes 172 = .ok (.aload_n 0, 1) := dr9 dk9_dX12_makes_0_0.2.2.2.2.1 1 (172, .aload_n 0, 1) rfl
theorem dX12_makes_173 : decode cX12_makes 173 = .ok (.getfield 414, 3) := dr9 dk9_dX12_makes_0_0.2.2.2.2.1 2 (173, .getfield 414, 3) rfl
theorem dX12_makes_176 : decode cX12_makes 176 = .ok (.iastore, 1) := dr9 dk9_dX12_makes_0_0.2.2.2.2.1 3 (176, .iastore, 1) rfl
theorem dX12_makes_177 : decode cX12_makes 177 = .ok (.aload_n 0, 1) := dr9 dk9_dX12_makes_0_0.2.2.2.2.1 4 (177, .aload_n 0, 1) rfl
theorem dX12_makes_178 : decode cX12_makes 178 = .ok (.dup, 1) := dr9 dk9_dX12_makes_0_0.2.2.2.2.1 5 (178, .dup, 1) rfl
theorem dX12_makes_179 : decode cX12_makes 179 = .ok (.getfield 414, 3) := dr9 dk9_dX12_makes_0_0.2.2.2.2.1 6 (179, .getfield 414, 3) rfl
theorem dX12_makes_182 : decode cX12_makes 182 = .ok (.iconst 1, 1) := dr9 dk9_dX12_makes_0_0.2.2.2.2.1 7 (182, .iconst 1, 1) rfl
theorem dX12_makes_183 : decode cX12_makes 183 = .ok (.iadd, 1) := dr9 dk9_dX12_makes_0_0.2.2.2.2.1 8 (183, .iadd, 1) rfl
theorem dX12_makes_184 : decode cX12_makes 184 = .ok (.putfield 414, 3) := dr9 dk9_dX12_makes_0_0.2.2.2.2.1 9 (184, .putfield 414, 3) rfl
theorem dX12_makes_187 : decode cX12_makes 187 = .ok (.aload_n 0, 1) := dr9 dk9_dX12_makes_0_0.2.2.2.2.1 10 (187, .aload_n 0, 1) rfl
theorem dX12_makes_188 : decode cX12_makes 188 = .ok (.getfield 222, 3) := dr9 dk9_dX12_makes_0_0.2.2.2.2.1 11 (188, .getfield 222, 3) rfl
theorem dX12_makes_191 : decode cX12_makes 191 = .ok (.aload_n 0, 1) := dr9 dk9_dX12_makes_0_0.2.2.2.2.1 12 (191, .aload_n 0, 1) rfl
theorem dX12_makes_192 : decode cX12_makes 192 = .ok (.getfield 507, 3) := dr9 dk9_dX12_makes_0_0.2.2.2.2.1 13 (192, .getfield 507, 3) rfl
theorem dX12_makes_195 : decode cX12_makes 195 = .ok (.iload 4, 2) := dr9 dk9_dX12_makes_0_0.2.2.2.2.1 14 (195, .iload 4, 2) rfl
theorem dX12_makes_197 : decode cX12_makes 197 = .ok (.iastore, 1) := dr9 dk9_dX12_makes_0_0.2.2.2.2.1 15 (197, .iastore, 1) rfl
theorem dX12_makes_198 : decode cX12_makes 198 = .ok (.aload_n 0, 1) := dr9 dk9_dX12_makes_0_0.2.2.2.2.1 16 (198, .aload_n 0, 1) rfl
theorem dX12_makes_199 : decode cX12_makes 199 = .ok (.dup, 1) := dr9 dk9_dX12_makes_0_0.2.2.2.2.1 17 (199, .dup, 1) rfl
theorem dX12_makes_200 : decode cX12_makes 200 = .ok (.getfield 507, 3) := dr9 dk9_dX12_makes_0_0.2.2.2.2.1 18 (200, .getfield 507, 3) rfl
theorem dX12_makes_203 : decode cX12_makes 203 = .ok (.iconst 1, 1) := dr9 dk9_dX12_makes_0_0.2.2.2.2.1 19 (203, .iconst 1, 1) rfl
theorem dX12_makes_204 : decode cX12_makes 204 = .ok (.iadd, 1) := dr9 dk9_dX12_makes_0_0.2.2.2.2.1 20 (204, .iadd, 1) rfl
theorem dX12_makes_205 : decode cX12_makes 205 = .ok (.putfield 507, 3) := dr9 dk9_dX12_makes_0_0.2.2.2.2.1 21 (205, .putfield 507, 3) rfl
theorem dX12_makes_208 : decode cX12_makes 208 = .ok (.aload_n 0, 1) := dr9 dk9_dX12_makes_0_0.2.2.2.2.1 22 (208, .aload_n 0, 1) rfl
theorem dX12_makes_209 : decode cX12_makes 209 = .ok (.iload 4, 2) := dr9 dk9_dX12_makes_0_0.2.2.2.2.1 23 (209, .iload 4, 2) rfl
theorem dX12_makes_211 : decode cX12_makes 211 = .ok (.putfield 490, 3) := dr9 dk9_dX12_makes_0_0.2.2.2.2.2.1 0 (211, .putfield 490, 3) rfl
theorem dX12_makes_214 : decode cX12_makes 214 = .ok (.iconst 0, 1) := dr9 dk9_dX12_makes_0_0.2.2.2.2.2.1 1 (214, .iconst 0, 1) rfl
theorem dX12_makes_215 : decode cX12_makes 215 = .ok (.ireturn, 1) := dr9 dk9_dX12_makes_0_0.2.2.2.2.2.1 2 (215, .ireturn, 1) rfl
theorem dX12_makes_128 : decode cX12_makes 128 = .ok (.aload_n 0, 1) := dr9 dk9_dX12_makes_0_0.2.2.2.2.2.1 3 (128, .aload_n 0, 1) rfl
theorem dX12_makes_129 : decode cX12_makes 129 = .ok (.aload_n 0, 1) := dr9 dk9_dX12_makes_0_0.2.2.2.2.2.1 4 (129, .aload_n 0, 1) rfl
theorem dX12_makes_130 : decode cX12_makes 130 = .ok (.getfield 101, 3) := dr9 dk9_dX12_makes_0_0.2.2.2.2.2.1 5 (130, .getfield 101, 3) rfl
theorem dX12_makes_133 : decode cX12_makes 133 = .ok (.bipush 24, 2) := dr9 dk9_dX12_makes_0_0.2.2.2.2.2.1 6 (133, .bipush 24, 2) rfl
theorem dX12_makes_135 : decode cX12_makes 135 = .ok (.aload_n 0, 1) := dr9 dk9_dX12_makes_0_0.2.2.2.2.2.1 7 (135, .aload_n 0, 1) rfl
theorem dX12_makes_136 : decode cX12_makes 136 = .ok (.getfield 286, 3) := dr9 dk9_dX12_makes_0_0.2.2.2.2.2.1 8 (136, .getfield 286, 3) rfl
theorem dX12_makes_139 : decode cX12_makes 139 = .ok (.imul, 1) := dr9 dk9_dX12_makes_0_0.2.2.2.2.2.1 9 (139, .imul, 1) rfl
theorem dX12_makes_140 : decode cX12_makes 140 = .ok (.iload_n 1, 1) := dr9 dk9_dX12_makes_0_0.2.2.2.2.2.1 10 (140, .iload_n 1, 1) rfl
theorem dX12_makes_141 : decode cX12_makes 141 = .ok (.iadd, 1) := dr9 dk9_dX12_makes_0_0.2.2.2.2.2.1 11 (141, .iadd, 1) rfl
theorem dX12_makes_142 : decode cX12_makes 142 = .ok (.iaload, 1) := dr9 dk9_dX12_makes_0_0.2.2.2.2.2.1 12 (142, .iaload, 1) rfl
theorem dX12_makes_143 : decode cX12_makes 143 = .ok (.iload 4, 2) := dr9 dk9_dX12_makes_0_0.2.2.2.2.2.1 13 (143, .iload 4, 2) rfl
theorem dX12_makes_145 : decode cX12_makes 145 = .ok (.iload_n 2, 1) := dr9 dk9_dX12_makes_0_0.2.2.2.2.2.1 14 (145, .iload_n 2, 1) rfl
theorem dX12_makes_146 : decode cX12_makes 146 = .ok (.iconst 0, 1) := dr9 dk9_dX12_makes_0_0.2.2.2.2.2.1 15 (146, .iconst 0, 1) rfl
theorem dX12_makes_147 : decode cX12_makes 147 = .ok (.iconst (-1), 1) := dr9 dk9_dX12_makes_0_0.2.2.2.2.2.1 16 (147, .iconst (-1), 1) rfl
theorem dX12_makes_148 : decode cX12_makes 148 = .ok (.invokevirtual 503, 3) := dr9 dk9_dX12_makes_0_0.2.2.2.2.2.1 17 (148, .invokevirtual 503, 3) rfl
theorem dX12_makes_151 : decode cX12_makes 151 = .ok (.istore 5, 2) := dr9 dk9_dX12_makes_0_0.2.2.2.2.2.1 18 (151, .istore 5, 2) rfl
theorem dX12_makes_76 : decode cX12_makes 76 = .ok (.aload_n 0, 1) := dr9 dk9_dX12_makes_0_0.2.2.2.2.2.1 19 (76, .aload_n 0, 1) rfl
theorem dX12_makes_77 : decode cX12_makes 77 = .ok (.getfield 176, 3) := dr9 dk9_dX12_makes_0_0.2.2.2.2.2.1 20 (77, .getfield 176, 3) rfl
theorem dX12_makes_80 : decode cX12_makes 80 = .ok (.bipush 8, 2) := dr9 dk9_dX12_makes_0_0.2.2.2.2.2.1 21 (80, .bipush 8, 2) rfl
theorem dX12_makes_82 : decode cX12_makes 82 = .ok (.iload 4, 2) := dr9 dk9_dX12_makes_0_0.2.2.2.2.2.1 22 (82, .iload 4, 2) rfl
theorem dX12_makes_84 : decode cX12_makes 84 = .ok (.imul, 1) := dr9 dk9_dX12_makes_0_0.2.2.2.2.2.1 23 (84, .imul, 1) rfl
theorem dX12_makes_85 : decode cX12_makes 85 = .ok (.iload 5, 2) := dr9 dk9_dX12_makes_0_0.2.2.2.2.2.2 0 (85, .iload 5, 2) rfl
theorem dX12_makes_87 : decode cX12_makes 87 = .ok (.iadd, 1) := dr9 dk9_dX12_makes_0_0.2.2.2.2.2.2 1 (87, .iadd, 1) rfl
theorem dX12_makes_88 : decode cX12_makes 88 = .ok (.iconst 0, 1) := dr9 dk9_dX12_makes_0_0.2.2.2.2.2.2 2 (88, .iconst 0, 1) rfl
theorem dX12_makes_89 : decode cX12_makes 89 = .ok (.iastore, 1) := dr9 dk9_dX12_makes_0_0.2.2.2.2.2.2 3 (89, .iastore, 1) rfl
theorem dX12_makes_90 : decode cX12_makes 90 = .ok (.iinc 5 1, 3) := dr9 dk9_dX12_makes_0_0.2.2.2.2.2.2 4 (90, .iinc 5 1, 3) rfl
theorem dX12_makes_93 : decode cX12_makes 93 = .ok (.goto (-24), 3) := dr9 dk9_dX12_makes_0_0.2.2.2.2.2.2 5 (93, .goto (-24), 3) rfl
theorem dX12_makes_19 : decode cX12_makes 19 = .ok (.aload_n 0, 1) := dr9 dk9_dX12_makes_0_0.2.2.2.2.2.2 6 (19, .aload_n 0, 1) rfl
theorem dX12_makes_20 : decode cX12_makes 20 = .ok (.bipush 16, 2) := dr9 dk9_dX12_makes_0_0.2.2.2.2.2.2 7 (20, .bipush 16, 2) rfl
theorem dX12_makes_22 : decode cX12_makes 22 = .ok (.invokevirtual 484, 3) := dr9 dk9_dX12_makes_0_0.2.2.2.2.2.2 8 (22, .invokevirtual 484, 3) rfl
theorem dX12_makes_25 : decode cX12_makes 25 = .ok (.ireturn, 1) := dr9 dk9_dX12_makes_0_0.2.2.2.2.2.2 9 (25, .ireturn, 1) rfl
theorem dX12_makes_7 : decode cX12_makes 7 = .ok (.iconst 2, 1) := dr9 dk9_dX12_makes_0_0.2.2.2.2.2.2 10 (7, .iconst 2, 1) rfl
theorem dX12_makes_8 : decode cX12_makes 8 = .ok (.ireturn, 1) := dr9 dk9_dX12_makes_0_0.2.2.2.2.2.2 11 (8, .ireturn, 1) rfl
abbrev q_s_joinsAll (D : va_G) (ks : KS) (ad : Nat → Nat) (kk : Nat → ClassId) (V : Vf) (L : Lf) (p0 : Int32) (p1 : Int32) (p2 : Int32) (A : Nat → Prop) : Array Value → State → Outcome → State → Prop := va_Qi (fun (r : Int32) (u : Vf × Lf) => rgd bM u.1 ∧ agr [(0, 60), (0, 65), (0, 68), (0, 69), (0, 73), (0, 76), (0, 90), (0, 91), (0, 92), (0, 93), (0, 95), (0, 96), (0, 98)] [59, 61, 62, 63, 64, 66, 67, 74, 75, 77, 78, 79, 80, 94, 97] V u.1 ∧ u.2 = L ∧ (0 ≤ r.toInt ∧ r.toInt ≤ 2) ∧ ((u.1 0 93).toInt = (V 0 93).toInt) ∧ ((u.1 0 98).toInt = (V 0 98).toInt) ∧ ((V 0 60).toInt ≤ (u.1 0 60).toInt) ∧ ((V 0 65).toInt ≤ (u.1 0 65).toInt) ∧ ((u.1 0 65).toInt - (V 0 65).toInt ≤ (u.1 0 60).toInt - (V 0 60).toInt) ∧ ((u.1 0 73).toInt + (u.1 0 95).toInt - (u.1 0 65).toInt ≤ (V 0 73).toInt + (V 0 95).toInt - (V 0 65).toInt) ∧ ((V 0 73).toInt ≤ (u.1 0 73).toInt) ∧ ((V 0 69).toInt ≤ (u.1 0 69).toInt) ∧ ((V 0 95).toInt ≤ (u.1 0 95).toInt) ∧ ((u.1 0 95).toInt - (V 0 95).toInt ≤ (u.1 0 65).toInt - (V 0 65).toInt) ∧ ((u.1 0 76).toInt - (u.1 0 69).toInt - (u.1 0 73).toInt ≤ (V 0 76).toInt - (V 0 69).toInt - (V 0 73).toInt) ∧ (RT u.1) ∧ (FRM V u.1 p0.toInt)) (fun u t => gq D A (mw ad kk ks.1 u.1 u.2) (mty kk) t) A
def K_s_joinsAll (l : Launch) (D : va_G) (ks : KS) (d1 d2 : Nat) : Prop := ∀ (sz : Nat) (ad : Nat → Nat) (kk : Nat → ClassId) (V : Vf) (L : Lf) (p0 : Int32) (p1 : Int32) (p2 : Int32) (hMV : rgd bM V) (rg_p0 : 0 ≤ p0.toInt ∧ p0.toInt ≤ 299) (rg_p1 : 0 ≤ p1.toInt ∧ p1.toInt ≤ 23) (rg_p2 : 0 ≤ p2.toInt ∧ p2.toInt ≤ 39) (rt : RT V) (n1 : (V 0 65).toInt ≤ (V 0 60).toInt) (n2 : (V 0 95).toInt ≤ (V 0 65).toInt) (n3 : (V 0 73).toInt + (V 0 95).toInt - (V 0 65).toInt ≤ 999000) (n4 : (V 0 76).toInt - (V 0 69).toInt - (V 0 73).toInt ≤ 1000000000) (n5 : 300 - (V 0 60).toInt ≤ (d1 : Int)) (n6 : 10 - (V 0 93).toInt ≤ (d2 : Int)) (oq1 : p0.toInt < (V 0 60).toInt) (n7 : (V 0 98).toInt + 400 * (d2 : Int) + 30 ≤ 19000) (tq : th V (Int32.toNatClampNeg p1)) (ob : (V 61 (Int32.toNatClampNeg p0)).toInt = p1.toInt) (jz : JZ V V (Int32.toNatClampNeg p1) (Int32.toNatClampNeg p0) 0) , Met l yX12_joinsAll (Cond.code yX12_joinsAll cX12_joinsAll 8 (some .int) :: GW) (rK2 (4 * d1 + 40 * d2 + 16) (100 * d1 + 1000 * d2 + 620)) (va_Pc [.ref (ad 0), .int p0, .int p1, .int p2] (gp D ks (mw ad kk ks.1 V L) (mty kk) sz)) (q_s_joinsAll D ks ad kk V L p0 p1 p2 (va_A (mw ad kk ks.1 V L) sz)) 0 0 (va_A (mw ad kk ks.1 V L) sz)