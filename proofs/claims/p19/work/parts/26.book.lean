section
/-- the table of the BOOK that is there -/
def TB (V : Vf) : Prop := TBL V (Int32.toNatClampNeg (V 0 11)) (10000 * Int32.toNatClampNeg (V 0 11) + 10000)
theorem TBL.nil {V : Vf} {nx hi : Nat} (h1 : (V 19 nx).toInt = 0) (h2 : (V 39 nx).toInt = 0) : TBL V nx hi := ⟨fun i q => absurd q (by omega), fun i q => absurd q (by omega)⟩
abbrev R0 : Nat → Nat × Nat := fun _ => (0, 0)
theorem TBL.R0 {V W : Vf} {nx hi hi' : Nat} (h : TBL V nx hi) (hM : rgd bM V) (f : fr R0 V W) (hh : hi ≤ hi') : TBL W nx hi' := h.keep hM f hh rfl rfl rfl rfl rfl rfl rfl rfl rfl rfl rfl rfl rfl rfl rfl
theorem TB.ag {fs : List (Nat × Nat)} {cs : List Nat} {V W : Vf} (h : TB V) (hM : rgd bM V) (a : agr fs cs V W) (h0 : wrL fs cs 0 11 = false) (h1 : ∀ y ∈ fs, y.1 = 0) (h2 : ∀ y ∈ cs, trk y = false) : TB W := by
  unfold TB at h ⊢
  rw [a 0 11 h0]
  exact h.R0 hM (fr.ag a h1 h2) (Nat.le_refl _)

theorem w2159 : Cond.code yX12_forget cX12_forget 2 none ∈ GW := gw_k tk9_9 84 (rfl) rfl
theorem w2156 : Cond.methodLink RX12 310 yX12_forget ∈ GW := gw_k tk9_9 81 (by decide +kernel) rfl
theorem w2158 : Cond.instanceMethod yX12_forget ∈ GW := gw_k tk9_9 83 (by decide +kernel) rfl
theorem w116 : Cond.selects RX12 yX12_forget yX12_forget ∈ GW := gw_mem 116 (by decide +kernel) rfl
theorem hdV_yX12_forget : yX12_forget.cls = RX12 ∧ yX12_forget.cls ≠ "java/lang/invoke/MethodHandle" ∧ yX12_forget.cls ≠ "java/lang/invoke/VarHandle" ∧ (parseMethodDescriptor yX12_forget.desc).map (fun d => d.parameters.length) = some 0 := by decide +kernel
theorem w2155 : Cond.code yX12_toldWrap cX12_toldWrap 4 none ∈ GW := gw_k tk9_9 80 (rfl) rfl
theorem w2152 : Cond.methodLink RX12 307 yX12_toldWrap ∈ GW := gw_k tk9_9 77 (by decide +kernel) rfl
theorem w2154 : Cond.instanceMethod yX12_toldWrap ∈ GW := gw_k tk9_9 79 (by decide +kernel) rfl
theorem w115 : Cond.selects RX12 yX12_toldWrap yX12_toldWrap ∈ GW := gw_mem 115 (by decide +kernel) rfl
theorem hdV_yX12_toldWrap : yX12_toldWrap.cls = RX12 ∧ yX12_toldWrap.cls ≠ "java/lang/invoke/MethodHandle" ∧ yX12_toldWrap.cls ≠ "java/lang/invoke/VarHandle" ∧ (parseMethodDescriptor yX12_toldWrap.desc).map (fun d => d.parameters.length) = some 0 := by decide +kernel
theorem w2091 : Cond.code yX12_toldComponent cX12_toldComponent 5 none ∈ GW := gw_k tk9_9 16 (rfl) rfl
theorem w2088 : Cond.methodLink RX12 304 yX12_toldComponent ∈ GW := gw_k tk9_9 13 (by decide +kernel) rfl
theorem w2090 : Cond.instanceMethod yX12_toldComponent ∈ GW := gw_k tk9_9 15 (by decide +kernel) rfl
theorem w99 : Cond.selects RX12 yX12_toldComponent yX12_toldComponent ∈ GW := gw_mem 99 (by decide +kernel) rfl
theorem hdV_yX12_toldComponent : yX12_toldComponent.cls = RX12 ∧ yX12_toldComponent.cls ≠ "java/lang/invoke/MethodHandle" ∧ yX12_toldComponent.cls ≠ "java/lang/invoke/VarHandle" ∧ (parseMethodDescriptor yX12_toldComponent.desc).map (fun d => d.parameters.length) = some 0 := by decide +kernel
theorem w2082 : Cond.code yX12_toldSetting cX12_toldSetting 2 none ∈ GW := gw_k tk9_9 7 (rfl) rfl
theorem w2079 : Cond.methodLink RX12 301 yX12_toldSetting ∈ GW := gw_k tk9_9 4 (by decide +kernel) rfl
theorem w2081 : Cond.instanceMethod yX12_toldSetting ∈ GW := gw_k tk9_9 6 (by decide +kernel) rfl
theorem w97 : Cond.selects RX12 yX12_toldSetting yX12_toldSetting ∈ GW := gw_mem 97 (by decide +kernel) rfl
theorem hdV_yX12_toldSetting : yX12_toldSetting.cls = RX12 ∧ yX12_toldSetting.cls ≠ "java/lang/invoke/MethodHandle" ∧ yX12_toldSetting.cls ≠ "java/lang/invoke/VarHandle" ∧ (parseMethodDescriptor yX12_toldSetting.desc).map (fun d => d.parameters.length) = some 0 := by decide +kernel
theorem w2030 : Cond.code yX12_toldType cX12_toldType 5 none ∈ GW := gw_k tk9_8 195 (rfl) rfl
theorem w2027 : Cond.methodLink RX12 298 yX12_toldType ∈ GW := gw_k tk9_8 192 (by decide +kernel) rfl
theorem w2029 : Cond.instanceMethod yX12_toldType ∈ GW := gw_k tk9_8 194 (by decide +kernel) rfl
theorem w84 : Cond.selects RX12 yX12_toldType yX12_toldType ∈ GW := gw_mem 84 (by decide +kernel) rfl
theorem hdV_yX12_toldType : yX12_toldType.cls = RX12 ∧ yX12_toldType.cls ≠ "java/lang/invoke/MethodHandle" ∧ yX12_toldType.cls ≠ "java/lang/invoke/VarHandle" ∧ (parseMethodDescriptor yX12_toldType.desc).map (fun d => d.parameters.length) = some 0 := by decide +kernel
theorem dk9_dX12_book_0_0 : dOk cX12_book [(0, .aload_n 0, 1), (1, .iconst 0, 1), (2, .putfield 1, 3), (5, .aload_n 0, 1), (6, .invokevirtual 283, 3), (9, .aload_n 0, 1), (10, .iconst 1, 1), (11, .aload_n 0, 1), (12, .getfield 286, 3), (15, .isub, 1), (16, .putfield 289, 3), (19, .aload_n 0, 1), (20, .getfield 43, 3), (23, .aload_n 0, 1), (24, .getfield 289, 3), (27, .iconst 0, 1), (28, .iastore, 1), (29, .aload_n 0, 1), (30, .getfield 53, 3), (33, .aload_n 0, 1), (34, .getfield 289, 3), (37, .iconst 0, 1), (38, .iastore, 1), (39, .aload_n 0, 1)] = true ∧ dOk cX12_book [(40, .getfield 62, 3), (43, .aload_n 0, 1), (44, .getfield 289, 3), (47, .iconst 0, 1), (48, .iastore, 1), (49, .aload_n 0, 1), (50, .getfield 110, 3), (53, .aload_n 0, 1), (54, .getfield 289, 3), (57, .iconst 0, 1), (58, .iastore, 1), (59, .aload_n 0, 1), (60, .getfield 116, 3), (63, .aload_n 0, 1), (64, .getfield 289, 3), (67, .iconst 0, 1), (68, .iastore, 1), (69, .aload_n 0, 1), (70, .getfield 122, 3), (73, .aload_n 0, 1), (74, .getfield 289, 3), (77, .iconst 0, 1), (78, .iastore, 1), (79, .aload_n 0, 1)] = true ∧ dOk cX12_book [(80, .iconst 0, 1), (81, .putfield 292, 3), (84, .aload_n 0, 1), (85, .sipush 10000, 3), (88, .aload_n 0, 1), (89, .getfield 289, 3), (92, .imul, 1), (93, .putfield 295, 3), (96, .aload_n 0, 1), (97, .getfield 267, 3), (100, .ifCond .ne 84, 3), (184, .aload_n 0, 1), (185, .getfield 267, 3), (188, .ifCond .ne 15, 3), (203, .aload_n 0, 1), (204, .getfield 267, 3), (207, .ireturn, 1), (103, .aload_n 0, 1), (104, .getfield 24, 3), (107, .aload_n 0, 1), (108, .getfield 264, 3), (111, .iaload, 1), (112, .ifCond .eq 72, 3), (191, .aload_n 0, 1)] = true ∧ dOk cX12_book [(192, .aload_n 0, 1), (193, .getfield 289, 3), (196, .putfield 286, 3), (199, .aload_n 0, 1), (200, .invokevirtual 310, 3), (115, .aload_n 0, 1), (116, .iconst 0, 1), (117, .invokevirtual 277, 3), (120, .ifCond .eq 10, 3), (130, .aload_n 0, 1), (131, .iconst 2, 1), (132, .invokevirtual 277, 3), (135, .ifCond .eq 10, 3), (145, .aload_n 0, 1), (146, .iconst 3, 1), (147, .invokevirtual 277, 3), (150, .ifCond .eq 10, 3), (160, .aload_n 0, 1), (161, .bipush 8, 2), (163, .invokevirtual 277, 3), (166, .ifCond .eq 10, 3), (176, .aload_n 0, 1), (177, .iconst 1, 1), (178, .invokevirtual 273, 3)] = true ∧ dOk cX12_book [(181, .goto (-85), 3), (169, .aload_n 0, 1), (170, .invokevirtual 307, 3), (173, .goto (-77), 3), (153, .aload_n 0, 1), (154, .invokevirtual 304, 3), (157, .goto (-61), 3), (138, .aload_n 0, 1), (139, .invokevirtual 301, 3), (142, .goto (-46), 3), (123, .aload_n 0, 1), (124, .invokevirtual 298, 3), (127, .goto (-31), 3)] = true := by decide +kernel
theorem dX12_book_0 : decode cX12_book 0 = .ok (.aload_n 0, 1) := dr9 dk9_dX12_book_0_0.1 0 (0, .aload_n 0, 1) rfl
theorem dX12_book_1 : decode cX12_book 1 = .ok (.iconst 0, 1) := dr9 dk9_dX12_book_0_0.1 1 (1, .iconst 0, 1) rfl
theorem dX12_book_2 : decode cX12_book 2 = .ok (.putfield 1, 3) := dr9 dk9_dX12_book_0_0.1 2 (2, .putfield 1, 3) rfl
theorem dX12_book_5 : decode cX12_book 5 = .ok (.aload_n 0, 1) := dr9 dk9_dX12_book_0_0.1 3 (5, .aload_n 0, 1) rfl
theorem dX12_book_6 : decode cX12_book 6 = .ok (.invokevirtual 283, 3) := dr9 dk9_dX12_book_0_0.1 4 (6, .invokevirtual 283, 3) rfl
theorem dX12_book_9 : decode cX12_book 9 = .ok (.aload_n 0, 1) := dr9 dk9_dX12_book_0_0.1 5 (9, .aload_n 0, 1) rfl
theorem dX12_book_10 : decode cX12_book 10 = .ok (.iconst 1, 1) := dr9 dk9_dX12_book_0_0.1 6 (10, .iconst 1, 1) rfl
theorem dX12_book_11 : decode cX12_book 11 = .ok (.aload_n 0, 1) := dr9 dk9_dX12_book_0_0.1 7 (11, .aload_n 0, 1) rfl
theorem dX12_book_12 : decode cX12_book 12 = .ok (.getfield 286, 3) := dr9 dk9_dX12_book_0_0.1 8 (12, .getfield 286, 3) rfl
theorem dX12_book_15 : decode cX12_book 15 = .ok (.isub, 1) := dr9 dk9_dX12_book_0_0.1 9 (15, .isub, 1) rfl
theorem dX12_book_16 : decode cX12_book 16 = .ok (.putfield 289, 3) := dr9 dk9_dX12_book_0_0.1 10 (16, .putfield 289, 3) rfl
theorem dX12_book_19 : decode cX12_book 19 = .ok (.aload_n 0, 1) := dr9 dk9_dX12_book_0_0.1 11 (19, .aload_n 0, 1) rfl
theorem dX12_book_20 : decode cX12_book 20 = .ok (.getfield 43, 3) := dr9 dk9_dX12_book_0_0.1 12 (20, .getfield 43, 3) rfl
theorem dX12_book_23 : decode cX12_book 23 = .ok (.aload_n 0, 1) := dr9 dk9_dX12_book_0_0.1 13 (23, .aload_n 0, 1) rfl
theorem dX12_book_24 : decode cX12_book 24 = .ok (.getfield 289, 3) := dr9 dk9_dX12_book_0_0.1 14 (24, .getfield 289, 3) rfl
theorem dX12_book_27 : decode cX12_book 27 = .ok (.iconst 0, 1) := dr9 dk9_dX12_book_0_0.1 15 (27, .iconst 0, 1) rfl
theorem dX12_book_28 : decode cX12_book 28 = .ok (.iastore, 1) := dr9 dk9_dX12_book_0_0.1 16 (28, .iastore, 1) rfl
theorem dX12_book_29 : decode cX12_book 29 = .ok (.aload_n 0, 1) := dr9 dk9_dX12_book_0_0.1 17 (29, .aload_n 0, 1) rfl
theorem dX12_book_30 : decode cX12_book 30 = .ok (.getfield 53, 3) := dr9 dk9_dX12_book_0_0.1 18 (30, .getfield 53, 3) rfl
theorem dX12_book_33 : decode cX12_book 33 = .ok (.aload_n 0, 1) := dr9 dk9_dX12_book_0_0.1 19 (33, .aload_n 0, 1) rfl
theorem dX12_book_34 : decode cX12_book 34 = .ok (.getfield 289, 3) := dr9 dk9_dX12_book_0_0.1 20 (34, .getfield 289, 3) rfl
theorem dX12_book_37 : decode cX12_book 37 = .ok (.iconst 0, 1) := dr9 dk9_dX12_book_0_0.1 21 (37, .iconst 0, 1) rfl
theorem dX12_book_38 : decode cX12_book 38 = .ok (.iastore, 1) := dr9 dk9_dX12_book_0_0.1 22 (38, .iastore, 1) rfl
theorem dX12_book_39 : decode cX12_book 39 = .ok (.aload_n 0, 1) := dr9 dk9_dX12_book_0_0.1 23 (39, .aload_n 0, 1) rfl
theorem dX12_book_40 : decode cX12_book 40 = .ok (.getfield 62, 3) := dr9 dk9_dX12_book_0_0.2.1 0 (40, .getfield 62, 3) rfl
theorem dX12_book_43 : decode cX12_book 43 = .ok (.aload_n 0, 1) := dr9 dk9_dX12_book_0_0.2.1 1 (43, .aload_n 0, 1) rfl
theorem dX12_book_44 : decode cX12_book 44 = .ok (.getfield 289, 3) := dr9 dk9_dX12_book_0_0.2.1 2 (44, .getfield 289, 3) rfl
theorem dX12_book_47 : decode cX12_book 47 = .ok (.iconst 0, 1) := dr9 dk9_dX12_book_0_0.2.1 3 (47, .iconst 0, 1) rfl
theorem dX12_book_48 : decode cX12_book 48 = .ok (.iastore, 1) := dr9 dk9_dX12_book_0_0.2.1 4 (48, .iastore, 1) rfl
theorem dX12_book_49 : decode cX12_book 49 = .ok (.aload_n 0, 1) := dr9 dk9_dX12_book_0_0.2.1 5 (49, .aload_n 0, 1) rfl
theorem dX12_book_50 : decode cX12_book 50 = .ok (.getfield 110, 3) := dr9 dk9_dX12_book_0_0.2.1 6 (50, .getfield 110, 3) rfl
theorem dX12_book_53 : decode cX12_book 53 = .ok (.aload_n 0, 1) := dr9 dk9_dX12_book_0_0.2.1 7 (53, .aload_n 0, 1) rfl
theorem dX12_book_54 : decode cX12_book 54 = .ok (.getfield 289, 3) := dr9 dk9_dX12_book_0_0.2.1 8 (54, .getfield 289, 3) rfl
theorem dX12_book_57 : decode cX12_book 57 = .ok (.iconst 0, 1) := dr9 dk9_dX12_book_0_0.2.1 9 (57, .iconst 0, 1) rfl
theorem dX12_book_58 : decode cX12_book 58 = .ok (.iastore, 1) := dr9 dk9_dX12_book_0_0.2.1 10 (58, .iastore, 1) rfl
theorem dX12_book_59 : decode cX12_book 59 = .ok (.aload_n 0, 1) := dr9 dk9_dX12_book_0_0.2.1 11 (59, .aload_n 0, 1) rfl
theorem dX12_book_60 : decode cX12_book 60 = .ok (.getfield 116, 3) := dr9 dk9_dX12_book_0_0.2.1 12 (60, .getfield 116, 3) rfl
theorem dX12_book_63 : decode cX12_book 63 = .ok (.aload_n 0, 1) := dr9 dk9_dX12_book_0_0.2.1 13 (63, .aload_n 0, 1) rfl
theorem dX12_book_64 : decode cX12_book 64 = .ok (.getfield 289, 3) := dr9 dk9_dX12_book_0_0.2.1 14 (64, .getfield 289, 3) rfl
theorem dX12_book_67 : decode cX12_book 67 = .ok (.iconst 0, 1) := dr9 dk9_dX12_book_0_0.2.1 15 (67, .iconst 0, 1) rfl
theorem dX12_book_68 : decode cX12_book 68 = .ok (.iastore, 1) := dr9 dk9_dX12_book_0_0.2.1 16 (68, .iastore, 1) rfl
theorem dX12_book_69 : decode cX12_book 69 = .ok (.aload_n 0, 1) := dr9 dk9_dX12_book_0_0.2.1 17 (69, .aload_n 0, 1) rfl
theorem dX12_book_70 : decode cX12_book 70 = .ok (.getfield 122, 3) := dr9 dk9_dX12_book_0_0.2.1 18 (70, .getfield 122, 3) rfl
theorem dX12_book_73 : decode cX12_book 73 = .ok (.aload_n 0, 1) := dr9 dk9_dX12_book_0_0.2.1 19 (73, .aload_n 0, 1) rfl
theorem dX12_book_74 : decode cX12_book 74 = .ok (.getfield 289, 3) := dr9 dk9_dX12_book_0_0.2.1 20 (74, .getfield 289, 3) rfl
theorem dX12_book_77 : decode cX12_book 77 = .ok (.iconst 0, 1) := dr9 dk9_dX12_book_0_0.2.1 21 (77, .iconst 0, 1) rfl
theorem dX12_book_78 : decode cX12_book 78 = .ok (.iastore, 1) := dr9 dk9_dX12_book_0_0.2.1 22 (78, .iastore, 1) rfl
theorem dX12_book_79 : decode cX12_book 79 = .ok (.aload_n 0, 1) := dr9 dk9_dX12_book_0_0.2.1 23 (79, .aload_n 0, 1) rfl
theorem dX12_book_80 : decode cX12_book 80 = .ok (.iconst 0, 1) := dr9 dk9_dX12_book_0_0.2.2.1 0 (80, .iconst 0, 1) rfl
theorem dX12_book_81 : decode cX12_book 81 = .ok (.putfield 292, 3) := dr9 dk9_dX12_book_0_0.2.2.1 1 (81, .putfield 292, 3) rfl
theorem dX12_book_84 : decode cX12_book 84 = .ok (.aload_n 0, 1) := dr9 dk9_dX12_book_0_0.2.2.1 2 (84, .aload_n 0, 1) rfl
theorem dX12_book_85 : decode cX12_book 85 = .ok (.sipush 10000, 3) := dr9 dk9_dX12_book_0_0.2.2.1 3 (85, .sipush 10000, 3) rfl
theorem dX12_book_88 : decode cX12_book 88 = .ok (.aload_n 0, 1) := dr9 dk9_dX12_book_0_0.2.2.1 4 (88, .aload_n 0, 1) rfl
theorem dX12_book_89 : decode cX12_book 89 = .ok (.getfield 289, 3) := dr9 dk9_dX12_book_0_0.2.2.1 5 (89, .getfield 289, 3) rfl
theorem dX12_book_92 : decode cX12_book 92 = .ok (.imul, 1) := dr9 dk9_dX12_book_0_0.2.2.1 6 (92, .imul, 1) rfl
theorem dX12_book_93 : decode cX12_book 93 = .ok (.putfield 295, 3) := dr9 dk9_dX12_book_0_0.2.2.1 7 (93, .putfield 295, 3) rfl
theorem dX12_book_96 : decode cX12_book 96 = .ok (.aload_n 0, 1) := dr9 dk9_dX12_book_0_0.2.2.1 8 (96, .aload_n 0, 1) rfl
theorem dX12_book_97 : decode cX12_book 97 = .ok (.getfield 267, 3) := dr9 dk9_dX12_book_0_0.2.2.1 9 (97, .getfield 267, 3) rfl
theorem dX12_book_100 : decode cX12_book 100 = .ok (.ifCond .ne 84, 3) := dr9 dk9_dX12_book_0_0.2.2.1 10 (100, .ifCond .ne 84, 3) rfl
theorem dX12_book_184 : decode cX12_book 184 = .ok (.aload_n 0, 1) := dr9 dk9_dX12_book_0_0.2.2.1 11 (184, .aload_n 0, 1) rfl
theorem dX12_book_185 : decode cX12_book 185 = .ok (.getfield 267, 3) := dr9 dk9_dX12_book_0_0.2.2.1 12 (185, .getfield 267, 3) rfl
theorem dX12_book_188 : decode cX12_book 188 = .ok (.ifCond .ne 15, 3) := dr9 dk9_dX12_book_0_0.2.2.1 13 (188, .ifCond .ne 15, 3) rfl
theorem dX12_book_203 : decode cX12_book 203 = .ok (.aload_n 0, 1) := dr9 dk9_dX12_book_0_0.2.2.1 14 (203, .aload_n 0, 1) rfl
theorem dX12_book_204 : decode cX12_book 204 = .ok (.getfield 267, 3) := dr9 dk9_dX12_book_0_0.2.2.1 15 (204, .getfield 267, 3) rfl
theorem dX12_book_207 : decode cX12_book 207 = .ok (.ireturn, 1) := dr9 dk9_dX12_book_0_0.2.2.1 16 (207, .ireturn, 1) rfl
theorem dX12_book_103 : decode cX12_book 103 = .ok (.aload_n 0, 1) := dr9 dk9_dX12_book_0_0.2.2.1 17 (103, .aload_n 0, 1) rfl
theorem dX12_book_104 : decode cX12_book 104 = .ok (.getfield 24, 3) := dr9 dk9_dX12_book_0_0.2.2.1 18 (104, .getfield 24, 3) rfl
theorem dX12_book_107 : decode cX12_book 107 = .ok (.aload_n 0, 1) := dr9 dk9_dX12_book_0_0.2.2.1 19 (107, .aload_n 0, 1) rfl
theorem dX12_book_108 : decode cX12_book 108 = .ok (.getfield 264, 3) := dr9 dk9_dX12_book_0_0.2.2.1 20 (108, .getfield 264, 3) rfl
theorem dX12_book_111 : decode cX12_book 111 = .ok (.iaload, 1) := dr9 dk9_dX12_book_0_0.2.2.1 21 (111, .iaload, 1) rfl
theorem dX12_book_112 : decode cX12_book 112 = .ok (.ifCond .eq 72, 3) := dr9 dk9_dX12_book_0_0.2.2.1 22 (112, .ifCond .eq 72, 3) rfl
theorem dX12_book_191 : decode cX12_book 191 = .ok (.aload_n 0, 1) := dr9 dk9_dX12_book_0_0.2.2.1 23 (191, .aload_n 0, 1) rfl
theorem dX12_book_192 : decode cX12_book 192 = .ok (.aload_n 0, 1) := dr9 dk9_dX12_book_0_0.2.2.2.1 0 (192, .aload_n 0, 1) rfl
theorem dX12_book_193 : decode cX12_book 193 = .ok (.getfield 289, 3) := dr9 dk9_dX12_book_0_0.2.2.2.1 1 (193, .getfield 289, 3) rfl
theorem dX12_book_196 : decode cX12_book 196 = .ok (.putfield 286, 3) := dr9 dk9_dX12_book_0_0.2.2.2.1 2 (196, .putfield 286, 3) rfl
theorem dX12_book_199 : decode cX12_book 199 = .ok (.aload_n 0, 1) := dr9 dk9_dX12_book_0_0.2.2.2.1 3 (199, .aload_n 0, 1) rfl
theorem dX12_book_200 : decode cX12_book 200 = .ok (.invokevirtual 310, 3) := dr9 dk9_dX12_book_0_0.2.2.2.1 4 (200, .invokevirtual 310, 3) rfl
theorem dX12_book_115 : decode cX12_book 115 = .ok (.aload_n 0, 1) := dr9 dk9_dX12_book_0_0.2.2.2.1 5 (115, .aload_n 0, 1) rfl
theorem dX12_book_116 : decode cX12_book 116 = .ok (.iconst 0, 1) := dr9 dk9_dX12_book_0_0.2.2.2.1 6 (116, .iconst 0, 1) rfl
theorem dX12_book_117 : decode cX12_book 117 = .ok (.invokevirtual 277, 3) := dr9 dk9_dX12_book_0_0.2.2.2.1 7 (117, .invokevirtual 277, 3) rfl
theorem dX12_book_120 : decode cX12_book 120 = .ok (.ifCond .eq 10, 3) := dr9 dk9_dX12_book_0_0.2.2.2.1 8 (120, .ifCond .eq 10, 3) rfl
theorem dX12_book_130 : decode cX12_book 130 = .ok (.aload_n 0, 1) := dr9 dk9_dX12_book_0_0.2.2.2.1 9 (130, .aload_n 0, 1) rfl
theorem dX12_book_131 : decode cX12_book 131 = .ok (.iconst 2, 1) := dr9 dk9_dX12_book_0_0.2.2.2.1 10 (131, .iconst 2, 1) rfl
theorem dX12_book_132 : decode cX12_book 132 = .ok (.invokevirtual 277, 3) := dr9 dk9_dX12_book_0_0.2.2.2.1 11 (132, .invokevirtual 277, 3) rfl
theorem dX12_book_135 : decode cX12_book 135 = .ok (.ifCond .eq 10, 3) := dr9 dk9_dX12_book_0_0.2.2.2.1 12 (135, .ifCond .eq 10, 3) rfl
theorem dX12_book_145 : decode cX12_book 145 = .ok (.aload_n 0, 1) := dr9 dk9_dX12_book_0_0.2.2.2.1 13 (145, .aload_n 0, 1) rfl
theorem dX12_book_146 : decode cX12_book 146 = .ok (.iconst 3, 1) := dr9 dk9_dX12_book_0_0.2.2.2.1 14 (146, .iconst 3, 1) rfl
theorem dX12_book_147 : decode cX12_book 147 = .ok (.invokevirtual 277, 3) := dr9 dk9_dX12_book_0_0.2.2.2.1 15 (147, .invokevirtual 277, 3) rfl
theorem dX12_book_150 : decode cX12_book 150 = .ok (.ifCond .eq 10, 3) := dr9 dk9_dX12_book_0_0.2.2.2.1 16 (150, .ifCond .eq 10, 3) rfl
theorem dX12_book_160 : decode cX12_book 160 = .ok (.aload_n 0, 1) := dr9 dk9_dX12_book_0_0.2.2.2.1 17 (160, .aload_n 0, 1) rfl
theorem dX12_book_161 : decode cX12_book 161 = .ok (.bipush 8, 2) := dr9 dk9_dX12_book_0_0.2.2.2.1 18 (161, .bipush 8, 2) rfl
theorem dX12_book_163 : decode cX12_book 163 = .ok (.invokevirtual 277, 3) := dr9 dk9_dX12_book_0_0.2.2.2.1 19 (163, .invokevirtual 277, 3) rfl
theorem dX12_book_166 : decode cX12_book 166 = .ok (.ifCond .eq 10, 3) := dr9 dk9_dX12_book_0_0.2.2.2.1 20 (166, .ifCond .eq 10, 3) rfl
theorem dX12_book_176 : decode cX12_book 176 = .ok (.aload_n 0, 1) := dr9 dk9_dX12_book_0_0.2.2.2.1 21 (176, .aload_n 0, 1) rfl
theorem dX12_book_177 : decode cX12_book 177 = .ok (.iconst 1, 1) := dr9 dk9_dX12_book_0_0.2.2.2.1 22 (177, .iconst 1, 1) rfl
theorem dX12_book_178 : decode cX12_book 178 = .ok (.invokevirtual 273, 3) := dr9 dk9_dX12_book_0_0.2.2.2.1 23 (178, .invokevirtual 273, 3) rfl
theorem dX12_book_181 : decode cX12_book 181 = .ok (.goto (-85), 3) := dr9 dk9_dX12_book_0_0.2.2.2.2 0 (181, .goto (-85), 3) rfl
theorem dX12_book_169 : decode cX12_book 169 = .ok (.aload_n 0, 1) := dr9 dk9_dX12_book_0_0.2.2.2.2 1 (169, .aload_n 0, 1) rfl
theorem dX12_book_170 : decode cX12_book 170 = .ok (.invokevirtual 307, 3) := dr9 dk9_dX12_book_0_0.2.2.2.2 2 (170, .invokevirtual 307, 3) rfl
theorem dX12_book_173 : decode cX12_book 173 = .ok (.goto (-77), 3) := dr9 dk9_dX12_book_0_0.2.2.2.2 3 (173, .goto (-77), 3) rfl
theorem dX12_book_153 : decode cX12_book 153 = .ok (.aload_n 0, 1) := dr9 dk9_dX12_book_0_0.2.2.2.2 4 (153, .aload_n 0, 1) rfl
theorem dX12_book_154 : decode cX12_book 154 = .ok (.invokevirtual 304, 3) := dr9 dk9_dX12_book_0_0.2.2.2.2 5 (154, .invokevirtual 304, 3) rfl
theorem dX12_book_157 : decode cX12_book 157 = .ok (.goto (-61), 3) := dr9 dk9_dX12_book_0_0.2.2.2.2 6 (157, .goto (-61), 3) rfl
theorem dX12_book_138 : decode cX12_book 138 = .ok (.aload_n 0, 1) := dr9 dk9_dX12_book_0_0.2.2.2.2 7 (138, .aload_n 0, 1) rfl
theorem dX12_book_139 : decode cX12_book 139 = .ok (.invokevirtual 301, 3) := dr9 dk9_dX12_book_0_0.2.2.2.2 8 (139, .invokevirtual 301, 3) rfl
theorem dX12_book_142 : decode cX12_book 142 = .ok (.goto (-46), 3) := dr9 dk9_dX12_book_0_0.2.2.2.2 9 (142, .goto (-46), 3) rfl
theorem dX12_book_123 : decode cX12_book 123 = .ok (.aload_n 0, 1) := dr9 dk9_dX12_book_0_0.2.2.2.2 10 (123, .aload_n 0, 1) rfl
theorem dX12_book_124 : decode cX12_book 124 = .ok (.invokevirtual 298, 3) := dr9 dk9_dX12_book_0_0.2.2.2.2 11 (124, .invokevirtual 298, 3) rfl
theorem dX12_book_127 : decode cX12_book 127 = .ok (.goto (-31), 3) := dr9 dk9_dX12_book_0_0.2.2.2.2 12 (127, .goto (-31), 3) rfl
abbrev r_s_takeTypes4 : Room := { frames := 3, cells := 0, slots := 0, locals := 71 }
abbrev q_s_takeTypes4 (D : va_G) (ks : KS) (ad : Nat → Nat) (kk : Nat → ClassId) (V : Vf) (L : Lf) (p1 : Int32) (n : Nat) (A : Nat → Prop) : Array Value → State → Outcome → State → Prop := va_Qv (fun (u : Vf × Lf) => rgd bM u.1 ∧ agr [(0, 7), (0, 8)] [15, 53] V u.1 ∧ u.2 = L ∧ (Imp ((u.1 0 8).toInt = 0) (0 ≤ (u.1 0 7).toInt ∧ (u.1 0 7).toInt ≤ n ∧ (V 0 8).toInt = 0 ∧ (V 0 7).toInt ≤ (u.1 0 7).toInt))) (fun u t => gq D A (mw ad kk ks.1 u.1 u.2) (mty kk) t) A
set_option maxHeartbeats 4000000 in
set_option maxRecDepth 100000 in
theorem s_takeTypes4 (l : Launch) (D : va_G) (ks : KS) (sz : Nat) (ad : Nat → Nat) (kk : Nat → ClassId) (V : Vf) (L : Lf) (p1 : Int32) (n : Nat) (hMV : rgd bM V) (rg_p1 : 0 ≤ p1.toInt ∧ p1.toInt ≤ 47) (x1 : (V 4 n).toInt = 0) (x2 : n ≤ 4000) (x3 : Imp ((V 0 8).toInt = 0) (0 ≤ (V 0 7).toInt ∧ (V 0 7).toInt ≤ n))  : Met l yX12_takeTypes (Cond.code yX12_takeTypes cX12_takeTypes 7 none :: GW) r_s_takeTypes4 (va_Pc [.ref (ad 0), .ref (ad 15), .int p1] (gp D ks (mw ad kk ks.1 V L) (mty kk) sz)) (q_s_takeTypes4 D ks ad kk V L p1 n (va_A (mw ad kk ks.1 V L) sz)) 0 0 (va_A (mw ad kk ks.1 V L) sz) := by
  refine g_met (q_s_takeTypes4 D ks ad kk V L p1 n) (by decide) (Nat.le_of_ble_eq_true rfl) ?_
  intro p e s m below meth c A ls H locs hx hb hr hml hown hg hlocks hin hnw hgk hP hK hD hS hA hl
  replace hown : s.vm.findClass RX12 = some m.cls := hown
  replace hl : lv_has ls 7 [(0, .ref (ad 0)), (1, .ref (ad 15)), (2, .int p1)] := hl
  replace hP : va_P D vwCl (mw ad kk ks.1 V L) H := hP
  replace hD : va_D A (mw ad kk ks.1 V L) := hD
  replace hK : va_K D vwCl (mty kk) s := hK
  have agV : agr [(0, 7), (0, 8)] [15, 53] V V := agr.rf
  have r1 : 0 ≤ ((V 0 8)).toInt ∧ ((V 0 8)).toInt ≤ 70000 := hMV 0 8
  refine lv_iconst (v := 0) hx hb dX12_takeTypes_0 (by decide) ?_
  refine lv_istore_n (lv' := [(3, .int 0), (0, .ref (ad 0)), (1, .ref (ad 15)), (2, .int p1)]) hx hb dX12_takeTypes_1 rfl hl (by decide) rfl (fun ls hl => ?_)
  refine lv_iconst (v := 1) hx hb dX12_takeTypes_2 (by decide) ?_
  refine lv_istore (lv' := [(4, .int 1), (3, .int 0), (0, .ref (ad 0)), (1, .ref (ad 15)), (2, .int p1)]) hx hb dX12_takeTypes_3 hl (by decide) rfl (fun ls hl => ?_)
  have lp6 : ∀ (fulp6 : Nat) (g5 : Int) (y2 : Int32) (y3 : Int32) (V4 : Vf) (H : Heap) (locs : List Loc) (ls : Array Slot), 0 ≤ y2.toInt ∧ y2.toInt ≤ 1 → 0 ≤ y3.toInt ∧ y3.toInt ≤ 6 → 0 ≤ g5 → Imp ((V4 0 8).toInt = 0) (0 ≤ (V4 0 7).toInt ∧ (V4 0 7).toInt ≤ n ∧ (V 0 8).toInt = 0 ∧ (V 0 7).toInt ≤ (V4 0 7).toInt) → Imp ((V4 0 8).toInt = 0) (7 - y3.toInt < g5) → g5 < (fulp6 : Int) → agr [(0, 7), (0, 8)] [15, 53] V V4 → rgd bM V4 → va_P D vwCl (mw ad kk ks.1 V4 L) H → va_D A (mw ad kk ks.1 V4 L) → va_S A s.heap H locs → lv_has ls 7 [(4, .int y2), (3, .int y3), (0, .ref (ad 0)), (1, .ref (ad 15)), (2, .int p1)] → W p l e r_s_takeTypes4 s m ([.ref (ad 0), .ref (ad 15), .int p1] : List Value).toArray below meth c H locs 0 0 (MQ below (q_s_takeTypes4 D ks ad kk V L p1 n A) ([.ref (ad 0), .ref (ad 15), .int p1] : List Value).toArray s 0 0 A) (F0 m 5 ls []) := by
    intro fulp6
    induction fulp6 with
    | zero =>
      intro g5 y2 y3 V4 H locs ls klp6_0 klp6_1 xlp6_0 xlp6_1 xlp6_2 hn ajV4 hMV4 hP hD hS hl
      exfalso; (first | exact om_21e89d3d06d7 xlp6_0 hn | omega)
    | succ fulp6 ihlp6 =>
      intro g5 y2 y3 V4 H locs ls klp6_0 klp6_1 xlp6_0 xlp6_1 xlp6_2 hn ajV4 hMV4 hP hD hS hl
      have agV4 : agr [(0, 7), (0, 8)] [15, 53] V V4 := agV.tr ajV4 (by decide) (by decide)
      have r7 : 0 ≤ ((V4 0 8)).toInt ∧ ((V4 0 8)).toInt ≤ 70000 := hMV4 0 8
      refine lv_iload hx hb dX12_takeTypes_5 (lv_at hl 0 rfl) ?_
      refine lv_if_eq (tgt := 195) hx hb dX12_takeTypes_7 (by decide) (fun c8 => ?_) (fun c8 => ?_)
      · skip
        have f9 : y2.toInt = 0 := b_eq rfl (by decide) c8
        exact W.vret hx hb hr (fun t ht hW => ⟨⟨(V4, L), rfl, ⟨hMV4, agV4, rfl, (Imp.mk (fun hp => have hp : (V4 0 8).toInt = 0 := hp; (show 0 ≤ (V4 0 7).toInt ∧ (V4 0 7).toInt ≤ n ∧ (V 0 8).toInt = 0 ∧ (V 0 7).toInt ≤ (V4 0 7).toInt from by first | exact om_160153a75889 r1.1 ((Imp.go xlp6_1 (hp)).1) ((Imp.go xlp6_1 (hp)).2.1) ((Imp.go xlp6_1 (hp)).2.2.1) ((Imp.go xlp6_1 (hp)).2.2.2) | first | omega | ((try (have i_xlp6_2 := Imp.go xlp6_2 (by omega))); (try (have i_xlp6_1 := Imp.go xlp6_1 (by omega))); (try (have i_x3 := Imp.go x3 (by omega))); (try (have i_x3 := Imp.go x3 (by omega))); (try (have i_xlp6_1 := Imp.go xlp6_1 (by omega))); (try (have i_xlp6_2 := Imp.go xlp6_2 (by omega))); omega))))⟩, by rw [ht]; exact hP, va_K.moved hW.alike hK, hD⟩, hS.F ht⟩) hS.2.2 dX12_takeTypes_195
      · skip
        have f10 : y2.toInt ≠ 0 := b_neq rfl (by decide) c8
        refine lv_aload_n hx hb dX12_takeTypes_10 rfl (lv_at hl 2 rfl) ?_
        refine va_get (D := D) (ci := 12) (v := .int (V4 0 8)) (C := RX12) (T := TX12) (N := 100) hx hb hg inX12 hown hK hP 0 rfl rfl 8 (by decide) (hg _ w1714) (fun _ h9 => h9) rfl dX12_takeTypes_11 ?_
        refine lv_if_ne (tgt := 195) hx hb dX12_takeTypes_14 (by decide) (fun c11 => ?_) (fun c11 => ?_)
        · skip
          have f12 : ((V4 0 8)).toInt ≠ 0 := b_neq rfl (by decide) c11
          exact W.vret hx hb hr (fun t ht hW => ⟨⟨(V4, L), rfl, ⟨hMV4, agV4, rfl, (Imp.mk (fun hp => have hp : (V4 0 8).toInt = 0 := hp; (show 0 ≤ (V4 0 7).toInt ∧ (V4 0 7).toInt ≤ n ∧ (V 0 8).toInt = 0 ∧ (V 0 7).toInt ≤ (V4 0 7).toInt from by first | omega | ((try (have i_xlp6_2 := Imp.go xlp6_2 (by omega))); (try (have i_xlp6_1 := Imp.go xlp6_1 (by omega))); (try (have i_x3 := Imp.go x3 (by omega))); (try (have i_x3 := Imp.go x3 (by omega))); (try (have i_xlp6_1 := Imp.go xlp6_1 (by omega))); (try (have i_xlp6_2 := Imp.go xlp6_2 (by omega))); omega))))⟩, by rw [ht]; exact hP, va_K.moved hW.alike hK, hD⟩, hS.F ht⟩) hS.2.2 dX12_takeTypes_195
        · skip
          have f13 : ((V4 0 8)).toInt = 0 := b_eq rfl (by decide) c11
          refine lv_aload_n hx hb dX12_takeTypes_17 rfl (lv_at hl 2 rfl) ?_
          have pq14 : (V4 4 n).toInt = ((V 4 n)).toInt := congrArg Int32.toInt (ajV4 4 n rfl)
          refine gA_int (gA_runV (As := []) (rest := []) (ci := 12) (q0 := 0) hx hb hml hown hg hP hD hK hS hA hnw hgk (s_takeType l D ks H.size ad kk V4 L (n) hMV4 (show (V4 4 (n)).toInt = 0 from by first | exact om_36161e850215 x1 pq14 | first | omega | ((try (have i_xlp6_2 := Imp.go xlp6_2 (by omega))); (try (have i_xlp6_1 := Imp.go xlp6_1 (by omega))); (try (have i_x3 := Imp.go x3 (by omega))); (try (have i_x3 := Imp.go x3 (by omega))); (try (have i_xlp6_1 := Imp.go xlp6_1 (by omega))); (try (have i_xlp6_2 := Imp.go xlp6_2 (by omega))); omega)) (show (n) ≤ 4000 from by first | exact om_af64e361c991 x2 | first | omega | ((try (have i_xlp6_2 := Imp.go xlp6_2 (by omega))); (try (have i_xlp6_1 := Imp.go xlp6_1 (by omega))); (try (have i_x3 := Imp.go x3 (by omega))); (try (have i_x3 := Imp.go x3 (by omega))); (try (have i_xlp6_1 := Imp.go xlp6_1 (by omega))); (try (have i_xlp6_2 := Imp.go xlp6_2 (by omega))); omega)) (Imp.mk (fun hp => have hp : (V4 0 8).toInt = 0 := hp; (show 0 ≤ (V4 0 7).toInt ∧ (V4 0 7).toInt ≤ (n) from by first | exact om_408b46baf51e ((Imp.go xlp6_1 (hp)).1) ((Imp.go xlp6_1 (hp)).2.1) | first | omega | ((try (have i_xlp6_2 := Imp.go xlp6_2 (by omega))); (try (have i_xlp6_1 := Imp.go xlp6_1 (by omega))); (try (have i_x3 := Imp.go x3 (by omega))); (try (have i_x3 := Imp.go x3 (by omega))); (try (have i_xlp6_1 := Imp.go xlp6_1 (by omega))); (try (have i_xlp6_2 := Imp.go xlp6_2 (by omega))); omega))))) w2059 w2061 w92 w172 w2062 rfl rfl hdV_yX12_takeType ⟨Nat.le_of_ble_eq_true rfl, Nat.le_of_ble_eq_true rfl⟩ rfl hl.1 rfl (Nat.le_of_ble_eq_true rfl) dX12_takeTypes_18 ⟨Nat.le_of_ble_eq_true rfl, Nat.le_of_ble_eq_true rfl⟩) hP hD hK hS hA (fun z15 u16 H locs w17 hP hD hK hS => ?_)
          obtain ⟨V21, L22⟩ := u16
          obtain ⟨hMV21, ajV21, axL22, rgz15, t18, t19, t20⟩ := w17
          have axL22 : L = L22 := Eq.symm axL22
          subst axL22
          replace hP : va_P D vwCl (mw ad kk ks.1 V21 L) H := hP
          replace hD : va_D A (mw ad kk ks.1 V21 L) := hD
          replace hMV21 : rgd bM V21 := hMV21
          replace ajV21 : agr [(0, 7), (0, 8)] [] V4 V21 := ajV21
          have agV21 : agr [(0, 7), (0, 8)] [15, 53] V V21 := agV4.tr ajV21 (by decide) (by decide)
          replace rgz15 : (-1) ≤ z15.toInt ∧ z15.toInt ≤ 23 := rgz15
          replace t18 : Imp ((V21 0 8).toInt = 0) (0 ≤ (V21 0 7).toInt ∧ (V21 0 7).toInt ≤ (n) ∧ (V4 0 8).toInt = 0 ∧ (V4 0 7).toInt ≤ (V21 0 7).toInt) := t18
          replace t19 : Imp ((V21 0 8).toInt = 0) (0 ≤ z15.toInt) := t19
          replace t20 : Imp ((V21 0 8).toInt = 0) ((V4 0 7).toInt + 1 ≤ (V21 0 7).toInt) := t20
          have r23 : 0 ≤ ((V21 0 8)).toInt ∧ ((V21 0 8)).toInt ≤ 70000 := hMV21 0 8
          refine lv_istore (lv' := [(5, .int z15), (4, .int y2), (3, .int y3), (0, .ref (ad 0)), (1, .ref (ad 15)), (2, .int p1)]) hx hb dX12_takeTypes_21 hl (by decide) rfl (fun ls hl => ?_)
          refine lv_aload_n hx hb dX12_takeTypes_23 rfl (lv_at hl 3 rfl) ?_
          refine lv_dup hx hb dX12_takeTypes_24 rfl ?_
          refine va_get (D := D) (ci := 12) (v := .int (V21 0 7)) (C := RX12) (T := TX12) (N := 100) hx hb hg inX12 hown hK hP 0 rfl rfl 7 (by decide) (hg _ w1713) (fun _ h9 => h9) rfl dX12_takeTypes_25 ?_
          refine lv_iconst (v := 1) hx hb dX12_takeTypes_28 (by decide) ?_
          refine lv_isub hx hb dX12_takeTypes_29 ?_
          have r24 := i_full (V21 0 7)
          refine lv_topi (fun z25 ez25 => ?_)
          have hz25 : Imp (-2147483648 ≤ ((V21 0 7)).toInt - 1 ∧ ((V21 0 7)).toInt - 1 ≤ 2147483647) (z25.toInt = ((V21 0 7)).toInt - 1) := Imp.mk (fun hp => i_sub ez25 rfl (by decide) hp)
          refine va_put (D := D) (ci := 12) (v := .int z25) (ty := tyX12 7) (C := RX12) (T := TX12) (N := 100) hx hb hg inX12 tyX12 tyX12_ok nmX12 hown hK hP hD hS 0 rfl rfl 7 (by decide) (hg _ w1713) (fun _ h9 => h9) rfl (tyX12_ok 7 (by decide)) rfl rfl (Nat.le_of_ble_eq_true rfl) dX12_takeTypes_30 (fun H locs hP hD hS => ?_)
          obtain ⟨V26, hV26⟩ : ∃ z, z = up2 V21 0 7 z25 := ⟨_, rfl⟩
          have hP : va_P D vwCl (mw ad kk ks.1 V26 L) H := by rw [hV26]; exact hP
          have hD : va_D A (mw ad kk ks.1 V26 L) := by rw [hV26]; exact hD
          have hMV26 : rgd bM V26 := hMV21.put hV26 (i_full _)
          have agV26 : agr [(0, 7), (0, 8)] [15, 53] V V26 := agV21.up hV26 rfl
          refine lv_iconst (v := 0) hx hb dX12_takeTypes_33 (by decide) ?_
          refine lv_istore (lv' := [(6, .int 0), (5, .int z15), (4, .int y2), (3, .int y3), (0, .ref (ad 0)), (1, .ref (ad 15)), (2, .int p1)]) hx hb dX12_takeTypes_34 hl (by decide) rfl (fun ls hl => ?_)
          have lp29 : ∀ (fulp29 : Nat) (y27 : Int32) (V28 : Vf) (H : Heap) (locs : List Loc) (ls : Array Slot), 0 ≤ y27.toInt ∧ y27.toInt ≤ 6 → y27.toInt ≤ y3.toInt → Imp ((V28 0 8).toInt = 0) (0 ≤ z15.toInt ∧ 0 ≤ (V28 0 7).toInt ∧ (V28 0 7).toInt < n ∧ (V 0 8).toInt = 0 ∧ (V 0 7).toInt ≤ (V28 0 7).toInt) → y3.toInt - y27.toInt < (fulp29 : Int) → agr [(0, 8)] [] V26 V28 → rgd bM V28 → va_P D vwCl (mw ad kk ks.1 V28 L) H → va_D A (mw ad kk ks.1 V28 L) → va_S A s.heap H locs → lv_has ls 7 [(6, .int y27), (5, .int z15), (4, .int y2), (3, .int y3), (0, .ref (ad 0)), (1, .ref (ad 15)), (2, .int p1)] → W p l e r_s_takeTypes4 s m ([.ref (ad 0), .ref (ad 15), .int p1] : List Value).toArray below meth c H locs 0 0 (MQ below (q_s_takeTypes4 D ks ad kk V L p1 n A) ([.ref (ad 0), .ref (ad 15), .int p1] : List Value).toArray s 0 0 A) (F0 m 36 ls []) := by
            intro fulp29
            induction fulp29 with
            | zero =>
              intro y27 V28 H locs ls klp29_0 xlp29_0 xlp29_1 hn ajV28 hMV28 hP hD hS hl
              exfalso; (first | exact om_4634b1278845 xlp29_0 hn | omega)
            | succ fulp29 ihlp29 =>
              intro y27 V28 H locs ls klp29_0 xlp29_0 xlp29_1 hn ajV28 hMV28 hP hD hS hl
              have agV28 : agr [(0, 7), (0, 8)] [15, 53] V V28 := agV26.tr ajV28 (by decide) (by decide)
              have pq30 : (V28 0 7).toInt = z25.toInt := congrArg Int32.toInt ((ajV28 0 7 rfl).trans (up2_s hV26))
              have r31 : 0 ≤ ((V28 0 8)).toInt ∧ ((V28 0 8)).toInt ≤ 70000 := hMV28 0 8
              refine lv_iload hx hb dX12_takeTypes_36 (lv_at hl 0 rfl) ?_
              refine lv_iload_n hx hb dX12_takeTypes_38 rfl (lv_at hl 3 rfl) ?_
              have J32 : ∀ (H : Heap) (locs : List Loc) (ls : Array Slot), va_P D vwCl (mw ad kk ks.1 V28 L) H → va_D A (mw ad kk ks.1 V28 L) → va_S A s.heap H locs → lv_has ls 7 [(6, .int y27), (5, .int z15), (4, .int y2), (3, .int y3), (0, .ref (ad 0)), (1, .ref (ad 15)), (2, .int p1)] → W p l e r_s_takeTypes4 s m ([.ref (ad 0), .ref (ad 15), .int p1] : List Value).toArray below meth c H locs 0 0 (MQ below (q_s_takeTypes4 D ks ad kk V L p1 n A) ([.ref (ad 0), .ref (ad 15), .int p1] : List Value).toArray s 0 0 A) (F0 m 72 ls []) := by
                intro H locs ls  hP hD hS hl
                refine lv_aload_n hx hb dX12_takeTypes_72 rfl (lv_at hl 4 rfl) ?_
                refine va_get (D := D) (ci := 12) (v := .int (V28 0 8)) (C := RX12) (T := TX12) (N := 100) hx hb hg inX12 hown hK hP 0 rfl rfl 8 (by decide) (hg _ w1714) (fun _ h9 => h9) rfl dX12_takeTypes_73 ?_
                have J33 : ∀ (V34 : Vf) (H : Heap) (locs : List Loc) (ls : Array Slot), agr [(0, 8)] [] V28 V34 → rgd bM V34 → Imp ((V34 0 8).toInt = 0) (y3.toInt ≤ 5) → Imp ((V34 0 8).toInt = 0) (0 ≤ z15.toInt ∧ 0 ≤ (V34 0 7).toInt ∧ (V34 0 7).toInt < n ∧ (V 0 8).toInt = 0 ∧ (V 0 7).toInt ≤ (V34 0 7).toInt) → va_P D vwCl (mw ad kk ks.1 V34 L) H → va_D A (mw ad kk ks.1 V34 L) → va_S A s.heap H locs → lv_has ls 7 [(6, .int y27), (5, .int z15), (4, .int y2), (3, .int y3), (0, .ref (ad 0)), (1, .ref (ad 15)), (2, .int p1)] → W p l e r_s_takeTypes4 s m ([.ref (ad 0), .ref (ad 15), .int p1] : List Value).toArray below meth c H locs 0 0 (MQ below (q_s_takeTypes4 D ks ad kk V L p1 n A) ([.ref (ad 0), .ref (ad 15), .int p1] : List Value).toArray s 0 0 A) (F0 m 90 ls []) := by
                  intro V34 H locs ls ajV34 hMV34 xJ33_0 xJ33_1 hP hD hS hl
                  have agV34 : agr [(0, 7), (0, 8)] [15, 53] V V34 := agV28.tr ajV34 (by decide) (by decide)
                  have r35 : 0 ≤ ((V34 0 8)).toInt ∧ ((V34 0 8)).toInt ≤ 70000 := hMV34 0 8
                  have pq36 : (V34 0 7).toInt = z25.toInt := congrArg Int32.toInt ((ajV34 0 7 rfl).trans ((ajV28 0 7 rfl).trans (up2_s hV26)))
                  refine lv_aload_n hx hb dX12_takeTypes_90 rfl (lv_at hl 4 rfl) ?_
                  refine lv_dup hx hb dX12_takeTypes_91 rfl ?_
                  refine va_get (D := D) (ci := 12) (v := .int (V34 0 7)) (C := RX12) (T := TX12) (N := 100) hx hb hg inX12 hown hK hP 0 rfl rfl 7 (by decide) (hg _ w1713) (fun _ h9 => h9) rfl dX12_takeTypes_92 ?_
                  refine g_top (v := z25) ((ajV34 0 7 rfl).trans ((ajV28 0 7 rfl).trans (up2_s hV26))) ?_
                  refine lv_iconst (v := 1) hx hb dX12_takeTypes_95 (by decide) ?_
                  refine lv_iadd hx hb dX12_takeTypes_96 ?_
                  have r37 := i_full z25
                  refine lv_topi (fun z38 ez38 => ?_)
                  have hz38 : Imp (-2147483648 ≤ z25.toInt + 1 ∧ z25.toInt + 1 ≤ 2147483647) (z38.toInt = z25.toInt + 1) := Imp.mk (fun hp => i_add ez38 rfl (by decide) hp)
                  refine va_put (D := D) (ci := 12) (v := .int z38) (ty := tyX12 7) (C := RX12) (T := TX12) (N := 100) hx hb hg inX12 tyX12 tyX12_ok nmX12 hown hK hP hD hS 0 rfl rfl 7 (by decide) (hg _ w1713) (fun _ h9 => h9) rfl (tyX12_ok 7 (by decide)) rfl rfl (Nat.le_of_ble_eq_true rfl) dX12_takeTypes_97 (fun H locs hP hD hS => ?_)
                  obtain ⟨V39, hV39⟩ : ∃ z, z = up2 V34 0 7 z38 := ⟨_, rfl⟩
                  have hP : va_P D vwCl (mw ad kk ks.1 V39 L) H := by rw [hV39]; exact hP
                  have hD : va_D A (mw ad kk ks.1 V39 L) := by rw [hV39]; exact hD
                  have hMV39 : rgd bM V39 := hMV34.put hV39 (i_full _)
                  have agV39 : agr [(0, 7), (0, 8)] [15, 53] V V39 := agV34.up hV39 rfl
                  refine lv_aload_n hx hb dX12_takeTypes_100 rfl (lv_at hl 4 rfl) ?_
                  refine va_get (D := D) (ci := 12) (v := .int (V39 0 8)) (C := RX12) (T := TX12) (N := 100) hx hb hg inX12 hown hK hP 0 rfl rfl 8 (by decide) (hg _ w1714) (fun _ h9 => h9) rfl dX12_takeTypes_101 ?_
                  refine g_top (v := (V34 0 8)) (up2_k hV39 (by decide)) ?_
                  have J40 : ∀ (y41 : Int32) (y42 : Int32) (V43 : Vf) (H : Heap) (locs : List Loc) (ls : Array Slot), 0 ≤ y41.toInt ∧ y41.toInt ≤ 24 → 0 ≤ y42.toInt ∧ y42.toInt ≤ 7 → agr [] [15, 53] V39 V43 → rgd bM V43 → y42.toInt ≤ 6 → Imp ((V43 0 8).toInt = 0) (0 ≤ (V43 0 7).toInt ∧ (V43 0 7).toInt ≤ n ∧ (V 0 8).toInt = 0 ∧ (V 0 7).toInt ≤ (V43 0 7).toInt) → Imp ((V43 0 8).toInt = 0) (7 - y42.toInt < g5 - 1) → va_P D vwCl (mw ad kk ks.1 V43 L) H → va_D A (mw ad kk ks.1 V43 L) → va_S A s.heap H locs → lv_has ls 7 [(6, .int y41), (3, .int y42), (5, .int z15), (4, .int y2), (0, .ref (ad 0)), (1, .ref (ad 15)), (2, .int p1)] → W p l e r_s_takeTypes4 s m ([.ref (ad 0), .ref (ad 15), .int p1] : List Value).toArray below meth c H locs 0 0 (MQ below (q_s_takeTypes4 D ks ad kk V L p1 n A) ([.ref (ad 0), .ref (ad 15), .int p1] : List Value).toArray s 0 0 A) (F0 m 184 ls []) := by
                    intro y41 y42 V43 H locs ls kJ40_0 kJ40_1 ajV43 hMV43 xJ40_0 xJ40_1 xJ40_2 hP hD hS hl
                    have agV43 : agr [(0, 7), (0, 8)] [15, 53] V V43 := agV39.tr ajV43 (by decide) (by decide)
                    have pq44 : (V43 0 7).toInt = z38.toInt := congrArg Int32.toInt ((ajV43 0 7 rfl).trans (up2_s hV39))
                    have pq45 : (V43 0 8).toInt = ((V34 0 8)).toInt := congrArg Int32.toInt ((ajV43 0 8 rfl).trans (up2_k hV39 (by decide)))
                    refine lv_aload_n hx hb dX12_takeTypes_184 rfl (lv_at hl 4 rfl) ?_
                    refine lv_bipush (v := 44) hx hb dX12_takeTypes_185 (by decide) ?_
                    have r46 : Int32.toInt 44 = 44 := by decide
                    have pq47 : (V43 4 n).toInt = ((V 4 n)).toInt := congrArg Int32.toInt ((ajV43 4 n rfl).trans ((up2_o hV39 (by decide)).trans ((ajV34 4 n rfl).trans ((ajV28 4 n rfl).trans ((up2_o hV26 (by decide)).trans ((ajV21 4 n rfl).trans (ajV4 4 n rfl)))))))
                    refine gA_int (gA_runV (As := [.int 44]) (rest := []) (ci := 12) (q0 := 0) hx hb hml hown hg hP hD hK hS hA hnw hgk (s_hasSign3 l D ks H.size ad kk V43 L 44 (n) hMV43 (show (V43 4 (n)).toInt = 0 from by first | exact om_36161e850215 x1 pq47 | first | omega | ((try (have i_xlp6_2 := Imp.go xlp6_2 (f13))); (try (have i_xlp6_1 := Imp.go xlp6_1 (f13))); (try (have i_x3 := Imp.go x3 (i_xlp6_1.2.2.1))); omega) | ((try (have i_xJ40_2 := Imp.go xJ40_2 (by omega))); (try (have i_xJ40_1 := Imp.go xJ40_1 (by omega))); (try (have i_hz38 := Imp.go hz38 (by omega))); (try (have i_xJ33_1 := Imp.go xJ33_1 (by omega))); first | omega | ((try (have i_xJ33_0 := Imp.go xJ33_0 (by omega))); (try (have i_xlp29_1 := Imp.go xlp29_1 (by omega))); (try (have i_hz25 := Imp.go hz25 (by omega))); (try (have i_t20 := Imp.go t20 (by omega))); first | omega | ((try (have i_t19 := Imp.go t19 (by omega))); (try (have i_t18 := Imp.go t18 (by omega))); (try (have i_xlp6_2 := Imp.go xlp6_2 (by omega))); (try (have i_xlp6_1 := Imp.go xlp6_1 (by omega))); (try (have i_x3 := Imp.go x3 (by omega))); (try (have i_x3 := Imp.go x3 (by omega))); (try (have i_xlp6_1 := Imp.go xlp6_1 (by omega))); (try (have i_xlp6_2 := Imp.go xlp6_2 (by omega))); first | omega | ((try (have i_t18 := Imp.go t18 (by omega))); (try (have i_t19 := Imp.go t19 (by omega))); (try (have i_t20 := Imp.go t20 (by omega))); (try (have i_hz25 := Imp.go hz25 (by omega))); first | omega | ((try (have i_xlp29_1 := Imp.go xlp29_1 (by omega))); (try (have i_xJ33_0 := Imp.go xJ33_0 (by omega))); (try (have i_xJ33_1 := Imp.go xJ33_1 (by omega))); (try (have i_hz38 := Imp.go hz38 (by omega))); (try (have i_xJ40_1 := Imp.go xJ40_1 (by omega))); (try (have i_xJ40_2 := Imp.go xJ40_2 (by omega))); omega)))))) (show (n) ≤ 4000 from by first | exact om_af64e361c991 x2 | first | omega | ((try (have i_xlp6_2 := Imp.go xlp6_2 (f13))); (try (have i_xlp6_1 := Imp.go xlp6_1 (f13))); (try (have i_x3 := Imp.go x3 (i_xlp6_1.2.2.1))); omega) | ((try (have i_xJ40_2 := Imp.go xJ40_2 (by omega))); (try (have i_xJ40_1 := Imp.go xJ40_1 (by omega))); (try (have i_hz38 := Imp.go hz38 (by omega))); (try (have i_xJ33_1 := Imp.go xJ33_1 (by omega))); first | omega | ((try (have i_xJ33_0 := Imp.go xJ33_0 (by omega))); (try (have i_xlp29_1 := Imp.go xlp29_1 (by omega))); (try (have i_hz25 := Imp.go hz25 (by omega))); (try (have i_t20 := Imp.go t20 (by omega))); first | omega | ((try (have i_t19 := Imp.go t19 (by omega))); (try (have i_t18 := Imp.go t18 (by omega))); (try (have i_xlp6_2 := Imp.go xlp6_2 (by omega))); (try (have i_xlp6_1 := Imp.go xlp6_1 (by omega))); (try (have i_x3 := Imp.go x3 (by omega))); (try (have i_x3 := Imp.go x3 (by omega))); (try (have i_xlp6_1 := Imp.go xlp6_1 (by omega))); (try (have i_xlp6_2 := Imp.go xlp6_2 (by omega))); first | omega | ((try (have i_t18 := Imp.go t18 (by omega))); (try (have i_t19 := Imp.go t19 (by omega))); (try (have i_t20 := Imp.go t20 (by omega))); (try (have i_hz25 := Imp.go hz25 (by omega))); first | omega | ((try (have i_xlp29_1 := Imp.go xlp29_1 (by omega))); (try (have i_xJ33_0 := Imp.go xJ33_0 (by omega))); (try (have i_xJ33_1 := Imp.go xJ33_1 (by omega))); (try (have i_hz38 := Imp.go hz38 (by omega))); (try (have i_xJ40_1 := Imp.go xJ40_1 (by omega))); (try (have i_xJ40_2 := Imp.go xJ40_2 (by omega))); omega)))))) (Imp.mk (fun hp => have hp : (V43 0 8).toInt = 0 := hp; (show 0 ≤ (V43 0 7).toInt ∧ (V43 0 7).toInt ≤ (n) from by first | exact om_408b46baf51e ((Imp.go xJ40_1 (hp)).1) ((Imp.go xJ40_1 (hp)).2.1) | first | omega | ((try (have i_xJ40_2 := Imp.go xJ40_2 (hp))); (try (have i_xJ40_1 := Imp.go xJ40_1 (hp))); (try (have i_xJ33_1 := Imp.go xJ33_1 ((pq45.symm).trans (hp)))); (try (have i_xJ33_0 := Imp.go xJ33_0 ((pq45.symm).trans (hp)))); (try (have i_xlp6_2 := Imp.go xlp6_2 (f13))); (try (have i_xlp6_1 := Imp.go xlp6_1 (f13))); (try (have i_x3 := Imp.go x3 (i_xlp6_1.2.2.1))); omega) | ((try (have i_xJ40_2 := Imp.go xJ40_2 (by omega))); (try (have i_xJ40_1 := Imp.go xJ40_1 (by omega))); (try (have i_hz38 := Imp.go hz38 (by omega))); (try (have i_xJ33_1 := Imp.go xJ33_1 (by omega))); first | omega | ((try (have i_xJ33_0 := Imp.go xJ33_0 (by omega))); (try (have i_xlp29_1 := Imp.go xlp29_1 (by omega))); (try (have i_hz25 := Imp.go hz25 (by omega))); (try (have i_t20 := Imp.go t20 (by omega))); first | omega | ((try (have i_t19 := Imp.go t19 (by omega))); (try (have i_t18 := Imp.go t18 (by omega))); (try (have i_xlp6_2 := Imp.go xlp6_2 (by omega))); (try (have i_xlp6_1 := Imp.go xlp6_1 (by omega))); (try (have i_x3 := Imp.go x3 (by omega))); (try (have i_x3 := Imp.go x3 (by omega))); (try (have i_xlp6_1 := Imp.go xlp6_1 (by omega))); (try (have i_xlp6_2 := Imp.go xlp6_2 (by omega))); first | omega | ((try (have i_t18 := Imp.go t18 (by omega))); (try (have i_t19 := Imp.go t19 (by omega))); (try (have i_t20 := Imp.go t20 (by omega))); (try (have i_hz25 := Imp.go hz25 (by omega))); first | omega | ((try (have i_xlp29_1 := Imp.go xlp29_1 (by omega))); (try (have i_xJ33_0 := Imp.go xJ33_0 (by omega))); (try (have i_xJ33_1 := Imp.go xJ33_1 (by omega))); (try (have i_hz38 := Imp.go hz38 (by omega))); (try (have i_xJ40_1 := Imp.go xJ40_1 (by omega))); (try (have i_xJ40_2 := Imp.go xJ40_2 (by omega))); omega))))))))) w2067 w2069 w94 w172 w2070 rfl rfl hdV_yX12_hasSign ⟨Nat.le_of_ble_eq_true rfl, Nat.le_of_ble_eq_true rfl⟩ rfl hl.1 rfl (Nat.le_of_ble_eq_true rfl) dX12_takeTypes_187 ⟨Nat.le_of_ble_eq_true rfl, Nat.le_of_ble_eq_true rfl⟩) hP hD hK hS hA (fun z48 u49 H locs w50 hP hD hK hS => ?_)
                    obtain ⟨V54, L55⟩ := u49
                    obtain ⟨hMV54, ajV54, axL55, rgz48, t51, t52, t53⟩ := w50
                    have axL55 : L = L55 := Eq.symm axL55
                    subst axL55
                    replace hP : va_P D vwCl (mw ad kk ks.1 V54 L) H := hP
                    replace hD : va_D A (mw ad kk ks.1 V54 L) := hD
                    replace hMV54 : rgd bM V54 := hMV54
                    replace ajV54 : agr [(0, 7)] [] V43 V54 := ajV54
                    have agV54 : agr [(0, 7), (0, 8)] [15, 53] V V54 := agV43.tr ajV54 (by decide) (by decide)
                    replace rgz48 : 0 ≤ z48.toInt ∧ z48.toInt ≤ 1 := rgz48
                    replace t51 : Imp ((V54 0 8).toInt = 0) (0 ≤ (V54 0 7).toInt ∧ (V54 0 7).toInt ≤ (n) ∧ (V43 0 8).toInt = 0 ∧ (V43 0 7).toInt ≤ (V54 0 7).toInt) := t51
                    replace t52 : Imp (z48.toInt = 1) ((V54 0 8).toInt = 0 ∧ (V43 0 7).toInt + 1 ≤ (V54 0 7).toInt) := t52
                    replace t53 : Imp (z48.toInt = 0) ((V54 0 7).toInt = (V43 0 7).toInt) := t53
                    have pq56 : (V54 0 8).toInt = ((V34 0 8)).toInt := congrArg Int32.toInt ((ajV54 0 8 rfl).trans ((ajV43 0 8 rfl).trans (up2_k hV39 (by decide))))
                    refine lv_istore (lv' := [(4, .int z48), (6, .int y41), (3, .int y42), (5, .int z15), (0, .ref (ad 0)), (1, .ref (ad 15)), (2, .int p1)]) hx hb dX12_takeTypes_190 hl (by decide) rfl (fun ls hl => ?_)
                    refine lv_goto (tgt := 5) hx hb dX12_takeTypes_192 (by decide) ?_
                    exact ihlp6 (g5 - 1) z48 y42 V54 H locs ls (by first | exact om_eb7af9d60398 rgz48.1 rgz48.2 | first | omega | ((try (have i_xlp6_2 := Imp.go xlp6_2 (f13))); (try (have i_xlp6_1 := Imp.go xlp6_1 (f13))); (try (have i_x3 := Imp.go x3 (i_xlp6_1.2.2.1))); omega) | ((try (have i_t53 := Imp.go t53 (by omega))); (try (have i_t52 := Imp.go t52 (by omega))); (try (have i_t51 := Imp.go t51 (by omega))); (try (have i_xJ40_2 := Imp.go xJ40_2 (by omega))); first | omega | ((try (have i_xJ40_1 := Imp.go xJ40_1 (by omega))); (try (have i_hz38 := Imp.go hz38 (by omega))); (try (have i_xJ33_1 := Imp.go xJ33_1 (by omega))); (try (have i_xJ33_0 := Imp.go xJ33_0 (by omega))); first | omega | ((try (have i_xlp29_1 := Imp.go xlp29_1 (by omega))); (try (have i_hz25 := Imp.go hz25 (by omega))); (try (have i_t20 := Imp.go t20 (by omega))); (try (have i_t19 := Imp.go t19 (by omega))); (try (have i_t18 := Imp.go t18 (by omega))); (try (have i_xlp6_2 := Imp.go xlp6_2 (by omega))); (try (have i_xlp6_1 := Imp.go xlp6_1 (by omega))); (try (have i_x3 := Imp.go x3 (by omega))); first | omega | ((try (have i_x3 := Imp.go x3 (by omega))); (try (have i_xlp6_1 := Imp.go xlp6_1 (by omega))); (try (have i_xlp6_2 := Imp.go xlp6_2 (by omega))); (try (have i_t18 := Imp.go t18 (by omega))); first | omega | ((try (have i_t19 := Imp.go t19 (by omega))); (try (have i_t20 := Imp.go t20 (by omega))); (try (have i_hz25 := Imp.go hz25 (by omega))); (try (have i_xlp29_1 := Imp.go xlp29_1 (by omega))); first | omega | ((try (have i_xJ33_0 := Imp.go xJ33_0 (by omega))); (try (have i_xJ33_1 := Imp.go xJ33_1 (by omega))); (try (have i_hz38 := Imp.go hz38 (by omega))); (try (have i_xJ40_1 := Imp.go xJ40_1 (by omega))); (try (have i_xJ40_2 := Imp.go xJ40_2 (by omega))); (try (have i_t51 := Imp.go t51 (by omega))); (try (have i_t52 := Imp.go t52 (by omega))); (try (have i_t53 := Imp.go t53 (by omega))); omega))))))) (by first | exact om_41b7f1b4c16f kJ40_1.1 xJ40_0 | first | omega | ((try (have i_xlp6_2 := Imp.go xlp6_2 (f13))); (try (have i_xlp6_1 := Imp.go xlp6_1 (f13))); (try (have i_x3 := Imp.go x3 (i_xlp6_1.2.2.1))); omega) | ((try (have i_t53 := Imp.go t53 (by omega))); (try (have i_t52 := Imp.go t52 (by omega))); (try (have i_t51 := Imp.go t51 (by omega))); (try (have i_xJ40_2 := Imp.go xJ40_2 (by omega))); first | omega | ((try (have i_xJ40_1 := Imp.go xJ40_1 (by omega))); (try (have i_hz38 := Imp.go hz38 (by omega))); (try (have i_xJ33_1 := Imp.go xJ33_1 (by omega))); (try (have i_xJ33_0 := Imp.go xJ33_0 (by omega))); first | omega | ((try (have i_xlp29_1 := Imp.go xlp29_1 (by omega))); (try (have i_hz25 := Imp.go hz25 (by omega))); (try (have i_t20 := Imp.go t20 (by omega))); (try (have i_t19 := Imp.go t19 (by omega))); (try (have i_t18 := Imp.go t18 (by omega))); (try (have i_xlp6_2 := Imp.go xlp6_2 (by omega))); (try (have i_xlp6_1 := Imp.go xlp6_1 (by omega))); (try (have i_x3 := Imp.go x3 (by omega))); first | omega | ((try (have i_x3 := Imp.go x3 (by omega))); (try (have i_xlp6_1 := Imp.go xlp6_1 (by omega))); (try (have i_xlp6_2 := Imp.go xlp6_2 (by omega))); (try (have i_t18 := Imp.go t18 (by omega))); first | omega | ((try (have i_t19 := Imp.go t19 (by omega))); (try (have i_t20 := Imp.go t20 (by omega))); (try (have i_hz25 := Imp.go hz25 (by omega))); (try (have i_xlp29_1 := Imp.go xlp29_1 (by omega))); first | omega | ((try (have i_xJ33_0 := Imp.go xJ33_0 (by omega))); (try (have i_xJ33_1 := Imp.go xJ33_1 (by omega))); (try (have i_hz38 := Imp.go hz38 (by omega))); (try (have i_xJ40_1 := Imp.go xJ40_1 (by omega))); (try (have i_xJ40_2 := Imp.go xJ40_2 (by omega))); (try (have i_t51 := Imp.go t51 (by omega))); (try (have i_t52 := Imp.go t52 (by omega))); (try (have i_t53 := Imp.go t53 (by omega))); omega))))))) (show 0 ≤ (g5 - 1) from by first | exact om_76a34b28fb8f klp6_1.2 ((Imp.go xlp6_2 (f13))) | first | omega | ((try (have i_xlp6_2 := Imp.go xlp6_2 (f13))); (try (have i_xlp6_1 := Imp.go xlp6_1 (f13))); (try (have i_x3 := Imp.go x3 (i_xlp6_1.2.2.1))); omega) | ((try (have i_t53 := Imp.go t53 (by omega))); (try (have i_t52 := Imp.go t52 (by omega))); (try (have i_t51 := Imp.go t51 (by omega))); (try (have i_xJ40_2 := Imp.go xJ40_2 (by omega))); first | omega | ((try (have i_xJ40_1 := Imp.go xJ40_1 (by omega))); (try (have i_hz38 := Imp.go hz38 (by omega))); (try (have i_xJ33_1 := Imp.go xJ33_1 (by omega))); (try (have i_xJ33_0 := Imp.go xJ33_0 (by omega))); first | omega | ((try (have i_xlp29_1 := Imp.go xlp29_1 (by omega))); (try (have i_hz25 := Imp.go hz25 (by omega))); (try (have i_t20 := Imp.go t20 (by omega))); (try (have i_t19 := Imp.go t19 (by omega))); (try (have i_t18 := Imp.go t18 (by omega))); (try (have i_xlp6_2 := Imp.go xlp6_2 (by omega))); (try (have i_xlp6_1 := Imp.go xlp6_1 (by omega))); (try (have i_x3 := Imp.go x3 (by omega))); first | omega | ((try (have i_x3 := Imp.go x3 (by omega))); (try (have i_xlp6_1 := Imp.go xlp6_1 (by omega))); (try (have i_xlp6_2 := Imp.go xlp6_2 (by omega))); (try (have i_t18 := Imp.go t18 (by omega))); first | omega | ((try (have i_t19 := Imp.go t19 (by omega))); (try (have i_t20 := Imp.go t20 (by omega))); (try (have i_hz25 := Imp.go hz25 (by omega))); (try (have i_xlp29_1 := Imp.go xlp29_1 (by omega))); first | omega | ((try (have i_xJ33_0 := Imp.go xJ33_0 (by omega))); (try (have i_xJ33_1 := Imp.go xJ33_1 (by omega))); (try (have i_hz38 := Imp.go hz38 (by omega))); (try (have i_xJ40_1 := Imp.go xJ40_1 (by omega))); (try (have i_xJ40_2 := Imp.go xJ40_2 (by omega))); (try (have i_t51 := Imp.go t51 (by omega))); (try (have i_t52 := Imp.go t52 (by omega))); (try (have i_t53 := Imp.go t53 (by omega))); omega))))))) (Imp.mk (fun hp => have hp : (V54 0 8).toInt = 0 := hp; (show 0 ≤ (V54 0 7).toInt ∧ (V54 0 7).toInt ≤ n ∧ (V 0 8).toInt = 0 ∧ (V 0 7).toInt ≤ (V54 0 7).toInt from by first | exact om_85a40f929115 r1.1 ((Imp.go xlp6_1 (f13)).2.2.1) ((Imp.go xJ40_1 (((pq45).trans (pq56.symm)).trans (hp))).1) ((Imp.go xJ40_1 (((pq45).trans (pq56.symm)).trans (hp))).2.2.2) ((Imp.go t51 (hp)).2.1) ((Imp.go t51 (hp)).2.2.2) | first | omega | ((try (have i_t51 := Imp.go t51 (hp))); (try (have i_xJ40_2 := Imp.go xJ40_2 (i_t51.2.2.1))); (try (have i_xJ40_1 := Imp.go xJ40_1 (i_t51.2.2.1))); (try (have i_xJ33_1 := Imp.go xJ33_1 ((pq45.symm).trans (i_t51.2.2.1)))); (try (have i_xJ33_0 := Imp.go xJ33_0 ((pq45.symm).trans (i_t51.2.2.1)))); (try (have i_xlp6_2 := Imp.go xlp6_2 (f13))); (try (have i_xlp6_1 := Imp.go xlp6_1 (f13))); (try (have i_x3 := Imp.go x3 (i_xlp6_1.2.2.1))); omega) | ((try (have i_t53 := Imp.go t53 (by omega))); (try (have i_t52 := Imp.go t52 (by omega))); (try (have i_t51 := Imp.go t51 (by omega))); (try (have i_xJ40_2 := Imp.go xJ40_2 (by omega))); first | omega | ((try (have i_xJ40_1 := Imp.go xJ40_1 (by omega))); (try (have i_hz38 := Imp.go hz38 (by omega))); (try (have i_xJ33_1 := Imp.go xJ33_1 (by omega))); (try (have i_xJ33_0 := Imp.go xJ33_0 (by omega))); first | omega | ((try (have i_xlp29_1 := Imp.go xlp29_1 (by omega))); (try (have i_hz25 := Imp.go hz25 (by omega))); (try (have i_t20 := Imp.go t20 (by omega))); (try (have i_t19 := Imp.go t19 (by omega))); (try (have i_t18 := Imp.go t18 (by omega))); (try (have i_xlp6_2 := Imp.go xlp6_2 (by omega))); (try (have i_xlp6_1 := Imp.go xlp6_1 (by omega))); (try (have i_x3 := Imp.go x3 (by omega))); first | omega | ((try (have i_x3 := Imp.go x3 (by omega))); (try (have i_xlp6_1 := Imp.go xlp6_1 (by omega))); (try (have i_xlp6_2 := Imp.go xlp6_2 (by omega))); (try (have i_t18 := Imp.go t18 (by omega))); first | omega | ((try (have i_t19 := Imp.go t19 (by omega))); (try (have i_t20 := Imp.go t20 (by omega))); (try (have i_hz25 := Imp.go hz25 (by omega))); (try (have i_xlp29_1 := Imp.go xlp29_1 (by omega))); first | omega | ((try (have i_xJ33_0 := Imp.go xJ33_0 (by omega))); (try (have i_xJ33_1 := Imp.go xJ33_1 (by omega))); (try (have i_hz38 := Imp.go hz38 (by omega))); (try (have i_xJ40_1 := Imp.go xJ40_1 (by omega))); (try (have i_xJ40_2 := Imp.go xJ40_2 (by omega))); (try (have i_t51 := Imp.go t51 (by omega))); (try (have i_t52 := Imp.go t52 (by omega))); (try (have i_t53 := Imp.go t53 (by omega))); omega))))))))) (Imp.mk (fun hp => have hp : (V54 0 8).toInt = 0 := hp; (show 7 - y42.toInt < (g5 - 1) from by first | exact om_aa84a86ac8e8 ((Imp.go xJ40_2 (((pq45).trans (pq56.symm)).trans (hp)))) | first | omega | ((try (have i_t51 := Imp.go t51 (hp))); (try (have i_xJ40_2 := Imp.go xJ40_2 (i_t51.2.2.1))); (try (have i_xJ40_1 := Imp.go xJ40_1 (i_t51.2.2.1))); (try (have i_xJ33_1 := Imp.go xJ33_1 ((pq45.symm).trans (i_t51.2.2.1)))); (try (have i_xJ33_0 := Imp.go xJ33_0 ((pq45.symm).trans (i_t51.2.2.1)))); (try (have i_xlp6_2 := Imp.go xlp6_2 (f13))); (try (have i_xlp6_1 := Imp.go xlp6_1 (f13))); (try (have i_x3 := Imp.go x3 (i_xlp6_1.2.2.1))); omega) | ((try (have i_t53 := Imp.go t53 (by omega))); (try (have i_t52 := Imp.go t52 (by omega))); (try (have i_t51 := Imp.go t51 (by omega))); (try (have i_xJ40_2 := Imp.go xJ40_2 (by omega))); first | omega | ((try (have i_xJ40_1 := Imp.go xJ40_1 (by omega))); (try (have i_hz38 := Imp.go hz38 (by omega))); (try (have i_xJ33_1 := Imp.go xJ33_1 (by omega))); (try (have i_xJ33_0 := Imp.go xJ33_0 (by omega))); first | omega | ((try (have i_xlp29_1 := Imp.go xlp29_1 (by omega))); (try (have i_hz25 := Imp.go hz25 (by omega))); (try (have i_t20 := Imp.go t20 (by omega))); (try (have i_t19 := Imp.go t19 (by omega))); (try (have i_t18 := Imp.go t18 (by omega))); (try (have i_xlp6_2 := Imp.go xlp6_2 (by omega))); (try (have i_xlp6_1 := Imp.go xlp6_1 (by omega))); (try (have i_x3 := Imp.go x3 (by omega))); first | omega | ((try (have i_x3 := Imp.go x3 (by omega))); (try (have i_xlp6_1 := Imp.go xlp6_1 (by omega))); (try (have i_xlp6_2 := Imp.go xlp6_2 (by omega))); (try (have i_t18 := Imp.go t18 (by omega))); first | omega | ((try (have i_t19 := Imp.go t19 (by omega))); (try (have i_t20 := Imp.go t20 (by omega))); (try (have i_hz25 := Imp.go hz25 (by omega))); (try (have i_xlp29_1 := Imp.go xlp29_1 (by omega))); first | omega | ((try (have i_xJ33_0 := Imp.go xJ33_0 (by omega))); (try (have i_xJ33_1 := Imp.go xJ33_1 (by omega))); (try (have i_hz38 := Imp.go hz38 (by omega))); (try (have i_xJ40_1 := Imp.go xJ40_1 (by omega))); (try (have i_xJ40_2 := Imp.go xJ40_2 (by omega))); (try (have i_t51 := Imp.go t51 (by omega))); (try (have i_t52 := Imp.go t52 (by omega))); (try (have i_t53 := Imp.go t53 (by omega))); omega))))))))) (by first | omega | ((try (have i_xlp6_2 := Imp.go xlp6_2 (f13))); (try (have i_xlp6_1 := Imp.go xlp6_1 (f13))); (try (have i_x3 := Imp.go x3 (i_xlp6_1.2.2.1))); omega) | ((try (have i_t53 := Imp.go t53 (by omega))); (try (have i_t52 := Imp.go t52 (by omega))); (try (have i_t51 := Imp.go t51 (by omega))); (try (have i_xJ40_2 := Imp.go xJ40_2 (by omega))); first | omega | ((try (have i_xJ40_1 := Imp.go xJ40_1 (by omega))); (try (have i_hz38 := Imp.go hz38 (by omega))); (try (have i_xJ33_1 := Imp.go xJ33_1 (by omega))); (try (have i_xJ33_0 := Imp.go xJ33_0 (by omega))); first | omega | ((try (have i_xlp29_1 := Imp.go xlp29_1 (by omega))); (try (have i_hz25 := Imp.go hz25 (by omega))); (try (have i_t20 := Imp.go t20 (by omega))); (try (have i_t19 := Imp.go t19 (by omega))); (try (have i_t18 := Imp.go t18 (by omega))); (try (have i_xlp6_2 := Imp.go xlp6_2 (by omega))); (try (have i_xlp6_1 := Imp.go xlp6_1 (by omega))); (try (have i_x3 := Imp.go x3 (by omega))); first | omega | ((try (have i_x3 := Imp.go x3 (by omega))); (try (have i_xlp6_1 := Imp.go xlp6_1 (by omega))); (try (have i_xlp6_2 := Imp.go xlp6_2 (by omega))); (try (have i_t18 := Imp.go t18 (by omega))); first | omega | ((try (have i_t19 := Imp.go t19 (by omega))); (try (have i_t20 := Imp.go t20 (by omega))); (try (have i_hz25 := Imp.go hz25 (by omega))); (try (have i_xlp29_1 := Imp.go xlp29_1 (by omega))); first | omega | ((try (have i_xJ33_0 := Imp.go xJ33_0 (by omega))); (try (have i_xJ33_1 := Imp.go xJ33_1 (by omega))); (try (have i_hz38 := Imp.go hz38 (by omega))); (try (have i_xJ40_1 := Imp.go xJ40_1 (by omega))); (try (have i_xJ40_2 := Imp.go xJ40_2 (by omega))); (try (have i_t51 := Imp.go t51 (by omega))); (try (have i_t52 := Imp.go t52 (by omega))); (try (have i_t53 := Imp.go t53 (by omega))); omega))))))) (agr.tr (agr.tr (agr.up (agr.tr (agr.tr (agr.up (agr.tr (agr.tr agr.rf ajV4 (by decide) (by decide)) ajV21 (by decide) (by decide)) hV26 rfl) ajV28 (by decide) (by decide)) ajV34 (by decide) (by decide)) hV39 rfl) ajV43 (by decide) (by decide)) ajV54 (by decide) (by decide)) hMV54 hP hD hS (lv_sub hl [0, 2, 4, 5, 6] rfl)
                  refine lv_if_ne (tgt := 184) hx hb dX12_takeTypes_104 (by decide) (fun c57 => ?_) (fun c57 => ?_)
                  · skip
                    have f58 : ((V34 0 8)).toInt ≠ 0 := b_neq rfl (by decide) c57
                    have pq59 : (V39 0 7).toInt = z38.toInt := congrArg Int32.toInt (up2_s hV39)
                    have pq60 : (V39 0 8).toInt = ((V34 0 8)).toInt := congrArg Int32.toInt (up2_k hV39 (by decide))
                    exact J40 y27 y3 V39 H locs ls (by first | exact om_0f27f26bad41 klp29_0.1 klp29_0.2 | first | omega | ((try (have i_xlp6_2 := Imp.go xlp6_2 (f13))); (try (have i_xlp6_1 := Imp.go xlp6_1 (f13))); (try (have i_x3 := Imp.go x3 (i_xlp6_1.2.2.1))); omega) | ((try (have i_hz38 := Imp.go hz38 (by omega))); (try (have i_xJ33_1 := Imp.go xJ33_1 (by omega))); (try (have i_xJ33_0 := Imp.go xJ33_0 (by omega))); (try (have i_xlp29_1 := Imp.go xlp29_1 (by omega))); first | omega | ((try (have i_hz25 := Imp.go hz25 (by omega))); (try (have i_t20 := Imp.go t20 (by omega))); (try (have i_t19 := Imp.go t19 (by omega))); (try (have i_t18 := Imp.go t18 (by omega))); first | omega | ((try (have i_xlp6_2 := Imp.go xlp6_2 (by omega))); (try (have i_xlp6_1 := Imp.go xlp6_1 (by omega))); (try (have i_x3 := Imp.go x3 (by omega))); (try (have i_x3 := Imp.go x3 (by omega))); (try (have i_xlp6_1 := Imp.go xlp6_1 (by omega))); (try (have i_xlp6_2 := Imp.go xlp6_2 (by omega))); (try (have i_t18 := Imp.go t18 (by omega))); (try (have i_t19 := Imp.go t19 (by omega))); first | omega | ((try (have i_t20 := Imp.go t20 (by omega))); (try (have i_hz25 := Imp.go hz25 (by omega))); (try (have i_xlp29_1 := Imp.go xlp29_1 (by omega))); (try (have i_xJ33_0 := Imp.go xJ33_0 (by omega))); (try (have i_xJ33_1 := Imp.go xJ33_1 (by omega))); (try (have i_hz38 := Imp.go hz38 (by omega))); omega))))) (by first | exact om_6cf8765468e4 klp6_1.1 klp6_1.2 | first | omega | ((try (have i_xlp6_2 := Imp.go xlp6_2 (f13))); (try (have i_xlp6_1 := Imp.go xlp6_1 (f13))); (try (have i_x3 := Imp.go x3 (i_xlp6_1.2.2.1))); omega) | ((try (have i_hz38 := Imp.go hz38 (by omega))); (try (have i_xJ33_1 := Imp.go xJ33_1 (by omega))); (try (have i_xJ33_0 := Imp.go xJ33_0 (by omega))); (try (have i_xlp29_1 := Imp.go xlp29_1 (by omega))); first | omega | ((try (have i_hz25 := Imp.go hz25 (by omega))); (try (have i_t20 := Imp.go t20 (by omega))); (try (have i_t19 := Imp.go t19 (by omega))); (try (have i_t18 := Imp.go t18 (by omega))); first | omega | ((try (have i_xlp6_2 := Imp.go xlp6_2 (by omega))); (try (have i_xlp6_1 := Imp.go xlp6_1 (by omega))); (try (have i_x3 := Imp.go x3 (by omega))); (try (have i_x3 := Imp.go x3 (by omega))); (try (have i_xlp6_1 := Imp.go xlp6_1 (by omega))); (try (have i_xlp6_2 := Imp.go xlp6_2 (by omega))); (try (have i_t18 := Imp.go t18 (by omega))); (try (have i_t19 := Imp.go t19 (by omega))); first | omega | ((try (have i_t20 := Imp.go t20 (by omega))); (try (have i_hz25 := Imp.go hz25 (by omega))); (try (have i_xlp29_1 := Imp.go xlp29_1 (by omega))); (try (have i_xJ33_0 := Imp.go xJ33_0 (by omega))); (try (have i_xJ33_1 := Imp.go xJ33_1 (by omega))); (try (have i_hz38 := Imp.go hz38 (by omega))); omega))))) agr.rf hMV39 (show y3.toInt ≤ 6 from by first | exact om_1cd470348f7c klp6_1.2 | first | omega | ((try (have i_xlp6_2 := Imp.go xlp6_2 (f13))); (try (have i_xlp6_1 := Imp.go xlp6_1 (f13))); (try (have i_x3 := Imp.go x3 (i_xlp6_1.2.2.1))); omega) | ((try (have i_hz38 := Imp.go hz38 (by omega))); (try (have i_xJ33_1 := Imp.go xJ33_1 (by omega))); (try (have i_xJ33_0 := Imp.go xJ33_0 (by omega))); (try (have i_xlp29_1 := Imp.go xlp29_1 (by omega))); first | omega | ((try (have i_hz25 := Imp.go hz25 (by omega))); (try (have i_t20 := Imp.go t20 (by omega))); (try (have i_t19 := Imp.go t19 (by omega))); (try (have i_t18 := Imp.go t18 (by omega))); first | omega | ((try (have i_xlp6_2 := Imp.go xlp6_2 (by omega))); (try (have i_xlp6_1 := Imp.go xlp6_1 (by omega))); (try (have i_x3 := Imp.go x3 (by omega))); (try (have i_x3 := Imp.go x3 (by omega))); (try (have i_xlp6_1 := Imp.go xlp6_1 (by omega))); (try (have i_xlp6_2 := Imp.go xlp6_2 (by omega))); (try (have i_t18 := Imp.go t18 (by omega))); (try (have i_t19 := Imp.go t19 (by omega))); first | omega | ((try (have i_t20 := Imp.go t20 (by omega))); (try (have i_hz25 := Imp.go hz25 (by omega))); (try (have i_xlp29_1 := Imp.go xlp29_1 (by omega))); (try (have i_xJ33_0 := Imp.go xJ33_0 (by omega))); (try (have i_xJ33_1 := Imp.go xJ33_1 (by omega))); (try (have i_hz38 := Imp.go hz38 (by omega))); omega))))) (Imp.mk (fun hp => have hp : (V39 0 8).toInt = 0 := hp; (show 0 ≤ (V39 0 7).toInt ∧ (V39 0 7).toInt ≤ n ∧ (V 0 8).toInt = 0 ∧ (V 0 7).toInt ≤ (V39 0 7).toInt from by first | omega | ((try (have i_xJ33_1 := Imp.go xJ33_1 ((pq60.symm).trans (hp)))); (try (have i_xJ33_0 := Imp.go xJ33_0 ((pq60.symm).trans (hp)))); (try (have i_xlp6_2 := Imp.go xlp6_2 (f13))); (try (have i_xlp6_1 := Imp.go xlp6_1 (f13))); (try (have i_x3 := Imp.go x3 (i_xlp6_1.2.2.1))); omega) | ((try (have i_hz38 := Imp.go hz38 (by omega))); (try (have i_xJ33_1 := Imp.go xJ33_1 (by omega))); (try (have i_xJ33_0 := Imp.go xJ33_0 (by omega))); (try (have i_xlp29_1 := Imp.go xlp29_1 (by omega))); first | omega | ((try (have i_hz25 := Imp.go hz25 (by omega))); (try (have i_t20 := Imp.go t20 (by omega))); (try (have i_t19 := Imp.go t19 (by omega))); (try (have i_t18 := Imp.go t18 (by omega))); first | omega | ((try (have i_xlp6_2 := Imp.go xlp6_2 (by omega))); (try (have i_xlp6_1 := Imp.go xlp6_1 (by omega))); (try (have i_x3 := Imp.go x3 (by omega))); (try (have i_x3 := Imp.go x3 (by omega))); (try (have i_xlp6_1 := Imp.go xlp6_1 (by omega))); (try (have i_xlp6_2 := Imp.go xlp6_2 (by omega))); (try (have i_t18 := Imp.go t18 (by omega))); (try (have i_t19 := Imp.go t19 (by omega))); first | omega | ((try (have i_t20 := Imp.go t20 (by omega))); (try (have i_hz25 := Imp.go hz25 (by omega))); (try (have i_xlp29_1 := Imp.go xlp29_1 (by omega))); (try (have i_xJ33_0 := Imp.go xJ33_0 (by omega))); (try (have i_xJ33_1 := Imp.go xJ33_1 (by omega))); (try (have i_hz38 := Imp.go hz38 (by omega))); omega))))))) (Imp.mk (fun hp => have hp : (V39 0 8).toInt = 0 := hp; (show 7 - y3.toInt < g5 - 1 from by first | omega | ((try (have i_xJ33_1 := Imp.go xJ33_1 ((pq60.symm).trans (hp)))); (try (have i_xJ33_0 := Imp.go xJ33_0 ((pq60.symm).trans (hp)))); (try (have i_xlp6_2 := Imp.go xlp6_2 (f13))); (try (have i_xlp6_1 := Imp.go xlp6_1 (f13))); (try (have i_x3 := Imp.go x3 (i_xlp6_1.2.2.1))); omega) | ((try (have i_hz38 := Imp.go hz38 (by omega))); (try (have i_xJ33_1 := Imp.go xJ33_1 (by omega))); (try (have i_xJ33_0 := Imp.go xJ33_0 (by omega))); (try (have i_xlp29_1 := Imp.go xlp29_1 (by omega))); first | omega | ((try (have i_hz25 := Imp.go hz25 (by omega))); (try (have i_t20 := Imp.go t20 (by omega))); (try (have i_t19 := Imp.go t19 (by omega))); (try (have i_t18 := Imp.go t18 (by omega))); first | omega | ((try (have i_xlp6_2 := Imp.go xlp6_2 (by omega))); (try (have i_xlp6_1 := Imp.go xlp6_1 (by omega))); (try (have i_x3 := Imp.go x3 (by omega))); (try (have i_x3 := Imp.go x3 (by omega))); (try (have i_xlp6_1 := Imp.go xlp6_1 (by omega))); (try (have i_xlp6_2 := Imp.go xlp6_2 (by omega))); (try (have i_t18 := Imp.go t18 (by omega))); (try (have i_t19 := Imp.go t19 (by omega))); first | omega | ((try (have i_t20 := Imp.go t20 (by omega))); (try (have i_hz25 := Imp.go hz25 (by omega))); (try (have i_xlp29_1 := Imp.go xlp29_1 (by omega))); (try (have i_xJ33_0 := Imp.go xJ33_0 (by omega))); (try (have i_xJ33_1 := Imp.go xJ33_1 (by omega))); (try (have i_hz38 := Imp.go hz38 (by omega))); omega))))))) hP hD hS (lv_sub hl [0, 3, 1, 2, 4, 5, 6] rfl)
                  · skip
                    have f61 : ((V34 0 8)).toInt = 0 := b_eq rfl (by decide) c57
                    refine lv_aload_n hx hb dX12_takeTypes_107 rfl (lv_at hl 4 rfl) ?_
                    refine va_get (D := D) (ci := 12) (v := .ref (ad 53)) (C := RX12) (T := TX12) (N := 100) hx hb hg inX12 hown hK hP 0 rfl rfl 53 (by decide) (hg _ w1759) (fun _ h9 => h9) rfl dX12_takeTypes_108 ?_
                    refine lv_iload_n hx hb dX12_takeTypes_111 rfl (lv_at hl 3 rfl) ?_
                    refine lv_iload hx hb dX12_takeTypes_112 (lv_at hl 1 rfl) ?_
                    refine va_iast (D := D) (i := y3) (x := z15) hx hb hK hP hD hS 41 40 rfl rfl (i_in (a := y3.toInt) rfl (by first | exact om_57cc8df1437c klp6_1.1 ((Imp.go xJ33_0 (f61))) | first | omega | ((try (have i_xJ33_1 := Imp.go xJ33_1 (f61))); (try (have i_xJ33_0 := Imp.go xJ33_0 (f61))); (try (have i_xlp6_2 := Imp.go xlp6_2 (f13))); (try (have i_xlp6_1 := Imp.go xlp6_1 (f13))); (try (have i_x3 := Imp.go x3 (i_xlp6_1.2.2.1))); omega) | ((try (have i_hz38 := Imp.go hz38 (by omega))); (try (have i_xJ33_1 := Imp.go xJ33_1 (by omega))); (try (have i_xJ33_0 := Imp.go xJ33_0 (by omega))); (try (have i_xlp29_1 := Imp.go xlp29_1 (by omega))); first | omega | ((try (have i_hz25 := Imp.go hz25 (by omega))); (try (have i_t20 := Imp.go t20 (by omega))); (try (have i_t19 := Imp.go t19 (by omega))); (try (have i_t18 := Imp.go t18 (by omega))); first | omega | ((try (have i_xlp6_2 := Imp.go xlp6_2 (by omega))); (try (have i_xlp6_1 := Imp.go xlp6_1 (by omega))); (try (have i_x3 := Imp.go x3 (by omega))); (try (have i_x3 := Imp.go x3 (by omega))); (try (have i_xlp6_1 := Imp.go xlp6_1 (by omega))); (try (have i_xlp6_2 := Imp.go xlp6_2 (by omega))); (try (have i_t18 := Imp.go t18 (by omega))); (try (have i_t19 := Imp.go t19 (by omega))); first | omega | ((try (have i_t20 := Imp.go t20 (by omega))); (try (have i_hz25 := Imp.go hz25 (by omega))); (try (have i_xlp29_1 := Imp.go xlp29_1 (by omega))); (try (have i_xJ33_0 := Imp.go xJ33_0 (by omega))); (try (have i_xJ33_1 := Imp.go xJ33_1 (by omega))); (try (have i_hz38 := Imp.go hz38 (by omega))); omega)))))) dX12_takeTypes_114 (fun H locs hP hD hS => ?_)
                    obtain ⟨V62, hV62⟩ : ∃ z, z = up2 V39 53 (Int32.toNatClampNeg y3) z15 := ⟨_, rfl⟩
                    have hP : va_P D vwCl (mw ad kk ks.1 V62 L) H := by rw [hV62]; exact hP
                    have hD : va_D A (mw ad kk ks.1 V62 L) := by rw [hV62]; exact hD
                    have hMV62 : rgd bM V62 := hMV39.put hV62 (show (-1) ≤ z15.toInt ∧ z15.toInt ≤ 23 from by first | exact om_4b810028db7e rgz15.2 ((Imp.go xJ33_1 (f61)).1) | first | omega | ((try (have i_xJ33_1 := Imp.go xJ33_1 (f61))); (try (have i_xJ33_0 := Imp.go xJ33_0 (f61))); (try (have i_xlp6_2 := Imp.go xlp6_2 (f13))); (try (have i_xlp6_1 := Imp.go xlp6_1 (f13))); (try (have i_x3 := Imp.go x3 (i_xlp6_1.2.2.1))); omega) | ((try (have i_hz38 := Imp.go hz38 (by omega))); (try (have i_xJ33_1 := Imp.go xJ33_1 (by omega))); (try (have i_xJ33_0 := Imp.go xJ33_0 (by omega))); (try (have i_xlp29_1 := Imp.go xlp29_1 (by omega))); first | omega | ((try (have i_hz25 := Imp.go hz25 (by omega))); (try (have i_t20 := Imp.go t20 (by omega))); (try (have i_t19 := Imp.go t19 (by omega))); (try (have i_t18 := Imp.go t18 (by omega))); first | omega | ((try (have i_xlp6_2 := Imp.go xlp6_2 (by omega))); (try (have i_xlp6_1 := Imp.go xlp6_1 (by omega))); (try (have i_x3 := Imp.go x3 (by omega))); (try (have i_x3 := Imp.go x3 (by omega))); (try (have i_xlp6_1 := Imp.go xlp6_1 (by omega))); (try (have i_xlp6_2 := Imp.go xlp6_2 (by omega))); (try (have i_t18 := Imp.go t18 (by omega))); (try (have i_t19 := Imp.go t19 (by omega))); first | omega | ((try (have i_t20 := Imp.go t20 (by omega))); (try (have i_hz25 := Imp.go hz25 (by omega))); (try (have i_xlp29_1 := Imp.go xlp29_1 (by omega))); (try (have i_xJ33_0 := Imp.go xJ33_0 (by omega))); (try (have i_xJ33_1 := Imp.go xJ33_1 (by omega))); (try (have i_hz38 := Imp.go hz38 (by omega))); omega)))))
                    have agV62 : agr [(0, 7), (0, 8)] [15, 53] V V62 := agV39.up hV62 rfl
                    obtain ⟨z63, ez63⟩ : ∃ y : Int32, y = y3 + 1 := ⟨_, rfl⟩
                    have hz63 : z63.toInt = y3.toInt + 1 := i_add ez63 rfl (by decide) (by (first | exact om_1ee1272a7833 klp6_1.1 klp6_1.2 | omega))
                    refine lv_iinc (v := z63) (lv' := [(3, .int z63), (6, .int y27), (5, .int z15), (4, .int y2), (0, .ref (ad 0)), (1, .ref (ad 15)), (2, .int p1)]) hx hb dX12_takeTypes_115 hl (k := 3) rfl (by rw [ez63]; rfl) (by decide) rfl (fun ls hl => ?_)
                    refine lv_iconst (v := 0) hx hb dX12_takeTypes_118 (by decide) ?_
                    refine lv_istore (lv' := [(6, .int 0), (3, .int z63), (5, .int z15), (4, .int y2), (0, .ref (ad 0)), (1, .ref (ad 15)), (2, .int p1)]) hx hb dX12_takeTypes_119 hl (by decide) rfl (fun ls hl => ?_)
                    have lp66 : ∀ (fulp66 : Nat) (y64 : Int32) (V65 : Vf) (H : Heap) (locs : List Loc) (ls : Array Slot), 0 ≤ y64.toInt ∧ y64.toInt ≤ 24 → 24 - y64.toInt < (fulp66 : Int) → agr [] [15] V62 V65 → rgd bM V65 → va_P D vwCl (mw ad kk ks.1 V65 L) H → va_D A (mw ad kk ks.1 V65 L) → va_S A s.heap H locs → lv_has ls 7 [(6, .int y64), (3, .int z63), (5, .int z15), (4, .int y2), (0, .ref (ad 0)), (1, .ref (ad 15)), (2, .int p1)] → W p l e r_s_takeTypes4 s m ([.ref (ad 0), .ref (ad 15), .int p1] : List Value).toArray below meth c H locs 0 0 (MQ below (q_s_takeTypes4 D ks ad kk V L p1 n A) ([.ref (ad 0), .ref (ad 15), .int p1] : List Value).toArray s 0 0 A) (F0 m 121 ls []) := by
                      intro fulp66
                      induction fulp66 with
                      | zero =>
                        intro y64 V65 H locs ls klp66_0 hn ajV65 hMV65 hP hD hS hl
                        exfalso; (first | exact om_9386ef0df612 klp66_0.2 hn | omega)
                      | succ fulp66 ihlp66 =>
                        intro y64 V65 H locs ls klp66_0 hn ajV65 hMV65 hP hD hS hl
                        have agV65 : agr [(0, 7), (0, 8)] [15, 53] V V65 := agV62.tr ajV65 (by decide) (by decide)
                        refine lv_iload hx hb dX12_takeTypes_121 (lv_at hl 0 rfl) ?_
                        refine lv_bipush (v := 24) hx hb dX12_takeTypes_123 (by decide) ?_
                        refine lv_icmp_ge (tgt := 184) hx hb dX12_takeTypes_125 (by decide) (fun c67 => ?_) (fun c67 => ?_)
                        · skip
                          have f68 : 24 ≤ y64.toInt := b_le (by decide) rfl c67
                          have pq69 : (V65 0 7).toInt = z38.toInt := congrArg Int32.toInt ((ajV65 0 7 rfl).trans ((up2_o hV62 (by decide)).trans (up2_s hV39)))
                          have pq70 : (V65 0 8).toInt = ((V34 0 8)).toInt := congrArg Int32.toInt ((ajV65 0 8 rfl).trans ((up2_o hV62 (by decide)).trans (up2_k hV39 (by decide))))
                          exact J40 y64 z63 V65 H locs ls (by first | exact om_b92df8b10ea1 klp66_0.2 f68 | first | omega | ((try (have i_xJ33_1 := Imp.go xJ33_1 (f61))); (try (have i_xJ33_0 := Imp.go xJ33_0 (f61))); (try (have i_xlp6_2 := Imp.go xlp6_2 (f13))); (try (have i_xlp6_1 := Imp.go xlp6_1 (f13))); (try (have i_x3 := Imp.go x3 (i_xlp6_1.2.2.1))); omega) | ((try (have i_hz38 := Imp.go hz38 (by omega))); (try (have i_xJ33_1 := Imp.go xJ33_1 (by omega))); (try (have i_xJ33_0 := Imp.go xJ33_0 (by omega))); (try (have i_xlp29_1 := Imp.go xlp29_1 (by omega))); first | omega | ((try (have i_hz25 := Imp.go hz25 (by omega))); (try (have i_t20 := Imp.go t20 (by omega))); (try (have i_t19 := Imp.go t19 (by omega))); (try (have i_t18 := Imp.go t18 (by omega))); first | omega | ((try (have i_xlp6_2 := Imp.go xlp6_2 (by omega))); (try (have i_xlp6_1 := Imp.go xlp6_1 (by omega))); (try (have i_x3 := Imp.go x3 (by omega))); (try (have i_x3 := Imp.go x3 (by omega))); (try (have i_xlp6_1 := Imp.go xlp6_1 (by omega))); (try (have i_xlp6_2 := Imp.go xlp6_2 (by omega))); (try (have i_t18 := Imp.go t18 (by omega))); (try (have i_t19 := Imp.go t19 (by omega))); first | omega | ((try (have i_t20 := Imp.go t20 (by omega))); (try (have i_hz25 := Imp.go hz25 (by omega))); (try (have i_xlp29_1 := Imp.go xlp29_1 (by omega))); (try (have i_xJ33_0 := Imp.go xJ33_0 (by omega))); (try (have i_xJ33_1 := Imp.go xJ33_1 (by omega))); (try (have i_hz38 := Imp.go hz38 (by omega))); omega))))) (by first | exact om_7d198997dc72 klp6_1.1 hz63 ((Imp.go xJ33_0 (f61))) | first | omega | ((try (have i_xJ33_1 := Imp.go xJ33_1 (f61))); (try (have i_xJ33_0 := Imp.go xJ33_0 (f61))); (try (have i_xlp6_2 := Imp.go xlp6_2 (f13))); (try (have i_xlp6_1 := Imp.go xlp6_1 (f13))); (try (have i_x3 := Imp.go x3 (i_xlp6_1.2.2.1))); omega) | ((try (have i_hz38 := Imp.go hz38 (by omega))); (try (have i_xJ33_1 := Imp.go xJ33_1 (by omega))); (try (have i_xJ33_0 := Imp.go xJ33_0 (by omega))); (try (have i_xlp29_1 := Imp.go xlp29_1 (by omega))); first | omega | ((try (have i_hz25 := Imp.go hz25 (by omega))); (try (have i_t20 := Imp.go t20 (by omega))); (try (have i_t19 := Imp.go t19 (by omega))); (try (have i_t18 := Imp.go t18 (by omega))); first | omega | ((try (have i_xlp6_2 := Imp.go xlp6_2 (by omega))); (try (have i_xlp6_1 := Imp.go xlp6_1 (by omega))); (try (have i_x3 := Imp.go x3 (by omega))); (try (have i_x3 := Imp.go x3 (by omega))); (try (have i_xlp6_1 := Imp.go xlp6_1 (by omega))); (try (have i_xlp6_2 := Imp.go xlp6_2 (by omega))); (try (have i_t18 := Imp.go t18 (by omega))); (try (have i_t19 := Imp.go t19 (by omega))); first | omega | ((try (have i_t20 := Imp.go t20 (by omega))); (try (have i_hz25 := Imp.go hz25 (by omega))); (try (have i_xlp29_1 := Imp.go xlp29_1 (by omega))); (try (have i_xJ33_0 := Imp.go xJ33_0 (by omega))); (try (have i_xJ33_1 := Imp.go xJ33_1 (by omega))); (try (have i_hz38 := Imp.go hz38 (by omega))); omega))))) (agr.tr (agr.up agr.rf hV62 rfl) ajV65 (by decide) (by decide)) hMV65 (show z63.toInt ≤ 6 from by first | exact om_97f9a9892435 hz63 ((Imp.go xJ33_0 (f61))) | first | omega | ((try (have i_xJ33_1 := Imp.go xJ33_1 (f61))); (try (have i_xJ33_0 := Imp.go xJ33_0 (f61))); (try (have i_xlp6_2 := Imp.go xlp6_2 (f13))); (try (have i_xlp6_1 := Imp.go xlp6_1 (f13))); (try (have i_x3 := Imp.go x3 (i_xlp6_1.2.2.1))); omega) | ((try (have i_hz38 := Imp.go hz38 (by omega))); (try (have i_xJ33_1 := Imp.go xJ33_1 (by omega))); (try (have i_xJ33_0 := Imp.go xJ33_0 (by omega))); (try (have i_xlp29_1 := Imp.go xlp29_1 (by omega))); first | omega | ((try (have i_hz25 := Imp.go hz25 (by omega))); (try (have i_t20 := Imp.go t20 (by omega))); (try (have i_t19 := Imp.go t19 (by omega))); (try (have i_t18 := Imp.go t18 (by omega))); first | omega | ((try (have i_xlp6_2 := Imp.go xlp6_2 (by omega))); (try (have i_xlp6_1 := Imp.go xlp6_1 (by omega))); (try (have i_x3 := Imp.go x3 (by omega))); (try (have i_x3 := Imp.go x3 (by omega))); (try (have i_xlp6_1 := Imp.go xlp6_1 (by omega))); (try (have i_xlp6_2 := Imp.go xlp6_2 (by omega))); (try (have i_t18 := Imp.go t18 (by omega))); (try (have i_t19 := Imp.go t19 (by omega))); first | omega | ((try (have i_t20 := Imp.go t20 (by omega))); (try (have i_hz25 := Imp.go hz25 (by omega))); (try (have i_xlp29_1 := Imp.go xlp29_1 (by omega))); (try (have i_xJ33_0 := Imp.go xJ33_0 (by omega))); (try (have i_xJ33_1 := Imp.go xJ33_1 (by omega))); (try (have i_hz38 := Imp.go hz38 (by omega))); omega))))) (Imp.mk (fun hp => have hp : (V65 0 8).toInt = 0 := hp; (show 0 ≤ (V65 0 7).toInt ∧ (V65 0 7).toInt ≤ n ∧ (V 0 8).toInt = 0 ∧ (V 0 7).toInt ≤ (V65 0 7).toInt from by first | exact om_b40b4577f813 r1.1 pq36 pq69 ((Imp.go xlp6_1 (f13)).2.2.1) ((Imp.go xJ33_1 (f61)).2.1) ((Imp.go xJ33_1 (f61)).2.2.1) ((Imp.go xJ33_1 (f61)).2.2.2.2) ((Imp.go hz38 (om_a37ef18189e4 x2 pq36 ((Imp.go xJ33_1 (f61)).2.1) ((Imp.go xJ33_1 (f61)).2.2.1)))) | first | omega | ((try (have i_xJ33_1 := Imp.go xJ33_1 (f61))); (try (have i_xJ33_0 := Imp.go xJ33_0 (f61))); (try (have i_xlp6_2 := Imp.go xlp6_2 (f13))); (try (have i_xlp6_1 := Imp.go xlp6_1 (f13))); (try (have i_x3 := Imp.go x3 (i_xlp6_1.2.2.1))); omega) | ((try (have i_hz38 := Imp.go hz38 (by omega))); (try (have i_xJ33_1 := Imp.go xJ33_1 (by omega))); (try (have i_xJ33_0 := Imp.go xJ33_0 (by omega))); (try (have i_xlp29_1 := Imp.go xlp29_1 (by omega))); first | omega | ((try (have i_hz25 := Imp.go hz25 (by omega))); (try (have i_t20 := Imp.go t20 (by omega))); (try (have i_t19 := Imp.go t19 (by omega))); (try (have i_t18 := Imp.go t18 (by omega))); first | omega | ((try (have i_xlp6_2 := Imp.go xlp6_2 (by omega))); (try (have i_xlp6_1 := Imp.go xlp6_1 (by omega))); (try (have i_x3 := Imp.go x3 (by omega))); (try (have i_x3 := Imp.go x3 (by omega))); (try (have i_xlp6_1 := Imp.go xlp6_1 (by omega))); (try (have i_xlp6_2 := Imp.go xlp6_2 (by omega))); (try (have i_t18 := Imp.go t18 (by omega))); (try (have i_t19 := Imp.go t19 (by omega))); first | omega | ((try (have i_t20 := Imp.go t20 (by omega))); (try (have i_hz25 := Imp.go hz25 (by omega))); (try (have i_xlp29_1 := Imp.go xlp29_1 (by omega))); (try (have i_xJ33_0 := Imp.go xJ33_0 (by omega))); (try (have i_xJ33_1 := Imp.go xJ33_1 (by omega))); (try (have i_hz38 := Imp.go hz38 (by omega))); omega))))))) (Imp.mk (fun hp => have hp : (V65 0 8).toInt = 0 := hp; (show 7 - z63.toInt < g5 - 1 from by first | exact om_3b5c2a59e72f hz63 ((Imp.go xlp6_2 (f13))) | first | omega | ((try (have i_xJ33_1 := Imp.go xJ33_1 (f61))); (try (have i_xJ33_0 := Imp.go xJ33_0 (f61))); (try (have i_xlp6_2 := Imp.go xlp6_2 (f13))); (try (have i_xlp6_1 := Imp.go xlp6_1 (f13))); (try (have i_x3 := Imp.go x3 (i_xlp6_1.2.2.1))); omega) | ((try (have i_hz38 := Imp.go hz38 (by omega))); (try (have i_xJ33_1 := Imp.go xJ33_1 (by omega))); (try (have i_xJ33_0 := Imp.go xJ33_0 (by omega))); (try (have i_xlp29_1 := Imp.go xlp29_1 (by omega))); first | omega | ((try (have i_hz25 := Imp.go hz25 (by omega))); (try (have i_t20 := Imp.go t20 (by omega))); (try (have i_t19 := Imp.go t19 (by omega))); (try (have i_t18 := Imp.go t18 (by omega))); first | omega | ((try (have i_xlp6_2 := Imp.go xlp6_2 (by omega))); (try (have i_xlp6_1 := Imp.go xlp6_1 (by omega))); (try (have i_x3 := Imp.go x3 (by omega))); (try (have i_x3 := Imp.go x3 (by omega))); (try (have i_xlp6_1 := Imp.go xlp6_1 (by omega))); (try (have i_xlp6_2 := Imp.go xlp6_2 (by omega))); (try (have i_t18 := Imp.go t18 (by omega))); (try (have i_t19 := Imp.go t19 (by omega))); first | omega | ((try (have i_t20 := Imp.go t20 (by omega))); (try (have i_hz25 := Imp.go hz25 (by omega))); (try (have i_xlp29_1 := Imp.go xlp29_1 (by omega))); (try (have i_xJ33_0 := Imp.go xJ33_0 (by omega))); (try (have i_xJ33_1 := Imp.go xJ33_1 (by omega))); (try (have i_hz38 := Imp.go hz38 (by omega))); omega))))))) hP hD hS (lv_sub hl [0, 1, 2, 3, 4, 5, 6] rfl)
                        · skip
                          have f71 : y64.toInt < 24 := b_nle (by decide) rfl c67
                          refine lv_aload_n hx hb dX12_takeTypes_128 rfl (lv_at hl 5 rfl) ?_
                          refine lv_bipush (v := 24) hx hb dX12_takeTypes_129 (by decide) ?_
                          refine lv_iload_n hx hb dX12_takeTypes_131 rfl (lv_at hl 6 rfl) ?_
                          refine lv_imul hx hb dX12_takeTypes_132 ?_
                          refine lv_topi (fun z72 ez72 => ?_)
                          have hz72 : z72.toInt = 24 * p1.toInt := i_mul ez72 (by decide) rfl (by (first | exact om_77d2eed4b36d rg_p1.1 rg_p1.2 | omega))
                          refine lv_iload hx hb dX12_takeTypes_133 (lv_at hl 0 rfl) ?_
                          refine lv_iadd hx hb dX12_takeTypes_135 ?_
                          refine lv_topi (fun z73 ez73 => ?_)
                          have hz73 : z73.toInt = z72.toInt + y64.toInt := i_add ez73 rfl rfl (by (first | exact om_94a1b4b6b90a rg_p1.1 rg_p1.2 klp66_0.1 f71 hz72 | omega))
                          refine lv_aload_n hx hb dX12_takeTypes_136 rfl (lv_at hl 5 rfl) ?_
                          refine lv_bipush (v := 24) hx hb dX12_takeTypes_137 (by decide) ?_
                          refine lv_iload_n hx hb dX12_takeTypes_139 rfl (lv_at hl 6 rfl) ?_
                          refine lv_imul hx hb dX12_takeTypes_140 ?_
                          refine lv_topi (fun z74 ez74 => ?_)
                          have hz74 : z74.toInt = 24 * p1.toInt := i_mul ez74 (by decide) rfl (by (first | exact om_77d2eed4b36d rg_p1.1 rg_p1.2 | omega))
                          refine lv_iload hx hb dX12_takeTypes_141 (lv_at hl 0 rfl) ?_
                          refine lv_iadd hx hb dX12_takeTypes_143 ?_
                          refine lv_topi (fun z75 ez75 => ?_)
                          have hz75 : z75.toInt = z74.toInt + y64.toInt := i_add ez75 rfl rfl (by (first | exact om_94a1b4b6b90a rg_p1.1 rg_p1.2 klp66_0.1 f71 hz74 | omega))
                          refine va_zald (D := D) (i := z75) hx hb hK hP 8 7 rfl rfl (i_in (a := z75.toInt) rfl (by first | exact om_e21fd4bb223a rg_p1.1 rg_p1.2 klp66_0.1 f71 hz74 hz75 | first | omega | ((try (have i_xJ33_1 := Imp.go xJ33_1 (f61))); (try (have i_xJ33_0 := Imp.go xJ33_0 (f61))); (try (have i_xlp6_2 := Imp.go xlp6_2 (f13))); (try (have i_xlp6_1 := Imp.go xlp6_1 (f13))); (try (have i_x3 := Imp.go x3 (i_xlp6_1.2.2.1))); omega) | ((try (have i_hz38 := Imp.go hz38 (by omega))); (try (have i_xJ33_1 := Imp.go xJ33_1 (by omega))); (try (have i_xJ33_0 := Imp.go xJ33_0 (by omega))); (try (have i_xlp29_1 := Imp.go xlp29_1 (by omega))); first | omega | ((try (have i_hz25 := Imp.go hz25 (by omega))); (try (have i_t20 := Imp.go t20 (by omega))); (try (have i_t19 := Imp.go t19 (by omega))); (try (have i_t18 := Imp.go t18 (by omega))); first | omega | ((try (have i_xlp6_2 := Imp.go xlp6_2 (by omega))); (try (have i_xlp6_1 := Imp.go xlp6_1 (by omega))); (try (have i_x3 := Imp.go x3 (by omega))); (try (have i_x3 := Imp.go x3 (by omega))); (try (have i_xlp6_1 := Imp.go xlp6_1 (by omega))); (try (have i_xlp6_2 := Imp.go xlp6_2 (by omega))); (try (have i_t18 := Imp.go t18 (by omega))); (try (have i_t19 := Imp.go t19 (by omega))); first | omega | ((try (have i_t20 := Imp.go t20 (by omega))); (try (have i_hz25 := Imp.go hz25 (by omega))); (try (have i_xlp29_1 := Imp.go xlp29_1 (by omega))); (try (have i_xJ33_0 := Imp.go xJ33_0 (by omega))); (try (have i_xJ33_1 := Imp.go xJ33_1 (by omega))); (try (have i_hz38 := Imp.go hz38 (by omega))); omega)))))) dX12_takeTypes_144 ?_
                          have r76 : 0 ≤ ((V65 15 (Int32.toNatClampNeg z75))).toInt ∧ ((V65 15 (Int32.toNatClampNeg z75))).toInt ≤ 1 := hMV65 15 (Int32.toNatClampNeg z75)
                          refine lv_if_ne (tgt := 172) hx hb dX12_takeTypes_145 (by decide) (fun c77 => ?_) (fun c77 => ?_)
                          · skip
                            have f78 : ((V65 15 (Int32.toNatClampNeg z75))).toInt ≠ 0 := b_neq rfl (by decide) c77
                            refine lv_iconst (v := 1) hx hb dX12_takeTypes_172 (by decide) ?_
                            refine lv_goto (tgt := 177) hx hb dX12_takeTypes_173 (by decide) ?_
                            refine va_zast (D := D) (i := z73) (x := 1) hx hb hK hP hD hS 8 7 rfl rfl (i_in (a := z73.toInt) rfl (by first | exact om_e21fd4bb223a rg_p1.1 rg_p1.2 klp66_0.1 f71 hz72 hz73 | first | omega | ((try (have i_xJ33_1 := Imp.go xJ33_1 (f61))); (try (have i_xJ33_0 := Imp.go xJ33_0 (f61))); (try (have i_xlp6_2 := Imp.go xlp6_2 (f13))); (try (have i_xlp6_1 := Imp.go xlp6_1 (f13))); (try (have i_x3 := Imp.go x3 (i_xlp6_1.2.2.1))); omega) | ((try (have i_hz38 := Imp.go hz38 (by omega))); (try (have i_xJ33_1 := Imp.go xJ33_1 (by omega))); (try (have i_xJ33_0 := Imp.go xJ33_0 (by omega))); (try (have i_xlp29_1 := Imp.go xlp29_1 (by omega))); first | omega | ((try (have i_hz25 := Imp.go hz25 (by omega))); (try (have i_t20 := Imp.go t20 (by omega))); (try (have i_t19 := Imp.go t19 (by omega))); (try (have i_t18 := Imp.go t18 (by omega))); first | omega | ((try (have i_xlp6_2 := Imp.go xlp6_2 (by omega))); (try (have i_xlp6_1 := Imp.go xlp6_1 (by omega))); (try (have i_x3 := Imp.go x3 (by omega))); (try (have i_x3 := Imp.go x3 (by omega))); (try (have i_xlp6_1 := Imp.go xlp6_1 (by omega))); (try (have i_xlp6_2 := Imp.go xlp6_2 (by omega))); (try (have i_t18 := Imp.go t18 (by omega))); (try (have i_t19 := Imp.go t19 (by omega))); first | omega | ((try (have i_t20 := Imp.go t20 (by omega))); (try (have i_hz25 := Imp.go hz25 (by omega))); (try (have i_xlp29_1 := Imp.go xlp29_1 (by omega))); (try (have i_xJ33_0 := Imp.go xJ33_0 (by omega))); (try (have i_xJ33_1 := Imp.go xJ33_1 (by omega))); (try (have i_hz38 := Imp.go hz38 (by omega))); omega)))))) dX12_takeTypes_177 (fun H locs hP hD hS => ?_)
                            obtain ⟨V79, hV79⟩ : ∃ z, z = up2 V65 15 (Int32.toNatClampNeg z73) (vp_nar .boolean 1) := ⟨_, rfl⟩
                            have hP : va_P D vwCl (mw ad kk ks.1 V79 L) H := by rw [hV79]; exact hP
                            have hD : va_D A (mw ad kk ks.1 V79 L) := by rw [hV79]; exact hD
                            have hMV79 : rgd bM V79 := hMV65.put hV79 (nar_b _)
                            have agV79 : agr [(0, 7), (0, 8)] [15, 53] V V79 := agV65.up hV79 rfl
                            obtain ⟨z80, ez80⟩ : ∃ y : Int32, y = y64 + 1 := ⟨_, rfl⟩
                            have hz80 : z80.toInt = y64.toInt + 1 := i_add ez80 rfl (by decide) (by (first | exact om_bc9106cf44c9 klp66_0.1 f71 | omega))
                            refine lv_iinc (v := z80) (lv' := [(6, .int z80), (3, .int z63), (5, .int z15), (4, .int y2), (0, .ref (ad 0)), (1, .ref (ad 15)), (2, .int p1)]) hx hb dX12_takeTypes_178 hl (k := 0) rfl (by rw [ez80]; rfl) (by decide) rfl (fun ls hl => ?_)
                            refine lv_goto (tgt := 121) hx hb dX12_takeTypes_181 (by decide) ?_
                            exact ihlp66 z80 V79 H locs ls (by first | exact om_a5349b170263 klp66_0.1 f71 hz80 | first | omega | ((try (have i_xJ33_1 := Imp.go xJ33_1 (f61))); (try (have i_xJ33_0 := Imp.go xJ33_0 (f61))); (try (have i_xlp6_2 := Imp.go xlp6_2 (f13))); (try (have i_xlp6_1 := Imp.go xlp6_1 (f13))); (try (have i_x3 := Imp.go x3 (i_xlp6_1.2.2.1))); omega) | ((try (have i_hz38 := Imp.go hz38 (by omega))); (try (have i_xJ33_1 := Imp.go xJ33_1 (by omega))); (try (have i_xJ33_0 := Imp.go xJ33_0 (by omega))); (try (have i_xlp29_1 := Imp.go xlp29_1 (by omega))); first | omega | ((try (have i_hz25 := Imp.go hz25 (by omega))); (try (have i_t20 := Imp.go t20 (by omega))); (try (have i_t19 := Imp.go t19 (by omega))); (try (have i_t18 := Imp.go t18 (by omega))); first | omega | ((try (have i_xlp6_2 := Imp.go xlp6_2 (by omega))); (try (have i_xlp6_1 := Imp.go xlp6_1 (by omega))); (try (have i_x3 := Imp.go x3 (by omega))); (try (have i_x3 := Imp.go x3 (by omega))); (try (have i_xlp6_1 := Imp.go xlp6_1 (by omega))); (try (have i_xlp6_2 := Imp.go xlp6_2 (by omega))); (try (have i_t18 := Imp.go t18 (by omega))); (try (have i_t19 := Imp.go t19 (by omega))); first | omega | ((try (have i_t20 := Imp.go t20 (by omega))); (try (have i_hz25 := Imp.go hz25 (by omega))); (try (have i_xlp29_1 := Imp.go xlp29_1 (by omega))); (try (have i_xJ33_0 := Imp.go xJ33_0 (by omega))); (try (have i_xJ33_1 := Imp.go xJ33_1 (by omega))); (try (have i_hz38 := Imp.go hz38 (by omega))); omega))))) (by first | exact om_9592d9319ffa hn hz80 | first | omega | ((try (have i_xJ33_1 := Imp.go xJ33_1 (f61))); (try (have i_xJ33_0 := Imp.go xJ33_0 (f61))); (try (have i_xlp6_2 := Imp.go xlp6_2 (f13))); (try (have i_xlp6_1 := Imp.go xlp6_1 (f13))); (try (have i_x3 := Imp.go x3 (i_xlp6_1.2.2.1))); omega) | ((try (have i_hz38 := Imp.go hz38 (by omega))); (try (have i_xJ33_1 := Imp.go xJ33_1 (by omega))); (try (have i_xJ33_0 := Imp.go xJ33_0 (by omega))); (try (have i_xlp29_1 := Imp.go xlp29_1 (by omega))); first | omega | ((try (have i_hz25 := Imp.go hz25 (by omega))); (try (have i_t20 := Imp.go t20 (by omega))); (try (have i_t19 := Imp.go t19 (by omega))); (try (have i_t18 := Imp.go t18 (by omega))); first | omega | ((try (have i_xlp6_2 := Imp.go xlp6_2 (by omega))); (try (have i_xlp6_1 := Imp.go xlp6_1 (by omega))); (try (have i_x3 := Imp.go x3 (by omega))); (try (have i_x3 := Imp.go x3 (by omega))); (try (have i_xlp6_1 := Imp.go xlp6_1 (by omega))); (try (have i_xlp6_2 := Imp.go xlp6_2 (by omega))); (try (have i_t18 := Imp.go t18 (by omega))); (try (have i_t19 := Imp.go t19 (by omega))); first | omega | ((try (have i_t20 := Imp.go t20 (by omega))); (try (have i_hz25 := Imp.go hz25 (by omega))); (try (have i_xlp29_1 := Imp.go xlp29_1 (by omega))); (try (have i_xJ33_0 := Imp.go xJ33_0 (by omega))); (try (have i_xJ33_1 := Imp.go xJ33_1 (by omega))); (try (have i_hz38 := Imp.go hz38 (by omega))); omega))))) (agr.up (agr.tr agr.rf ajV65 (by decide) (by decide)) hV79 rfl) hMV79 hP hD hS (lv_sub hl [0, 1, 2, 3, 4, 5, 6] rfl)
                          · skip
                            have f81 : ((V65 15 (Int32.toNatClampNeg z75))).toInt = 0 := b_eq rfl (by decide) c77
                            refine lv_aload_n hx hb dX12_takeTypes_148 rfl (lv_at hl 4 rfl) ?_
                            refine va_get (D := D) (ci := 12) (v := .ref (ad 15)) (C := RX12) (T := TX12) (N := 100) hx hb hg inX12 hown hK hP 0 rfl rfl 15 (by decide) (hg _ w1721) (fun _ h9 => h9) rfl dX12_takeTypes_149 ?_
                            refine lv_bipush (v := 24) hx hb dX12_takeTypes_152 (by decide) ?_
                            refine lv_bipush (v := 24) hx hb dX12_takeTypes_154 (by decide) ?_
                            refine lv_aload_n hx hb dX12_takeTypes_156 rfl (lv_at hl 4 rfl) ?_
                            refine va_get (D := D) (ci := 12) (v := .int (V65 0 12)) (C := RX12) (T := TX12) (N := 100) hx hb hg inX12 hown hK hP 0 rfl rfl 12 (by decide) (hg _ w1718) (fun _ h9 => h9) rfl dX12_takeTypes_157 ?_
                            refine g_top (v := (V 0 12)) ((ajV65 0 12 rfl).trans ((up2_o hV62 (by decide)).trans ((up2_k hV39 (by decide)).trans ((ajV34 0 12 rfl).trans ((ajV28 0 12 rfl).trans ((up2_k hV26 (by decide)).trans ((ajV21 0 12 rfl).trans (ajV4 0 12 rfl)))))))) ?_
                            have r82 : 0 ≤ ((V 0 12)).toInt ∧ ((V 0 12)).toInt ≤ 1 := hMV 0 12
                            refine lv_imul hx hb dX12_takeTypes_160 ?_
                            refine lv_topi (fun z83 ez83 => ?_)
                            have hz83 : z83.toInt = 24 * ((V 0 12)).toInt := i_mul ez83 (by decide) rfl (by (first | exact om_3f8aba7b6ce1 r82.1 r82.2 | omega))
                            refine lv_iload hx hb dX12_takeTypes_161 (lv_at hl 2 rfl) ?_
                            refine lv_iadd hx hb dX12_takeTypes_163 ?_
                            refine lv_topi (fun z84 ez84 => ?_)
                            have hz84 : z84.toInt = z83.toInt + z15.toInt := i_add ez84 rfl rfl (by (first | exact om_8d240eec2b4e rgz15.1 rgz15.2 r82.1 r82.2 hz83 | omega))
                            refine lv_imul hx hb dX12_takeTypes_164 ?_
                            refine lv_topi (fun z85 ez85 => ?_)
                            have hz85 : z85.toInt = 24 * z84.toInt := i_mul ez85 (by decide) rfl (by (first | exact om_83e2d182027b rgz15.1 rgz15.2 r82.1 r82.2 hz83 hz84 | omega))
                            refine lv_iload hx hb dX12_takeTypes_165 (lv_at hl 0 rfl) ?_
                            refine lv_iadd hx hb dX12_takeTypes_167 ?_
                            refine lv_topi (fun z86 ez86 => ?_)
                            have hz86 : z86.toInt = z85.toInt + y64.toInt := i_add ez86 rfl rfl (by (first | exact om_5d38d92404c7 rgz15.1 rgz15.2 klp66_0.1 f71 r82.1 r82.2 hz83 hz84 hz85 | omega))
                            refine va_zald (D := D) (i := z86) hx hb hK hP 8 7 rfl rfl (i_in (a := z86.toInt) rfl (by first | exact om_961cc6f75ae7 rgz15.2 klp66_0.1 f71 r82.1 r82.2 hz83 hz84 hz85 hz86 ((Imp.go xJ33_1 (f61)).1) | first | omega | ((try (have i_xJ33_1 := Imp.go xJ33_1 (f61))); (try (have i_xJ33_0 := Imp.go xJ33_0 (f61))); (try (have i_xlp6_2 := Imp.go xlp6_2 (f13))); (try (have i_xlp6_1 := Imp.go xlp6_1 (f13))); (try (have i_x3 := Imp.go x3 (i_xlp6_1.2.2.1))); omega) | ((try (have i_hz38 := Imp.go hz38 (by omega))); (try (have i_xJ33_1 := Imp.go xJ33_1 (by omega))); (try (have i_xJ33_0 := Imp.go xJ33_0 (by omega))); (try (have i_xlp29_1 := Imp.go xlp29_1 (by omega))); first | omega | ((try (have i_hz25 := Imp.go hz25 (by omega))); (try (have i_t20 := Imp.go t20 (by omega))); (try (have i_t19 := Imp.go t19 (by omega))); (try (have i_t18 := Imp.go t18 (by omega))); first | omega | ((try (have i_xlp6_2 := Imp.go xlp6_2 (by omega))); (try (have i_xlp6_1 := Imp.go xlp6_1 (by omega))); (try (have i_x3 := Imp.go x3 (by omega))); (try (have i_x3 := Imp.go x3 (by omega))); (try (have i_xlp6_1 := Imp.go xlp6_1 (by omega))); (try (have i_xlp6_2 := Imp.go xlp6_2 (by omega))); (try (have i_t18 := Imp.go t18 (by omega))); (try (have i_t19 := Imp.go t19 (by omega))); first | omega | ((try (have i_t20 := Imp.go t20 (by omega))); (try (have i_hz25 := Imp.go hz25 (by omega))); (try (have i_xlp29_1 := Imp.go xlp29_1 (by omega))); (try (have i_xJ33_0 := Imp.go xJ33_0 (by omega))); (try (have i_xJ33_1 := Imp.go xJ33_1 (by omega))); (try (have i_hz38 := Imp.go hz38 (by omega))); omega)))))) dX12_takeTypes_168 ?_
                            have r87 : 0 ≤ ((V65 15 (Int32.toNatClampNeg z86))).toInt ∧ ((V65 15 (Int32.toNatClampNeg z86))).toInt ≤ 1 := hMV65 15 (Int32.toNatClampNeg z86)
                            refine lv_if_eq (tgt := 176) hx hb dX12_takeTypes_169 (by decide) (fun c88 => ?_) (fun c88 => ?_)
                            · skip
                              have f89 : ((V65 15 (Int32.toNatClampNeg z86))).toInt = 0 := b_eq rfl (by decide) c88
                              refine lv_iconst (v := 0) hx hb dX12_takeTypes_176 (by decide) ?_
                              refine va_zast (D := D) (i := z73) (x := 0) hx hb hK hP hD hS 8 7 rfl rfl (i_in (a := z73.toInt) rfl (by first | exact om_e21fd4bb223a rg_p1.1 rg_p1.2 klp66_0.1 f71 hz72 hz73 | first | omega | ((try (have i_xJ33_1 := Imp.go xJ33_1 (f61))); (try (have i_xJ33_0 := Imp.go xJ33_0 (f61))); (try (have i_xlp6_2 := Imp.go xlp6_2 (f13))); (try (have i_xlp6_1 := Imp.go xlp6_1 (f13))); (try (have i_x3 := Imp.go x3 (i_xlp6_1.2.2.1))); omega) | ((try (have i_hz38 := Imp.go hz38 (by omega))); (try (have i_xJ33_1 := Imp.go xJ33_1 (by omega))); (try (have i_xJ33_0 := Imp.go xJ33_0 (by omega))); (try (have i_xlp29_1 := Imp.go xlp29_1 (by omega))); first | omega | ((try (have i_hz25 := Imp.go hz25 (by omega))); (try (have i_t20 := Imp.go t20 (by omega))); (try (have i_t19 := Imp.go t19 (by omega))); (try (have i_t18 := Imp.go t18 (by omega))); first | omega | ((try (have i_xlp6_2 := Imp.go xlp6_2 (by omega))); (try (have i_xlp6_1 := Imp.go xlp6_1 (by omega))); (try (have i_x3 := Imp.go x3 (by omega))); (try (have i_x3 := Imp.go x3 (by omega))); (try (have i_xlp6_1 := Imp.go xlp6_1 (by omega))); (try (have i_xlp6_2 := Imp.go xlp6_2 (by omega))); (try (have i_t18 := Imp.go t18 (by omega))); (try (have i_t19 := Imp.go t19 (by omega))); first | omega | ((try (have i_t20 := Imp.go t20 (by omega))); (try (have i_hz25 := Imp.go hz25 (by omega))); (try (have i_xlp29_1 := Imp.go xlp29_1 (by omega))); (try (have i_xJ33_0 := Imp.go xJ33_0 (by omega))); (try (have i_xJ33_1 := Imp.go xJ33_1 (by omega))); (try (have i_hz38 := Imp.go hz38 (by omega))); omega)))))) dX12_takeTypes_177 (fun H locs hP hD hS => ?_)
                              obtain ⟨V90, hV90⟩ : ∃ z, z = up2 V65 15 (Int32.toNatClampNeg z73) (vp_nar .boolean 0) := ⟨_, rfl⟩
                              have hP : va_P D vwCl (mw ad kk ks.1 V90 L) H := by rw [hV90]; exact hP
                              have hD : va_D A (mw ad kk ks.1 V90 L) := by rw [hV90]; exact hD
                              have hMV90 : rgd bM V90 := hMV65.put hV90 (nar_b _)
                              have agV90 : agr [(0, 7), (0, 8)] [15, 53] V V90 := agV65.up hV90 rfl
                              obtain ⟨z91, ez91⟩ : ∃ y : Int32, y = y64 + 1 := ⟨_, rfl⟩
                              have hz91 : z91.toInt = y64.toInt + 1 := i_add ez91 rfl (by decide) (by (first | exact om_bc9106cf44c9 klp66_0.1 f71 | omega))
                              refine lv_iinc (v := z91) (lv' := [(6, .int z91), (3, .int z63), (5, .int z15), (4, .int y2), (0, .ref (ad 0)), (1, .ref (ad 15)), (2, .int p1)]) hx hb dX12_takeTypes_178 hl (k := 0) rfl (by rw [ez91]; rfl) (by decide) rfl (fun ls hl => ?_)
                              refine lv_goto (tgt := 121) hx hb dX12_takeTypes_181 (by decide) ?_
                              exact ihlp66 z91 V90 H locs ls (by first | exact om_a5349b170263 klp66_0.1 f71 hz91 | first | omega | ((try (have i_xJ33_1 := Imp.go xJ33_1 (f61))); (try (have i_xJ33_0 := Imp.go xJ33_0 (f61))); (try (have i_xlp6_2 := Imp.go xlp6_2 (f13))); (try (have i_xlp6_1 := Imp.go xlp6_1 (f13))); (try (have i_x3 := Imp.go x3 (i_xlp6_1.2.2.1))); omega) | ((try (have i_hz38 := Imp.go hz38 (by omega))); (try (have i_xJ33_1 := Imp.go xJ33_1 (by omega))); (try (have i_xJ33_0 := Imp.go xJ33_0 (by omega))); (try (have i_xlp29_1 := Imp.go xlp29_1 (by omega))); first | omega | ((try (have i_hz25 := Imp.go hz25 (by omega))); (try (have i_t20 := Imp.go t20 (by omega))); (try (have i_t19 := Imp.go t19 (by omega))); (try (have i_t18 := Imp.go t18 (by omega))); first | omega | ((try (have i_xlp6_2 := Imp.go xlp6_2 (by omega))); (try (have i_xlp6_1 := Imp.go xlp6_1 (by omega))); (try (have i_x3 := Imp.go x3 (by omega))); (try (have i_x3 := Imp.go x3 (by omega))); (try (have i_xlp6_1 := Imp.go xlp6_1 (by omega))); (try (have i_xlp6_2 := Imp.go xlp6_2 (by omega))); (try (have i_t18 := Imp.go t18 (by omega))); (try (have i_t19 := Imp.go t19 (by omega))); first | omega | ((try (have i_t20 := Imp.go t20 (by omega))); (try (have i_hz25 := Imp.go hz25 (by omega))); (try (have i_xlp29_1 := Imp.go xlp29_1 (by omega))); (try (have i_xJ33_0 := Imp.go xJ33_0 (by omega))); (try (have i_xJ33_1 := Imp.go xJ33_1 (by omega))); (try (have i_hz38 := Imp.go hz38 (by omega))); omega))))) (by first | exact om_9592d9319ffa hn hz91 | first | omega | ((try (have i_xJ33_1 := Imp.go xJ33_1 (f61))); (try (have i_xJ33_0 := Imp.go xJ33_0 (f61))); (try (have i_xlp6_2 := Imp.go xlp6_2 (f13))); (try (have i_xlp6_1 := Imp.go xlp6_1 (f13))); (try (have i_x3 := Imp.go x3 (i_xlp6_1.2.2.1))); omega) | ((try (have i_hz38 := Imp.go hz38 (by omega))); (try (have i_xJ33_1 := Imp.go xJ33_1 (by omega))); (try (have i_xJ33_0 := Imp.go xJ33_0 (by omega))); (try (have i_xlp29_1 := Imp.go xlp29_1 (by omega))); first | omega | ((try (have i_hz25 := Imp.go hz25 (by omega))); (try (have i_t20 := Imp.go t20 (by omega))); (try (have i_t19 := Imp.go t19 (by omega))); (try (have i_t18 := Imp.go t18 (by omega))); first | omega | ((try (have i_xlp6_2 := Imp.go xlp6_2 (by omega))); (try (have i_xlp6_1 := Imp.go xlp6_1 (by omega))); (try (have i_x3 := Imp.go x3 (by omega))); (try (have i_x3 := Imp.go x3 (by omega))); (try (have i_xlp6_1 := Imp.go xlp6_1 (by omega))); (try (have i_xlp6_2 := Imp.go xlp6_2 (by omega))); (try (have i_t18 := Imp.go t18 (by omega))); (try (have i_t19 := Imp.go t19 (by omega))); first | omega | ((try (have i_t20 := Imp.go t20 (by omega))); (try (have i_hz25 := Imp.go hz25 (by omega))); (try (have i_xlp29_1 := Imp.go xlp29_1 (by omega))); (try (have i_xJ33_0 := Imp.go xJ33_0 (by omega))); (try (have i_xJ33_1 := Imp.go xJ33_1 (by omega))); (try (have i_hz38 := Imp.go hz38 (by omega))); omega))))) (agr.up (agr.tr agr.rf ajV65 (by decide) (by decide)) hV90 rfl) hMV90 hP hD hS (lv_sub hl [0, 1, 2, 3, 4, 5, 6] rfl)
                            · skip
                              have f92 : ((V65 15 (Int32.toNatClampNeg z86))).toInt ≠ 0 := b_neq rfl (by decide) c88
                              refine lv_iconst (v := 1) hx hb dX12_takeTypes_172 (by decide) ?_
                              refine lv_goto (tgt := 177) hx hb dX12_takeTypes_173 (by decide) ?_
                              refine va_zast (D := D) (i := z73) (x := 1) hx hb hK hP hD hS 8 7 rfl rfl (i_in (a := z73.toInt) rfl (by first | exact om_e21fd4bb223a rg_p1.1 rg_p1.2 klp66_0.1 f71 hz72 hz73 | first | omega | ((try (have i_xJ33_1 := Imp.go xJ33_1 (f61))); (try (have i_xJ33_0 := Imp.go xJ33_0 (f61))); (try (have i_xlp6_2 := Imp.go xlp6_2 (f13))); (try (have i_xlp6_1 := Imp.go xlp6_1 (f13))); (try (have i_x3 := Imp.go x3 (i_xlp6_1.2.2.1))); omega) | ((try (have i_hz38 := Imp.go hz38 (by omega))); (try (have i_xJ33_1 := Imp.go xJ33_1 (by omega))); (try (have i_xJ33_0 := Imp.go xJ33_0 (by omega))); (try (have i_xlp29_1 := Imp.go xlp29_1 (by omega))); first | omega | ((try (have i_hz25 := Imp.go hz25 (by omega))); (try (have i_t20 := Imp.go t20 (by omega))); (try (have i_t19 := Imp.go t19 (by omega))); (try (have i_t18 := Imp.go t18 (by omega))); first | omega | ((try (have i_xlp6_2 := Imp.go xlp6_2 (by omega))); (try (have i_xlp6_1 := Imp.go xlp6_1 (by omega))); (try (have i_x3 := Imp.go x3 (by omega))); (try (have i_x3 := Imp.go x3 (by omega))); (try (have i_xlp6_1 := Imp.go xlp6_1 (by omega))); (try (have i_xlp6_2 := Imp.go xlp6_2 (by omega))); (try (have i_t18 := Imp.go t18 (by omega))); (try (have i_t19 := Imp.go t19 (by omega))); first | omega | ((try (have i_t20 := Imp.go t20 (by omega))); (try (have i_hz25 := Imp.go hz25 (by omega))); (try (have i_xlp29_1 := Imp.go xlp29_1 (by omega))); (try (have i_xJ33_0 := Imp.go xJ33_0 (by omega))); (try (have i_xJ33_1 := Imp.go xJ33_1 (by omega))); (try (have i_hz38 := Imp.go hz38 (by omega))); omega)))))) dX12_takeTypes_177 (fun H locs hP hD hS => ?_)
                              obtain ⟨V93, hV93⟩ : ∃ z, z = up2 V65 15 (Int32.toNatClampNeg z73) (vp_nar .boolean 1) := ⟨_, rfl⟩
                              have hP : va_P D vwCl (mw ad kk ks.1 V93 L) H := by rw [hV93]; exact hP
                              have hD : va_D A (mw ad kk ks.1 V93 L) := by rw [hV93]; exact hD
                              have hMV93 : rgd bM V93 := hMV65.put hV93 (nar_b _)
                              have agV93 : agr [(0, 7), (0, 8)] [15, 53] V V93 := agV65.up hV93 rfl
                              obtain ⟨z94, ez94⟩ : ∃ y : Int32, y = y64 + 1 := ⟨_, rfl⟩
                              have hz94 : z94.toInt = y64.toInt + 1 := i_add ez94 rfl (by decide) (by (first | exact om_bc9106cf44c9 klp66_0.1 f71 | omega))
                              refine lv_iinc (v := z94) (lv' := [(6, .int z94), (3, .int z63), (5, .int z15), (4, .int y2), (0, .ref (ad 0)), (1, .ref (ad 15)), (2, .int p1)]) hx hb dX12_takeTypes_178 hl (k := 0) rfl (by rw [ez94]; rfl) (by decide) rfl (fun ls hl => ?_)
                              refine lv_goto (tgt := 121) hx hb dX12_takeTypes_181 (by decide) ?_
                              exact ihlp66 z94 V93 H locs ls (by first | exact om_a5349b170263 klp66_0.1 f71 hz94 | first | omega | ((try (have i_xJ33_1 := Imp.go xJ33_1 (f61))); (try (have i_xJ33_0 := Imp.go xJ33_0 (f61))); (try (have i_xlp6_2 := Imp.go xlp6_2 (f13))); (try (have i_xlp6_1 := Imp.go xlp6_1 (f13))); (try (have i_x3 := Imp.go x3 (i_xlp6_1.2.2.1))); omega) | ((try (have i_hz38 := Imp.go hz38 (by omega))); (try (have i_xJ33_1 := Imp.go xJ33_1 (by omega))); (try (have i_xJ33_0 := Imp.go xJ33_0 (by omega))); (try (have i_xlp29_1 := Imp.go xlp29_1 (by omega))); first | omega | ((try (have i_hz25 := Imp.go hz25 (by omega))); (try (have i_t20 := Imp.go t20 (by omega))); (try (have i_t19 := Imp.go t19 (by omega))); (try (have i_t18 := Imp.go t18 (by omega))); first | omega | ((try (have i_xlp6_2 := Imp.go xlp6_2 (by omega))); (try (have i_xlp6_1 := Imp.go xlp6_1 (by omega))); (try (have i_x3 := Imp.go x3 (by omega))); (try (have i_x3 := Imp.go x3 (by omega))); (try (have i_xlp6_1 := Imp.go xlp6_1 (by omega))); (try (have i_xlp6_2 := Imp.go xlp6_2 (by omega))); (try (have i_t18 := Imp.go t18 (by omega))); (try (have i_t19 := Imp.go t19 (by omega))); first | omega | ((try (have i_t20 := Imp.go t20 (by omega))); (try (have i_hz25 := Imp.go hz25 (by omega))); (try (have i_xlp29_1 := Imp.go xlp29_1 (by omega))); (try (have i_xJ33_0 := Imp.go xJ33_0 (by omega))); (try (have i_xJ33_1 := Imp.go xJ33_1 (by omega))); (try (have i_hz38 := Imp.go hz38 (by omega))); omega))))) (by first | exact om_9592d9319ffa hn hz94 | first | omega | ((try (have i_xJ33_1 := Imp.go xJ33_1 (f61))); (try (have i_xJ33_0 := Imp.go xJ33_0 (f61))); (try (have i_xlp6_2 := Imp.go xlp6_2 (f13))); (try (have i_xlp6_1 := Imp.go xlp6_1 (f13))); (try (have i_x3 := Imp.go x3 (i_xlp6_1.2.2.1))); omega) | ((try (have i_hz38 := Imp.go hz38 (by omega))); (try (have i_xJ33_1 := Imp.go xJ33_1 (by omega))); (try (have i_xJ33_0 := Imp.go xJ33_0 (by omega))); (try (have i_xlp29_1 := Imp.go xlp29_1 (by omega))); first | omega | ((try (have i_hz25 := Imp.go hz25 (by omega))); (try (have i_t20 := Imp.go t20 (by omega))); (try (have i_t19 := Imp.go t19 (by omega))); (try (have i_t18 := Imp.go t18 (by omega))); first | omega | ((try (have i_xlp6_2 := Imp.go xlp6_2 (by omega))); (try (have i_xlp6_1 := Imp.go xlp6_1 (by omega))); (try (have i_x3 := Imp.go x3 (by omega))); (try (have i_x3 := Imp.go x3 (by omega))); (try (have i_xlp6_1 := Imp.go xlp6_1 (by omega))); (try (have i_xlp6_2 := Imp.go xlp6_2 (by omega))); (try (have i_t18 := Imp.go t18 (by omega))); (try (have i_t19 := Imp.go t19 (by omega))); first | omega | ((try (have i_t20 := Imp.go t20 (by omega))); (try (have i_hz25 := Imp.go hz25 (by omega))); (try (have i_xlp29_1 := Imp.go xlp29_1 (by omega))); (try (have i_xJ33_0 := Imp.go xJ33_0 (by omega))); (try (have i_xJ33_1 := Imp.go xJ33_1 (by omega))); (try (have i_hz38 := Imp.go hz38 (by omega))); omega))))) (agr.up (agr.tr agr.rf ajV65 (by decide) (by decide)) hV93 rfl) hMV93 hP hD hS (lv_sub hl [0, 1, 2, 3, 4, 5, 6] rfl)
                    have r95 : Int32.toInt 0 = 0 := by decide
                    exact lp66 ((24 - (Int32.toInt 0) + 1 : Int).toNat) 0 V62 H locs ls (by decide) (by first | exact om_817980d3aa47 | first | omega | ((try (have i_xJ33_1 := Imp.go xJ33_1 (f61))); (try (have i_xJ33_0 := Imp.go xJ33_0 (f61))); (try (have i_xlp6_2 := Imp.go xlp6_2 (f13))); (try (have i_xlp6_1 := Imp.go xlp6_1 (f13))); (try (have i_x3 := Imp.go x3 (i_xlp6_1.2.2.1))); omega) | ((try (have i_hz38 := Imp.go hz38 (by omega))); (try (have i_xJ33_1 := Imp.go xJ33_1 (by omega))); (try (have i_xJ33_0 := Imp.go xJ33_0 (by omega))); (try (have i_xlp29_1 := Imp.go xlp29_1 (by omega))); first | omega | ((try (have i_hz25 := Imp.go hz25 (by omega))); (try (have i_t20 := Imp.go t20 (by omega))); (try (have i_t19 := Imp.go t19 (by omega))); (try (have i_t18 := Imp.go t18 (by omega))); first | omega | ((try (have i_xlp6_2 := Imp.go xlp6_2 (by omega))); (try (have i_xlp6_1 := Imp.go xlp6_1 (by omega))); (try (have i_x3 := Imp.go x3 (by omega))); (try (have i_x3 := Imp.go x3 (by omega))); (try (have i_xlp6_1 := Imp.go xlp6_1 (by omega))); (try (have i_xlp6_2 := Imp.go xlp6_2 (by omega))); (try (have i_t18 := Imp.go t18 (by omega))); (try (have i_t19 := Imp.go t19 (by omega))); first | omega | ((try (have i_t20 := Imp.go t20 (by omega))); (try (have i_hz25 := Imp.go hz25 (by omega))); (try (have i_xlp29_1 := Imp.go xlp29_1 (by omega))); (try (have i_xJ33_0 := Imp.go xJ33_0 (by omega))); (try (have i_xJ33_1 := Imp.go xJ33_1 (by omega))); (try (have i_hz38 := Imp.go hz38 (by omega))); omega))))) agr.rf hMV62 hP hD hS (lv_sub hl [0, 1, 2, 3, 4, 5, 6] rfl)
                refine lv_if_ne (tgt := 90) hx hb dX12_takeTypes_76 (by decide) (fun c96 => ?_) (fun c96 => ?_)
                · skip
                  have f97 : ((V28 0 8)).toInt ≠ 0 := b_neq rfl (by decide) c96
                  exact J33 V28 H locs ls agr.rf hMV28 (Imp.mk (fun hp => have hp : (V28 0 8).toInt = 0 := hp; (show y3.toInt ≤ 5 from by first | omega | ((try (have i_xlp29_1 := Imp.go xlp29_1 (hp))); (try (have i_xlp6_2 := Imp.go xlp6_2 (f13))); (try (have i_xlp6_1 := Imp.go xlp6_1 (f13))); (try (have i_x3 := Imp.go x3 (i_xlp6_1.2.2.1))); omega) | ((try (have i_xlp29_1 := Imp.go xlp29_1 (by omega))); (try (have i_hz25 := Imp.go hz25 (by omega))); (try (have i_t20 := Imp.go t20 (by omega))); (try (have i_t19 := Imp.go t19 (by omega))); first | omega | ((try (have i_t18 := Imp.go t18 (by omega))); (try (have i_xlp6_2 := Imp.go xlp6_2 (by omega))); (try (have i_xlp6_1 := Imp.go xlp6_1 (by omega))); (try (have i_x3 := Imp.go x3 (by omega))); first | omega | ((try (have i_x3 := Imp.go x3 (by omega))); (try (have i_xlp6_1 := Imp.go xlp6_1 (by omega))); (try (have i_xlp6_2 := Imp.go xlp6_2 (by omega))); (try (have i_t18 := Imp.go t18 (by omega))); first | omega | ((try (have i_t19 := Imp.go t19 (by omega))); (try (have i_t20 := Imp.go t20 (by omega))); (try (have i_hz25 := Imp.go hz25 (by omega))); (try (have i_xlp29_1 := Imp.go xlp29_1 (by omega))); omega))))))) (Imp.mk (fun hp => have hp : (V28 0 8).toInt = 0 := hp; (show 0 ≤ z15.toInt ∧ 0 ≤ (V28 0 7).toInt ∧ (V28 0 7).toInt < n ∧ (V 0 8).toInt = 0 ∧ (V 0 7).toInt ≤ (V28 0 7).toInt from by first | omega | ((try (have i_xlp29_1 := Imp.go xlp29_1 (hp))); (try (have i_xlp6_2 := Imp.go xlp6_2 (f13))); (try (have i_xlp6_1 := Imp.go xlp6_1 (f13))); (try (have i_x3 := Imp.go x3 (i_xlp6_1.2.2.1))); omega) | ((try (have i_xlp29_1 := Imp.go xlp29_1 (by omega))); (try (have i_hz25 := Imp.go hz25 (by omega))); (try (have i_t20 := Imp.go t20 (by omega))); (try (have i_t19 := Imp.go t19 (by omega))); first | omega | ((try (have i_t18 := Imp.go t18 (by omega))); (try (have i_xlp6_2 := Imp.go xlp6_2 (by omega))); (try (have i_xlp6_1 := Imp.go xlp6_1 (by omega))); (try (have i_x3 := Imp.go x3 (by omega))); first | omega | ((try (have i_x3 := Imp.go x3 (by omega))); (try (have i_xlp6_1 := Imp.go xlp6_1 (by omega))); (try (have i_xlp6_2 := Imp.go xlp6_2 (by omega))); (try (have i_t18 := Imp.go t18 (by omega))); first | omega | ((try (have i_t19 := Imp.go t19 (by omega))); (try (have i_t20 := Imp.go t20 (by omega))); (try (have i_hz25 := Imp.go hz25 (by omega))); (try (have i_xlp29_1 := Imp.go xlp29_1 (by omega))); omega))))))) hP hD hS (lv_sub hl [0, 1, 2, 3, 4, 5, 6] rfl)
                · skip
                  have f98 : ((V28 0 8)).toInt = 0 := b_eq rfl (by decide) c96
                  refine lv_iload_n hx hb dX12_takeTypes_79 rfl (lv_at hl 3 rfl) ?_
                  refine lv_bipush (v := 6) hx hb dX12_takeTypes_80 (by decide) ?_
                  refine lv_icmp_ne (tgt := 90) hx hb dX12_takeTypes_82 (by decide) (fun c99 => ?_) (fun c99 => ?_)
                  · skip
                    have f100 : y3.toInt ≠ 6 := b_neq rfl (by decide) c99
                    exact J33 V28 H locs ls agr.rf hMV28 (Imp.mk (fun hp => have hp : (V28 0 8).toInt = 0 := hp; (show y3.toInt ≤ 5 from by first | exact om_9bc5f92d6b00 klp6_1.2 f100 | first | omega | ((try (have i_xlp29_1 := Imp.go xlp29_1 (hp))); (try (have i_xlp6_2 := Imp.go xlp6_2 (f13))); (try (have i_xlp6_1 := Imp.go xlp6_1 (f13))); (try (have i_x3 := Imp.go x3 (i_xlp6_1.2.2.1))); omega) | ((try (have i_xlp29_1 := Imp.go xlp29_1 (by omega))); (try (have i_hz25 := Imp.go hz25 (by omega))); (try (have i_t20 := Imp.go t20 (by omega))); (try (have i_t19 := Imp.go t19 (by omega))); first | omega | ((try (have i_t18 := Imp.go t18 (by omega))); (try (have i_xlp6_2 := Imp.go xlp6_2 (by omega))); (try (have i_xlp6_1 := Imp.go xlp6_1 (by omega))); (try (have i_x3 := Imp.go x3 (by omega))); first | omega | ((try (have i_x3 := Imp.go x3 (by omega))); (try (have i_xlp6_1 := Imp.go xlp6_1 (by omega))); (try (have i_xlp6_2 := Imp.go xlp6_2 (by omega))); (try (have i_t18 := Imp.go t18 (by omega))); first | omega | ((try (have i_t19 := Imp.go t19 (by omega))); (try (have i_t20 := Imp.go t20 (by omega))); (try (have i_hz25 := Imp.go hz25 (by omega))); (try (have i_xlp29_1 := Imp.go xlp29_1 (by omega))); omega))))))) (Imp.mk (fun hp => have hp : (V28 0 8).toInt = 0 := hp; (show 0 ≤ z15.toInt ∧ 0 ≤ (V28 0 7).toInt ∧ (V28 0 7).toInt < n ∧ (V 0 8).toInt = 0 ∧ (V 0 7).toInt ≤ (V28 0 7).toInt from by first | exact om_bb6c51413074 r1.1 ((Imp.go xlp6_1 (f13)).2.2.1) ((Imp.go xlp29_1 (hp)).1) ((Imp.go xlp29_1 (hp)).2.1) ((Imp.go xlp29_1 (hp)).2.2.1) ((Imp.go xlp29_1 (hp)).2.2.2.2) | first | omega | ((try (have i_xlp29_1 := Imp.go xlp29_1 (hp))); (try (have i_xlp6_2 := Imp.go xlp6_2 (f13))); (try (have i_xlp6_1 := Imp.go xlp6_1 (f13))); (try (have i_x3 := Imp.go x3 (i_xlp6_1.2.2.1))); omega) | ((try (have i_xlp29_1 := Imp.go xlp29_1 (by omega))); (try (have i_hz25 := Imp.go hz25 (by omega))); (try (have i_t20 := Imp.go t20 (by omega))); (try (have i_t19 := Imp.go t19 (by omega))); first | omega | ((try (have i_t18 := Imp.go t18 (by omega))); (try (have i_xlp6_2 := Imp.go xlp6_2 (by omega))); (try (have i_xlp6_1 := Imp.go xlp6_1 (by omega))); (try (have i_x3 := Imp.go x3 (by omega))); first | omega | ((try (have i_x3 := Imp.go x3 (by omega))); (try (have i_xlp6_1 := Imp.go xlp6_1 (by omega))); (try (have i_xlp6_2 := Imp.go xlp6_2 (by omega))); (try (have i_t18 := Imp.go t18 (by omega))); first | omega | ((try (have i_t19 := Imp.go t19 (by omega))); (try (have i_t20 := Imp.go t20 (by omega))); (try (have i_hz25 := Imp.go hz25 (by omega))); (try (have i_xlp29_1 := Imp.go xlp29_1 (by omega))); omega))))))) hP hD hS (lv_sub hl [0, 1, 2, 3, 4, 5, 6] rfl)
                  · skip
                    have f101 : y3.toInt = 6 := b_eq rfl (by decide) c99
                    refine lv_aload_n hx hb dX12_takeTypes_85 rfl (lv_at hl 4 rfl) ?_
                    refine lv_iconst (v := 5) hx hb dX12_takeTypes_86 (by decide) ?_
                    have r102 : Int32.toInt 5 = 5 := by decide
                    have pq103 : (V28 4 n).toInt = ((V 4 n)).toInt := congrArg Int32.toInt ((ajV28 4 n rfl).trans ((up2_o hV26 (by decide)).trans ((ajV21 4 n rfl).trans (ajV4 4 n rfl))))
                    refine gA_void (gA_runV (As := [.int 5]) (rest := []) (ci := 12) (q0 := 0) hx hb hml hown hg hP hD hK hS hA hnw hgk (s_wrong l D ks H.size ad kk V28 L 5 (n) hMV28 (by decide) (show (V28 4 (n)).toInt = 0 from by first | exact om_36161e850215 x1 pq103 | first | omega | ((try (have i_xlp29_1 := Imp.go xlp29_1 (f98))); (try (have i_xlp6_2 := Imp.go xlp6_2 (f13))); (try (have i_xlp6_1 := Imp.go xlp6_1 (f13))); (try (have i_x3 := Imp.go x3 (i_xlp6_1.2.2.1))); omega) | ((try (have i_xlp29_1 := Imp.go xlp29_1 (by omega))); (try (have i_hz25 := Imp.go hz25 (by omega))); (try (have i_t20 := Imp.go t20 (by omega))); (try (have i_t19 := Imp.go t19 (by omega))); first | omega | ((try (have i_t18 := Imp.go t18 (by omega))); (try (have i_xlp6_2 := Imp.go xlp6_2 (by omega))); (try (have i_xlp6_1 := Imp.go xlp6_1 (by omega))); (try (have i_x3 := Imp.go x3 (by omega))); first | omega | ((try (have i_x3 := Imp.go x3 (by omega))); (try (have i_xlp6_1 := Imp.go xlp6_1 (by omega))); (try (have i_xlp6_2 := Imp.go xlp6_2 (by omega))); (try (have i_t18 := Imp.go t18 (by omega))); first | omega | ((try (have i_t19 := Imp.go t19 (by omega))); (try (have i_t20 := Imp.go t20 (by omega))); (try (have i_hz25 := Imp.go hz25 (by omega))); (try (have i_xlp29_1 := Imp.go xlp29_1 (by omega))); omega))))) (show (n) ≤ 4000 from by first | exact om_af64e361c991 x2 | first | omega | ((try (have i_xlp29_1 := Imp.go xlp29_1 (f98))); (try (have i_xlp6_2 := Imp.go xlp6_2 (f13))); (try (have i_xlp6_1 := Imp.go xlp6_1 (f13))); (try (have i_x3 := Imp.go x3 (i_xlp6_1.2.2.1))); omega) | ((try (have i_xlp29_1 := Imp.go xlp29_1 (by omega))); (try (have i_hz25 := Imp.go hz25 (by omega))); (try (have i_t20 := Imp.go t20 (by omega))); (try (have i_t19 := Imp.go t19 (by omega))); first | omega | ((try (have i_t18 := Imp.go t18 (by omega))); (try (have i_xlp6_2 := Imp.go xlp6_2 (by omega))); (try (have i_xlp6_1 := Imp.go xlp6_1 (by omega))); (try (have i_x3 := Imp.go x3 (by omega))); first | omega | ((try (have i_x3 := Imp.go x3 (by omega))); (try (have i_xlp6_1 := Imp.go xlp6_1 (by omega))); (try (have i_xlp6_2 := Imp.go xlp6_2 (by omega))); (try (have i_t18 := Imp.go t18 (by omega))); first | omega | ((try (have i_t19 := Imp.go t19 (by omega))); (try (have i_t20 := Imp.go t20 (by omega))); (try (have i_hz25 := Imp.go hz25 (by omega))); (try (have i_xlp29_1 := Imp.go xlp29_1 (by omega))); omega))))) (Imp.mk (fun hp => have hp : (V28 0 8).toInt = 0 := hp; (show 0 ≤ (V28 0 7).toInt ∧ (V28 0 7).toInt ≤ (n) from by first | exact om_7a329117c856 ((Imp.go xlp29_1 (hp)).2.1) ((Imp.go xlp29_1 (hp)).2.2.1) | first | omega | ((try (have i_xlp29_1 := Imp.go xlp29_1 (hp))); (try (have i_xlp6_2 := Imp.go xlp6_2 (f13))); (try (have i_xlp6_1 := Imp.go xlp6_1 (f13))); (try (have i_x3 := Imp.go x3 (i_xlp6_1.2.2.1))); omega) | ((try (have i_xlp29_1 := Imp.go xlp29_1 (by omega))); (try (have i_hz25 := Imp.go hz25 (by omega))); (try (have i_t20 := Imp.go t20 (by omega))); (try (have i_t19 := Imp.go t19 (by omega))); first | omega | ((try (have i_t18 := Imp.go t18 (by omega))); (try (have i_xlp6_2 := Imp.go xlp6_2 (by omega))); (try (have i_xlp6_1 := Imp.go xlp6_1 (by omega))); (try (have i_x3 := Imp.go x3 (by omega))); first | omega | ((try (have i_x3 := Imp.go x3 (by omega))); (try (have i_xlp6_1 := Imp.go xlp6_1 (by omega))); (try (have i_xlp6_2 := Imp.go xlp6_2 (by omega))); (try (have i_t18 := Imp.go t18 (by omega))); first | omega | ((try (have i_t19 := Imp.go t19 (by omega))); (try (have i_t20 := Imp.go t20 (by omega))); (try (have i_hz25 := Imp.go hz25 (by omega))); (try (have i_xlp29_1 := Imp.go xlp29_1 (by omega))); omega)))))))) w2035 w2037 w86 w172 w2038 rfl rfl hdV_yX12_wrong ⟨Nat.le_of_ble_eq_true rfl, Nat.le_of_ble_eq_true rfl⟩ rfl hl.1 rfl (Nat.le_of_ble_eq_true rfl) dX12_takeTypes_87 ⟨Nat.le_of_ble_eq_true rfl, Nat.le_of_ble_eq_true rfl⟩) hP hD hK hS hA (fun u105 H locs w106 hP hD hK hS => ?_)
                    obtain ⟨V108, L109⟩ := u105
                    obtain ⟨hMV108, ajV108, axL109, t107⟩ := w106
                    have axL109 : L = L109 := Eq.symm axL109
                    subst axL109
                    replace hP : va_P D vwCl (mw ad kk ks.1 V108 L) H := hP
                    replace hD : va_D A (mw ad kk ks.1 V108 L) := hD
                    replace hMV108 : rgd bM V108 := hMV108
                    replace ajV108 : agr [(0, 8)] [] V28 V108 := ajV108
                    have agV108 : agr [(0, 7), (0, 8)] [15, 53] V V108 := agV28.tr ajV108 (by decide) (by decide)
                    replace t107 : 1 ≤ (V108 0 8).toInt := t107
                    have r110 : 0 ≤ ((V108 0 8)).toInt ∧ ((V108 0 8)).toInt ≤ 70000 := hMV108 0 8
                    have pq111 : (V108 0 7).toInt = z25.toInt := congrArg Int32.toInt ((ajV108 0 7 rfl).trans ((ajV28 0 7 rfl).trans (up2_s hV26)))
                    exact J33 V108 H locs ls (agr.tr agr.rf ajV108 (by decide) (by decide)) hMV108 (Imp.mk (fun hp => have hp : (V108 0 8).toInt = 0 := hp; (show y3.toInt ≤ 5 from by first | omega | ((try (have i_xlp29_1 := Imp.go xlp29_1 (f98))); (try (have i_xlp6_2 := Imp.go xlp6_2 (f13))); (try (have i_xlp6_1 := Imp.go xlp6_1 (f13))); (try (have i_x3 := Imp.go x3 (i_xlp6_1.2.2.1))); omega) | ((try (have i_xlp29_1 := Imp.go xlp29_1 (by omega))); (try (have i_hz25 := Imp.go hz25 (by omega))); (try (have i_t20 := Imp.go t20 (by omega))); (try (have i_t19 := Imp.go t19 (by omega))); first | omega | ((try (have i_t18 := Imp.go t18 (by omega))); (try (have i_xlp6_2 := Imp.go xlp6_2 (by omega))); (try (have i_xlp6_1 := Imp.go xlp6_1 (by omega))); (try (have i_x3 := Imp.go x3 (by omega))); first | omega | ((try (have i_x3 := Imp.go x3 (by omega))); (try (have i_xlp6_1 := Imp.go xlp6_1 (by omega))); (try (have i_xlp6_2 := Imp.go xlp6_2 (by omega))); (try (have i_t18 := Imp.go t18 (by omega))); first | omega | ((try (have i_t19 := Imp.go t19 (by omega))); (try (have i_t20 := Imp.go t20 (by omega))); (try (have i_hz25 := Imp.go hz25 (by omega))); (try (have i_xlp29_1 := Imp.go xlp29_1 (by omega))); omega))))))) (Imp.mk (fun hp => have hp : (V108 0 8).toInt = 0 := hp; (show 0 ≤ z15.toInt ∧ 0 ≤ (V108 0 7).toInt ∧ (V108 0 7).toInt < n ∧ (V 0 8).toInt = 0 ∧ (V 0 7).toInt ≤ (V108 0 7).toInt from by first | omega | ((try (have i_xlp29_1 := Imp.go xlp29_1 (f98))); (try (have i_xlp6_2 := Imp.go xlp6_2 (f13))); (try (have i_xlp6_1 := Imp.go xlp6_1 (f13))); (try (have i_x3 := Imp.go x3 (i_xlp6_1.2.2.1))); omega) | ((try (have i_xlp29_1 := Imp.go xlp29_1 (by omega))); (try (have i_hz25 := Imp.go hz25 (by omega))); (try (have i_t20 := Imp.go t20 (by omega))); (try (have i_t19 := Imp.go t19 (by omega))); first | omega | ((try (have i_t18 := Imp.go t18 (by omega))); (try (have i_xlp6_2 := Imp.go xlp6_2 (by omega))); (try (have i_xlp6_1 := Imp.go xlp6_1 (by omega))); (try (have i_x3 := Imp.go x3 (by omega))); first | omega | ((try (have i_x3 := Imp.go x3 (by omega))); (try (have i_xlp6_1 := Imp.go xlp6_1 (by omega))); (try (have i_xlp6_2 := Imp.go xlp6_2 (by omega))); (try (have i_t18 := Imp.go t18 (by omega))); first | omega | ((try (have i_t19 := Imp.go t19 (by omega))); (try (have i_t20 := Imp.go t20 (by omega))); (try (have i_hz25 := Imp.go hz25 (by omega))); (try (have i_xlp29_1 := Imp.go xlp29_1 (by omega))); omega))))))) hP hD hS (lv_sub hl [0, 1, 2, 3, 4, 5, 6] rfl)
              refine lv_icmp_ge (tgt := 72) hx hb dX12_takeTypes_39 (by decide) (fun c112 => ?_) (fun c112 => ?_)
              · skip
                have f113 : y3.toInt ≤ y27.toInt := b_le rfl rfl c112
                exact J32  H locs ls  hP hD hS (lv_sub hl [0, 1, 2, 3, 4, 5, 6] rfl)
              · skip
                have f114 : y27.toInt < y3.toInt := b_nle rfl rfl c112
                refine lv_aload_n hx hb dX12_takeTypes_42 rfl (lv_at hl 4 rfl) ?_
                refine va_get (D := D) (ci := 12) (v := .int (V28 0 8)) (C := RX12) (T := TX12) (N := 100) hx hb hg inX12 hown hK hP 0 rfl rfl 8 (by decide) (hg _ w1714) (fun _ h9 => h9) rfl dX12_takeTypes_43 ?_
                refine lv_if_ne (tgt := 72) hx hb dX12_takeTypes_46 (by decide) (fun c115 => ?_) (fun c115 => ?_)
                · skip
                  have f116 : ((V28 0 8)).toInt ≠ 0 := b_neq rfl (by decide) c115
                  exact J32  H locs ls  hP hD hS (lv_sub hl [0, 1, 2, 3, 4, 5, 6] rfl)
                · skip
                  have f117 : ((V28 0 8)).toInt = 0 := b_eq rfl (by decide) c115
                  refine lv_aload_n hx hb dX12_takeTypes_49 rfl (lv_at hl 4 rfl) ?_
                  refine va_get (D := D) (ci := 12) (v := .ref (ad 53)) (C := RX12) (T := TX12) (N := 100) hx hb hg inX12 hown hK hP 0 rfl rfl 53 (by decide) (hg _ w1759) (fun _ h9 => h9) rfl dX12_takeTypes_50 ?_
                  refine lv_iload hx hb dX12_takeTypes_53 (lv_at hl 0 rfl) ?_
                  refine va_iald (D := D) (i := y27) hx hb hK hP 41 40 rfl rfl (i_in (a := y27.toInt) rfl (by first | exact om_d031f10f3d19 klp6_1.2 klp29_0.1 f114 | first | omega | ((try (have i_xlp29_1 := Imp.go xlp29_1 (f117))); (try (have i_xlp6_2 := Imp.go xlp6_2 (f13))); (try (have i_xlp6_1 := Imp.go xlp6_1 (f13))); (try (have i_x3 := Imp.go x3 (i_xlp6_1.2.2.1))); omega) | ((try (have i_xlp29_1 := Imp.go xlp29_1 (by omega))); (try (have i_hz25 := Imp.go hz25 (by omega))); (try (have i_t20 := Imp.go t20 (by omega))); (try (have i_t19 := Imp.go t19 (by omega))); first | omega | ((try (have i_t18 := Imp.go t18 (by omega))); (try (have i_xlp6_2 := Imp.go xlp6_2 (by omega))); (try (have i_xlp6_1 := Imp.go xlp6_1 (by omega))); (try (have i_x3 := Imp.go x3 (by omega))); first | omega | ((try (have i_x3 := Imp.go x3 (by omega))); (try (have i_xlp6_1 := Imp.go xlp6_1 (by omega))); (try (have i_xlp6_2 := Imp.go xlp6_2 (by omega))); (try (have i_t18 := Imp.go t18 (by omega))); first | omega | ((try (have i_t19 := Imp.go t19 (by omega))); (try (have i_t20 := Imp.go t20 (by omega))); (try (have i_hz25 := Imp.go hz25 (by omega))); (try (have i_xlp29_1 := Imp.go xlp29_1 (by omega))); omega)))))) dX12_takeTypes_55 ?_
                  refine g_top (v := (V4 53 (Int32.toNatClampNeg y27))) ((ajV28 53 (Int32.toNatClampNeg y27) rfl).trans ((up2_o hV26 (by decide)).trans (ajV21 53 (Int32.toNatClampNeg y27) rfl))) ?_
                  have r118 : (-1) ≤ ((V4 53 (Int32.toNatClampNeg y27))).toInt ∧ ((V4 53 (Int32.toNatClampNeg y27))).toInt ≤ 23 := hMV4 53 (Int32.toNatClampNeg y27)
                  refine lv_iload hx hb dX12_takeTypes_56 (lv_at hl 1 rfl) ?_
                  refine lv_icmp_ne (tgt := 66) hx hb dX12_takeTypes_58 (by decide) (fun c119 => ?_) (fun c119 => ?_)
                  · skip
                    have f120 : ((V4 53 (Int32.toNatClampNeg y27))).toInt ≠ z15.toInt := b_neq rfl rfl c119
                    obtain ⟨z121, ez121⟩ : ∃ y : Int32, y = y27 + 1 := ⟨_, rfl⟩
                    have hz121 : z121.toInt = y27.toInt + 1 := i_add ez121 rfl (by decide) (by (first | exact om_65d898249a5b klp6_1.2 klp29_0.1 f114 | omega))
                    refine lv_iinc (v := z121) (lv' := [(6, .int z121), (5, .int z15), (4, .int y2), (3, .int y3), (0, .ref (ad 0)), (1, .ref (ad 15)), (2, .int p1)]) hx hb dX12_takeTypes_66 hl (k := 0) rfl (by rw [ez121]; rfl) (by decide) rfl (fun ls hl => ?_)
                    refine lv_goto (tgt := 36) hx hb dX12_takeTypes_69 (by decide) ?_
                    exact ihlp29 z121 V28 H locs ls (by first | exact om_d043005af2aa klp6_1.2 klp29_0.1 f114 hz121 | first | omega | ((try (have i_xlp29_1 := Imp.go xlp29_1 (f117))); (try (have i_xlp6_2 := Imp.go xlp6_2 (f13))); (try (have i_xlp6_1 := Imp.go xlp6_1 (f13))); (try (have i_x3 := Imp.go x3 (i_xlp6_1.2.2.1))); omega) | ((try (have i_xlp29_1 := Imp.go xlp29_1 (by omega))); (try (have i_hz25 := Imp.go hz25 (by omega))); (try (have i_t20 := Imp.go t20 (by omega))); (try (have i_t19 := Imp.go t19 (by omega))); first | omega | ((try (have i_t18 := Imp.go t18 (by omega))); (try (have i_xlp6_2 := Imp.go xlp6_2 (by omega))); (try (have i_xlp6_1 := Imp.go xlp6_1 (by omega))); (try (have i_x3 := Imp.go x3 (by omega))); first | omega | ((try (have i_x3 := Imp.go x3 (by omega))); (try (have i_xlp6_1 := Imp.go xlp6_1 (by omega))); (try (have i_xlp6_2 := Imp.go xlp6_2 (by omega))); (try (have i_t18 := Imp.go t18 (by omega))); first | omega | ((try (have i_t19 := Imp.go t19 (by omega))); (try (have i_t20 := Imp.go t20 (by omega))); (try (have i_hz25 := Imp.go hz25 (by omega))); (try (have i_xlp29_1 := Imp.go xlp29_1 (by omega))); omega))))) (show z121.toInt ≤ y3.toInt from by first | exact om_7fe9249fc074 f114 hz121 | first | omega | ((try (have i_xlp29_1 := Imp.go xlp29_1 (f117))); (try (have i_xlp6_2 := Imp.go xlp6_2 (f13))); (try (have i_xlp6_1 := Imp.go xlp6_1 (f13))); (try (have i_x3 := Imp.go x3 (i_xlp6_1.2.2.1))); omega) | ((try (have i_xlp29_1 := Imp.go xlp29_1 (by omega))); (try (have i_hz25 := Imp.go hz25 (by omega))); (try (have i_t20 := Imp.go t20 (by omega))); (try (have i_t19 := Imp.go t19 (by omega))); first | omega | ((try (have i_t18 := Imp.go t18 (by omega))); (try (have i_xlp6_2 := Imp.go xlp6_2 (by omega))); (try (have i_xlp6_1 := Imp.go xlp6_1 (by omega))); (try (have i_x3 := Imp.go x3 (by omega))); first | omega | ((try (have i_x3 := Imp.go x3 (by omega))); (try (have i_xlp6_1 := Imp.go xlp6_1 (by omega))); (try (have i_xlp6_2 := Imp.go xlp6_2 (by omega))); (try (have i_t18 := Imp.go t18 (by omega))); first | omega | ((try (have i_t19 := Imp.go t19 (by omega))); (try (have i_t20 := Imp.go t20 (by omega))); (try (have i_hz25 := Imp.go hz25 (by omega))); (try (have i_xlp29_1 := Imp.go xlp29_1 (by omega))); omega))))) (Imp.mk (fun hp => have hp : (V28 0 8).toInt = 0 := hp; (show 0 ≤ z15.toInt ∧ 0 ≤ (V28 0 7).toInt ∧ (V28 0 7).toInt < n ∧ (V 0 8).toInt = 0 ∧ (V 0 7).toInt ≤ (V28 0 7).toInt from by first | exact om_bb6c51413074 r1.1 ((Imp.go xlp6_1 (f13)).2.2.1) ((Imp.go xlp29_1 (hp)).1) ((Imp.go xlp29_1 (hp)).2.1) ((Imp.go xlp29_1 (hp)).2.2.1) ((Imp.go xlp29_1 (hp)).2.2.2.2) | first | omega | ((try (have i_xlp29_1 := Imp.go xlp29_1 (hp))); (try (have i_xlp6_2 := Imp.go xlp6_2 (f13))); (try (have i_xlp6_1 := Imp.go xlp6_1 (f13))); (try (have i_x3 := Imp.go x3 (i_xlp6_1.2.2.1))); omega) | ((try (have i_xlp29_1 := Imp.go xlp29_1 (by omega))); (try (have i_hz25 := Imp.go hz25 (by omega))); (try (have i_t20 := Imp.go t20 (by omega))); (try (have i_t19 := Imp.go t19 (by omega))); first | omega | ((try (have i_t18 := Imp.go t18 (by omega))); (try (have i_xlp6_2 := Imp.go xlp6_2 (by omega))); (try (have i_xlp6_1 := Imp.go xlp6_1 (by omega))); (try (have i_x3 := Imp.go x3 (by omega))); first | omega | ((try (have i_x3 := Imp.go x3 (by omega))); (try (have i_xlp6_1 := Imp.go xlp6_1 (by omega))); (try (have i_xlp6_2 := Imp.go xlp6_2 (by omega))); (try (have i_t18 := Imp.go t18 (by omega))); first | omega | ((try (have i_t19 := Imp.go t19 (by omega))); (try (have i_t20 := Imp.go t20 (by omega))); (try (have i_hz25 := Imp.go hz25 (by omega))); (try (have i_xlp29_1 := Imp.go xlp29_1 (by omega))); omega))))))) (by first | exact om_9e7d2b874257 hn hz121 | first | omega | ((try (have i_xlp29_1 := Imp.go xlp29_1 (f117))); (try (have i_xlp6_2 := Imp.go xlp6_2 (f13))); (try (have i_xlp6_1 := Imp.go xlp6_1 (f13))); (try (have i_x3 := Imp.go x3 (i_xlp6_1.2.2.1))); omega) | ((try (have i_xlp29_1 := Imp.go xlp29_1 (by omega))); (try (have i_hz25 := Imp.go hz25 (by omega))); (try (have i_t20 := Imp.go t20 (by omega))); (try (have i_t19 := Imp.go t19 (by omega))); first | omega | ((try (have i_t18 := Imp.go t18 (by omega))); (try (have i_xlp6_2 := Imp.go xlp6_2 (by omega))); (try (have i_xlp6_1 := Imp.go xlp6_1 (by omega))); (try (have i_x3 := Imp.go x3 (by omega))); first | omega | ((try (have i_x3 := Imp.go x3 (by omega))); (try (have i_xlp6_1 := Imp.go xlp6_1 (by omega))); (try (have i_xlp6_2 := Imp.go xlp6_2 (by omega))); (try (have i_t18 := Imp.go t18 (by omega))); first | omega | ((try (have i_t19 := Imp.go t19 (by omega))); (try (have i_t20 := Imp.go t20 (by omega))); (try (have i_hz25 := Imp.go hz25 (by omega))); (try (have i_xlp29_1 := Imp.go xlp29_1 (by omega))); omega))))) (agr.tr agr.rf ajV28 (by decide) (by decide)) hMV28 hP hD hS (lv_sub hl [0, 1, 2, 3, 4, 5, 6] rfl)
                  · skip
                    have f122 : ((V4 53 (Int32.toNatClampNeg y27))).toInt = z15.toInt := b_eq rfl rfl c119
                    refine lv_aload_n hx hb dX12_takeTypes_61 rfl (lv_at hl 4 rfl) ?_
                    refine lv_iconst (v := 3) hx hb dX12_takeTypes_62 (by decide) ?_
                    have r123 : Int32.toInt 3 = 3 := by decide
                    have pq124 : (V28 4 n).toInt = ((V 4 n)).toInt := congrArg Int32.toInt ((ajV28 4 n rfl).trans ((up2_o hV26 (by decide)).trans ((ajV21 4 n rfl).trans (ajV4 4 n rfl))))
                    refine gA_void (gA_runV (As := [.int 3]) (rest := []) (ci := 12) (q0 := 0) hx hb hml hown hg hP hD hK hS hA hnw hgk (s_wrong l D ks H.size ad kk V28 L 3 (n) hMV28 (by decide) (show (V28 4 (n)).toInt = 0 from by first | exact om_36161e850215 x1 pq124 | first | omega | ((try (have i_xlp29_1 := Imp.go xlp29_1 (f117))); (try (have i_xlp6_2 := Imp.go xlp6_2 (f13))); (try (have i_xlp6_1 := Imp.go xlp6_1 (f13))); (try (have i_x3 := Imp.go x3 (i_xlp6_1.2.2.1))); omega) | ((try (have i_xlp29_1 := Imp.go xlp29_1 (by omega))); (try (have i_hz25 := Imp.go hz25 (by omega))); (try (have i_t20 := Imp.go t20 (by omega))); (try (have i_t19 := Imp.go t19 (by omega))); first | omega | ((try (have i_t18 := Imp.go t18 (by omega))); (try (have i_xlp6_2 := Imp.go xlp6_2 (by omega))); (try (have i_xlp6_1 := Imp.go xlp6_1 (by omega))); (try (have i_x3 := Imp.go x3 (by omega))); first | omega | ((try (have i_x3 := Imp.go x3 (by omega))); (try (have i_xlp6_1 := Imp.go xlp6_1 (by omega))); (try (have i_xlp6_2 := Imp.go xlp6_2 (by omega))); (try (have i_t18 := Imp.go t18 (by omega))); first | omega | ((try (have i_t19 := Imp.go t19 (by omega))); (try (have i_t20 := Imp.go t20 (by omega))); (try (have i_hz25 := Imp.go hz25 (by omega))); (try (have i_xlp29_1 := Imp.go xlp29_1 (by omega))); omega))))) (show (n) ≤ 4000 from by first | exact om_af64e361c991 x2 | first | omega | ((try (have i_xlp29_1 := Imp.go xlp29_1 (f117))); (try (have i_xlp6_2 := Imp.go xlp6_2 (f13))); (try (have i_xlp6_1 := Imp.go xlp6_1 (f13))); (try (have i_x3 := Imp.go x3 (i_xlp6_1.2.2.1))); omega) | ((try (have i_xlp29_1 := Imp.go xlp29_1 (by omega))); (try (have i_hz25 := Imp.go hz25 (by omega))); (try (have i_t20 := Imp.go t20 (by omega))); (try (have i_t19 := Imp.go t19 (by omega))); first | omega | ((try (have i_t18 := Imp.go t18 (by omega))); (try (have i_xlp6_2 := Imp.go xlp6_2 (by omega))); (try (have i_xlp6_1 := Imp.go xlp6_1 (by omega))); (try (have i_x3 := Imp.go x3 (by omega))); first | omega | ((try (have i_x3 := Imp.go x3 (by omega))); (try (have i_xlp6_1 := Imp.go xlp6_1 (by omega))); (try (have i_xlp6_2 := Imp.go xlp6_2 (by omega))); (try (have i_t18 := Imp.go t18 (by omega))); first | omega | ((try (have i_t19 := Imp.go t19 (by omega))); (try (have i_t20 := Imp.go t20 (by omega))); (try (have i_hz25 := Imp.go hz25 (by omega))); (try (have i_xlp29_1 := Imp.go xlp29_1 (by omega))); omega))))) (Imp.mk (fun hp => have hp : (V28 0 8).toInt = 0 := hp; (show 0 ≤ (V28 0 7).toInt ∧ (V28 0 7).toInt ≤ (n) from by first | exact om_7a329117c856 ((Imp.go xlp29_1 (hp)).2.1) ((Imp.go xlp29_1 (hp)).2.2.1) | first | omega | ((try (have i_xlp29_1 := Imp.go xlp29_1 (hp))); (try (have i_xlp6_2 := Imp.go xlp6_2 (f13))); (try (have i_xlp6_1 := Imp.go xlp6_1 (f13))); (try (have i_x3 := Imp.go x3 (i_xlp6_1.2.2.1))); omega) | ((try (have i_xlp29_1 := Imp.go xlp29_1 (by omega))); (try (have i_hz25 := Imp.go hz25 (by omega))); (try (have i_t20 := Imp.go t20 (by omega))); (try (have i_t19 := Imp.go t19 (by omega))); first | omega | ((try (have i_t18 := Imp.go t18 (by omega))); (try (have i_xlp6_2 := Imp.go xlp6_2 (by omega))); (try (have i_xlp6_1 := Imp.go xlp6_1 (by omega))); (try (have i_x3 := Imp.go x3 (by omega))); first | omega | ((try (have i_x3 := Imp.go x3 (by omega))); (try (have i_xlp6_1 := Imp.go xlp6_1 (by omega))); (try (have i_xlp6_2 := Imp.go xlp6_2 (by omega))); (try (have i_t18 := Imp.go t18 (by omega))); first | omega | ((try (have i_t19 := Imp.go t19 (by omega))); (try (have i_t20 := Imp.go t20 (by omega))); (try (have i_hz25 := Imp.go hz25 (by omega))); (try (have i_xlp29_1 := Imp.go xlp29_1 (by omega))); omega)))))))) w2035 w2037 w86 w172 w2038 rfl rfl hdV_yX12_wrong ⟨Nat.le_of_ble_eq_true rfl, Nat.le_of_ble_eq_true rfl⟩ rfl hl.1 rfl (Nat.le_of_ble_eq_true rfl) dX12_takeTypes_63 ⟨Nat.le_of_ble_eq_true rfl, Nat.le_of_ble_eq_true rfl⟩) hP hD hK hS hA (fun u126 H locs w127 hP hD hK hS => ?_)
                    obtain ⟨V129, L130⟩ := u126
                    obtain ⟨hMV129, ajV129, axL130, t128⟩ := w127
                    have axL130 : L = L130 := Eq.symm axL130
                    subst axL130
                    replace hP : va_P D vwCl (mw ad kk ks.1 V129 L) H := hP
                    replace hD : va_D A (mw ad kk ks.1 V129 L) := hD
                    replace hMV129 : rgd bM V129 := hMV129
                    replace ajV129 : agr [(0, 8)] [] V28 V129 := ajV129
                    have agV129 : agr [(0, 7), (0, 8)] [15, 53] V V129 := agV28.tr ajV129 (by decide) (by decide)
                    replace t128 : 1 ≤ (V129 0 8).toInt := t128
                    have r131 : 0 ≤ ((V129 0 8)).toInt ∧ ((V129 0 8)).toInt ≤ 70000 := hMV129 0 8
                    obtain ⟨z132, ez132⟩ : ∃ y : Int32, y = y27 + 1 := ⟨_, rfl⟩
                    have hz132 : z132.toInt = y27.toInt + 1 := i_add ez132 rfl (by decide) (by (first | exact om_65d898249a5b klp6_1.2 klp29_0.1 f114 | omega))
                    refine lv_iinc (v := z132) (lv' := [(6, .int z132), (5, .int z15), (4, .int y2), (3, .int y3), (0, .ref (ad 0)), (1, .ref (ad 15)), (2, .int p1)]) hx hb dX12_takeTypes_66 hl (k := 0) rfl (by rw [ez132]; rfl) (by decide) rfl (fun ls hl => ?_)
                    refine lv_goto (tgt := 36) hx hb dX12_takeTypes_69 (by decide) ?_
                    have pq133 : (V129 0 7).toInt = z25.toInt := congrArg Int32.toInt ((ajV129 0 7 rfl).trans ((ajV28 0 7 rfl).trans (up2_s hV26)))
                    exact ihlp29 z132 V129 H locs ls (by first | exact om_d043005af2aa klp6_1.2 klp29_0.1 f114 hz132 | first | omega | ((try (have i_xlp29_1 := Imp.go xlp29_1 (f117))); (try (have i_xlp6_2 := Imp.go xlp6_2 (f13))); (try (have i_xlp6_1 := Imp.go xlp6_1 (f13))); (try (have i_x3 := Imp.go x3 (i_xlp6_1.2.2.1))); omega) | ((try (have i_xlp29_1 := Imp.go xlp29_1 (by omega))); (try (have i_hz25 := Imp.go hz25 (by omega))); (try (have i_t20 := Imp.go t20 (by omega))); (try (have i_t19 := Imp.go t19 (by omega))); first | omega | ((try (have i_t18 := Imp.go t18 (by omega))); (try (have i_xlp6_2 := Imp.go xlp6_2 (by omega))); (try (have i_xlp6_1 := Imp.go xlp6_1 (by omega))); (try (have i_x3 := Imp.go x3 (by omega))); first | omega | ((try (have i_x3 := Imp.go x3 (by omega))); (try (have i_xlp6_1 := Imp.go xlp6_1 (by omega))); (try (have i_xlp6_2 := Imp.go xlp6_2 (by omega))); (try (have i_t18 := Imp.go t18 (by omega))); first | omega | ((try (have i_t19 := Imp.go t19 (by omega))); (try (have i_t20 := Imp.go t20 (by omega))); (try (have i_hz25 := Imp.go hz25 (by omega))); (try (have i_xlp29_1 := Imp.go xlp29_1 (by omega))); omega))))) (show z132.toInt ≤ y3.toInt from by first | exact om_7fe9249fc074 f114 hz132 | first | omega | ((try (have i_xlp29_1 := Imp.go xlp29_1 (f117))); (try (have i_xlp6_2 := Imp.go xlp6_2 (f13))); (try (have i_xlp6_1 := Imp.go xlp6_1 (f13))); (try (have i_x3 := Imp.go x3 (i_xlp6_1.2.2.1))); omega) | ((try (have i_xlp29_1 := Imp.go xlp29_1 (by omega))); (try (have i_hz25 := Imp.go hz25 (by omega))); (try (have i_t20 := Imp.go t20 (by omega))); (try (have i_t19 := Imp.go t19 (by omega))); first | omega | ((try (have i_t18 := Imp.go t18 (by omega))); (try (have i_xlp6_2 := Imp.go xlp6_2 (by omega))); (try (have i_xlp6_1 := Imp.go xlp6_1 (by omega))); (try (have i_x3 := Imp.go x3 (by omega))); first | omega | ((try (have i_x3 := Imp.go x3 (by omega))); (try (have i_xlp6_1 := Imp.go xlp6_1 (by omega))); (try (have i_xlp6_2 := Imp.go xlp6_2 (by omega))); (try (have i_t18 := Imp.go t18 (by omega))); first | omega | ((try (have i_t19 := Imp.go t19 (by omega))); (try (have i_t20 := Imp.go t20 (by omega))); (try (have i_hz25 := Imp.go hz25 (by omega))); (try (have i_xlp29_1 := Imp.go xlp29_1 (by omega))); omega))))) (Imp.mk (fun hp => have hp : (V129 0 8).toInt = 0 := hp; (show 0 ≤ z15.toInt ∧ 0 ≤ (V129 0 7).toInt ∧ (V129 0 7).toInt < n ∧ (V 0 8).toInt = 0 ∧ (V 0 7).toInt ≤ (V129 0 7).toInt from by first | omega | ((try (have i_xlp29_1 := Imp.go xlp29_1 (f117))); (try (have i_xlp6_2 := Imp.go xlp6_2 (f13))); (try (have i_xlp6_1 := Imp.go xlp6_1 (f13))); (try (have i_x3 := Imp.go x3 (i_xlp6_1.2.2.1))); omega) | ((try (have i_xlp29_1 := Imp.go xlp29_1 (by omega))); (try (have i_hz25 := Imp.go hz25 (by omega))); (try (have i_t20 := Imp.go t20 (by omega))); (try (have i_t19 := Imp.go t19 (by omega))); first | omega | ((try (have i_t18 := Imp.go t18 (by omega))); (try (have i_xlp6_2 := Imp.go xlp6_2 (by omega))); (try (have i_xlp6_1 := Imp.go xlp6_1 (by omega))); (try (have i_x3 := Imp.go x3 (by omega))); first | omega | ((try (have i_x3 := Imp.go x3 (by omega))); (try (have i_xlp6_1 := Imp.go xlp6_1 (by omega))); (try (have i_xlp6_2 := Imp.go xlp6_2 (by omega))); (try (have i_t18 := Imp.go t18 (by omega))); first | omega | ((try (have i_t19 := Imp.go t19 (by omega))); (try (have i_t20 := Imp.go t20 (by omega))); (try (have i_hz25 := Imp.go hz25 (by omega))); (try (have i_xlp29_1 := Imp.go xlp29_1 (by omega))); omega))))))) (by first | exact om_9e7d2b874257 hn hz132 | first | omega | ((try (have i_xlp29_1 := Imp.go xlp29_1 (f117))); (try (have i_xlp6_2 := Imp.go xlp6_2 (f13))); (try (have i_xlp6_1 := Imp.go xlp6_1 (f13))); (try (have i_x3 := Imp.go x3 (i_xlp6_1.2.2.1))); omega) | ((try (have i_xlp29_1 := Imp.go xlp29_1 (by omega))); (try (have i_hz25 := Imp.go hz25 (by omega))); (try (have i_t20 := Imp.go t20 (by omega))); (try (have i_t19 := Imp.go t19 (by omega))); first | omega | ((try (have i_t18 := Imp.go t18 (by omega))); (try (have i_xlp6_2 := Imp.go xlp6_2 (by omega))); (try (have i_xlp6_1 := Imp.go xlp6_1 (by omega))); (try (have i_x3 := Imp.go x3 (by omega))); first | omega | ((try (have i_x3 := Imp.go x3 (by omega))); (try (have i_xlp6_1 := Imp.go xlp6_1 (by omega))); (try (have i_xlp6_2 := Imp.go xlp6_2 (by omega))); (try (have i_t18 := Imp.go t18 (by omega))); first | omega | ((try (have i_t19 := Imp.go t19 (by omega))); (try (have i_t20 := Imp.go t20 (by omega))); (try (have i_hz25 := Imp.go hz25 (by omega))); (try (have i_xlp29_1 := Imp.go xlp29_1 (by omega))); omega))))) (agr.tr (agr.tr agr.rf ajV28 (by decide) (by decide)) ajV129 (by decide) (by decide)) hMV129 hP hD hS (lv_sub hl [0, 1, 2, 3, 4, 5, 6] rfl)
          have r134 : Int32.toInt 0 = 0 := by decide
          have pq135 : (V26 0 7).toInt = z25.toInt := congrArg Int32.toInt (up2_s hV26)
          have pq136 : (V26 0 8).toInt = ((V21 0 8)).toInt := congrArg Int32.toInt (up2_k hV26 (by decide))
          exact lp29 ((y3.toInt - (Int32.toInt 0) + 1 : Int).toNat) 0 V26 H locs ls (by decide) (show (Int32.toInt 0) ≤ y3.toInt from by first | exact om_6f9bb8cf3bec klp6_1.1 r134 | first | omega | ((try (have i_xlp6_2 := Imp.go xlp6_2 (f13))); (try (have i_xlp6_1 := Imp.go xlp6_1 (f13))); (try (have i_x3 := Imp.go x3 (i_xlp6_1.2.2.1))); omega) | ((try (have i_hz25 := Imp.go hz25 (by omega))); (try (have i_t20 := Imp.go t20 (by omega))); (try (have i_t19 := Imp.go t19 (by omega))); (try (have i_t18 := Imp.go t18 (by omega))); first | omega | ((try (have i_xlp6_2 := Imp.go xlp6_2 (by omega))); (try (have i_xlp6_1 := Imp.go xlp6_1 (by omega))); (try (have i_x3 := Imp.go x3 (by omega))); (try (have i_x3 := Imp.go x3 (by omega))); first | omega | ((try (have i_xlp6_1 := Imp.go xlp6_1 (by omega))); (try (have i_xlp6_2 := Imp.go xlp6_2 (by omega))); (try (have i_t18 := Imp.go t18 (by omega))); (try (have i_t19 := Imp.go t19 (by omega))); (try (have i_t20 := Imp.go t20 (by omega))); (try (have i_hz25 := Imp.go hz25 (by omega))); omega)))) (Imp.mk (fun hp => have hp : (V26 0 8).toInt = 0 := hp; (show 0 ≤ z15.toInt ∧ 0 ≤ (V26 0 7).toInt ∧ (V26 0 7).toInt < n ∧ (V 0 8).toInt = 0 ∧ (V 0 7).toInt ≤ (V26 0 7).toInt from by first | exact om_ddaf75ac55fc r1.1 pq135 ((Imp.go xlp6_1 (f13)).1) ((Imp.go xlp6_1 (f13)).2.2.1) ((Imp.go xlp6_1 (f13)).2.2.2) ((Imp.go t18 ((pq136.symm).trans (hp))).2.1) ((Imp.go t19 ((pq136.symm).trans (hp)))) ((Imp.go t20 ((pq136.symm).trans (hp)))) ((Imp.go hz25 (om_6e827f178b5b x2 ((Imp.go xlp6_1 (f13)).1) ((Imp.go t18 ((pq136.symm).trans (hp))).2.1) ((Imp.go t20 ((pq136.symm).trans (hp))))))) | first | omega | ((try (have i_t20 := Imp.go t20 ((pq136.symm).trans (hp)))); (try (have i_t19 := Imp.go t19 ((pq136.symm).trans (hp)))); (try (have i_t18 := Imp.go t18 ((pq136.symm).trans (hp)))); (try (have i_xlp6_2 := Imp.go xlp6_2 (i_t18.2.2.1))); (try (have i_xlp6_1 := Imp.go xlp6_1 (i_t18.2.2.1))); (try (have i_x3 := Imp.go x3 (i_xlp6_1.2.2.1))); omega) | ((try (have i_hz25 := Imp.go hz25 (by omega))); (try (have i_t20 := Imp.go t20 (by omega))); (try (have i_t19 := Imp.go t19 (by omega))); (try (have i_t18 := Imp.go t18 (by omega))); first | omega | ((try (have i_xlp6_2 := Imp.go xlp6_2 (by omega))); (try (have i_xlp6_1 := Imp.go xlp6_1 (by omega))); (try (have i_x3 := Imp.go x3 (by omega))); (try (have i_x3 := Imp.go x3 (by omega))); first | omega | ((try (have i_xlp6_1 := Imp.go xlp6_1 (by omega))); (try (have i_xlp6_2 := Imp.go xlp6_2 (by omega))); (try (have i_t18 := Imp.go t18 (by omega))); (try (have i_t19 := Imp.go t19 (by omega))); (try (have i_t20 := Imp.go t20 (by omega))); (try (have i_hz25 := Imp.go hz25 (by omega))); omega)))))) (by first | exact om_7441a7786481 | first | omega | ((try (have i_xlp6_2 := Imp.go xlp6_2 (f13))); (try (have i_xlp6_1 := Imp.go xlp6_1 (f13))); (try (have i_x3 := Imp.go x3 (i_xlp6_1.2.2.1))); omega) | ((try (have i_hz25 := Imp.go hz25 (by omega))); (try (have i_t20 := Imp.go t20 (by omega))); (try (have i_t19 := Imp.go t19 (by omega))); (try (have i_t18 := Imp.go t18 (by omega))); first | omega | ((try (have i_xlp6_2 := Imp.go xlp6_2 (by omega))); (try (have i_xlp6_1 := Imp.go xlp6_1 (by omega))); (try (have i_x3 := Imp.go x3 (by omega))); (try (have i_x3 := Imp.go x3 (by omega))); first | omega | ((try (have i_xlp6_1 := Imp.go xlp6_1 (by omega))); (try (have i_xlp6_2 := Imp.go xlp6_2 (by omega))); (try (have i_t18 := Imp.go t18 (by omega))); (try (have i_t19 := Imp.go t19 (by omega))); (try (have i_t20 := Imp.go t20 (by omega))); (try (have i_hz25 := Imp.go hz25 (by omega))); omega)))) agr.rf hMV26 hP hD hS (lv_sub hl [0, 1, 2, 3, 4, 5, 6] rfl)
  have r137 : Int32.toInt 1 = 1 := by decide
  have r138 : Int32.toInt 0 = 0 := by decide
  exact lp6 ((9 + 1 : Int).toNat) 9 1 0 V H locs ls (by decide) (by decide) (show 0 ≤ 9 from by first | omega | ((try (have i_x3 := Imp.go x3 (by omega))); omega)) (Imp.mk (fun hp => have hp : (V 0 8).toInt = 0 := hp; (show 0 ≤ (V 0 7).toInt ∧ (V 0 7).toInt ≤ n ∧ (V 0 8).toInt = 0 ∧ (V 0 7).toInt ≤ (V 0 7).toInt from by first | exact om_ac9b04ec6f0a r1.1 hp ((Imp.go x3 (hp)).1) ((Imp.go x3 (hp)).2) | first | omega | ((try (have i_x3 := Imp.go x3 (by omega))); omega)))) (Imp.mk (fun hp => have hp : (V 0 8).toInt = 0 := hp; (show 7 - (Int32.toInt 0) < 9 from by first | exact om_f530ea408148 r138 | first | omega | ((try (have i_x3 := Imp.go x3 (by omega))); omega)))) (by first | exact om_2f55e767c825 | first | omega | ((try (have i_x3 := Imp.go x3 (by omega))); omega)) agr.rf hMV hP hD hS (lv_sub hl [0, 1, 2, 3, 4] rfl)
abbrev r_s_toldType3 : Room := { frames := 4, cells := 0, slots := 0, locals := 97 }
abbrev q_s_toldType3 (D : va_G) (ks : KS) (ad : Nat → Nat) (kk : Nat → ClassId) (V : Vf) (L : Lf) (n : Nat) (A : Nat → Prop) : Array Value → State → Outcome → State → Prop := va_Qv (fun (u : Vf × Lf) => rgd bM u.1 ∧ agr [(0, 7), (0, 8)] [13, 14, 15, 53] V u.1 ∧ agL [13, 14, 15, 53] L u.2 ∧ (Imp ((u.1 0 8).toInt = 0) (0 ≤ (u.1 0 7).toInt ∧ (u.1 0 7).toInt ≤ n ∧ (V 0 8).toInt = 0 ∧ (V 0 7).toInt ≤ (u.1 0 7).toInt)) ∧ (Imp ((u.1 0 8).toInt = 0) ((V 0 7).toInt + 1 ≤ (u.1 0 7).toInt))) (fun u t => gq D A (mw ad kk ks.1 u.1 u.2) (mty kk) t) A
set_option maxHeartbeats 4000000 in
set_option maxRecDepth 100000 in
theorem s_toldType3 (l : Launch) (D : va_G) (ks : KS) (sz : Nat) (ad : Nat → Nat) (kk : Nat → ClassId) (V : Vf) (L : Lf) (n : Nat) (hMV : rgd bM V) (x1 : (V 4 n).toInt = 0) (x2 : n ≤ 4000) (x3 : Imp ((V 0 8).toInt = 0) (0 ≤ (V 0 7).toInt ∧ (V 0 7).toInt ≤ n)) (y3 : (V 0 8).toInt = 0) (y4 : 0 ≤ (V 0 7).toInt ∧ (V 0 7).toInt < n)  : Met l yX12_toldType (Cond.code yX12_toldType cX12_toldType 5 none :: GW) r_s_toldType3 (va_Pc [.ref (ad 0)] (gp D ks (mw ad kk ks.1 V L) (mty kk) sz)) (q_s_toldType3 D ks ad kk V L  n (va_A (mw ad kk ks.1 V L) sz)) 0 0 (va_A (mw ad kk ks.1 V L) sz) := by
  refine g_met (q_s_toldType3 D ks ad kk V L  n) (by decide) (Nat.le_of_ble_eq_true rfl) ?_
  intro p e s m below meth c A ls H locs hx hb hr hml hown hg hlocks hin hnw hgk hP hK hD hS hA hl
  replace hown : s.vm.findClass RX12 = some m.cls := hown
  replace hl : lv_has ls 5 [(0, .ref (ad 0))] := hl
  replace hP : va_P D vwCl (mw ad kk ks.1 V L) H := hP
  replace hD : va_D A (mw ad kk ks.1 V L) := hD
  replace hK : va_K D vwCl (mty kk) s := hK
  have agV : agr [(0, 7), (0, 8)] [13, 14, 15, 53] V V := agr.rf
  have alL : agL [13, 14, 15, 53] L L := agL.rf
  have r1 : 0 ≤ ((V 0 8)).toInt ∧ ((V 0 8)).toInt ≤ 70000 := hMV 0 8
  refine lv_bipush (v := 24) hx hb dX12_toldType_0 (by decide) ?_
  refine lv_aload_n hx hb dX12_toldType_2 rfl (lv_at hl 0 rfl) ?_
  refine va_get (D := D) (ci := 12) (v := .int (V 0 12)) (C := RX12) (T := TX12) (N := 100) hx hb hg inX12 hown hK hP 0 rfl rfl 12 (by decide) (hg _ w1718) (fun _ h9 => h9) rfl dX12_toldType_3 ?_
  have r2 : 0 ≤ ((V 0 12)).toInt ∧ ((V 0 12)).toInt ≤ 1 := hMV 0 12
  refine lv_imul hx hb dX12_toldType_6 ?_
  refine lv_topi (fun z3 ez3 => ?_)
  have hz3 : z3.toInt = 24 * ((V 0 12)).toInt := i_mul ez3 (by decide) rfl (by (first | exact om_3f8aba7b6ce1 r2.1 r2.2 | omega))
  refine lv_aload_n hx hb dX12_toldType_7 rfl (lv_at hl 0 rfl) ?_
  refine va_get (D := D) (ci := 12) (v := .ref (ad 13)) (C := RX12) (T := TX12) (N := 100) hx hb hg inX12 hown hK hP 0 rfl rfl 13 (by decide) (hg _ w1719) (fun _ h9 => h9) rfl dX12_toldType_8 ?_
  refine lv_aload_n hx hb dX12_toldType_11 rfl (lv_at hl 0 rfl) ?_
  refine va_get (D := D) (ci := 12) (v := .int (V 0 12)) (C := RX12) (T := TX12) (N := 100) hx hb hg inX12 hown hK hP 0 rfl rfl 12 (by decide) (hg _ w1718) (fun _ h9 => h9) rfl dX12_toldType_12 ?_
  refine va_iald (D := D) (i := (V 0 12)) hx hb hK hP 6 5 rfl rfl (i_in (a := ((V 0 12)).toInt) rfl (by first | exact om_8367a84723c7 r2.1 r2.2 | first | omega | ((try (have i_x3 := Imp.go x3 (by omega))); omega))) dX12_toldType_15 ?_
  have r4 : 0 ≤ ((V 13 (Int32.toNatClampNeg (V 0 12)))).toInt ∧ ((V 13 (Int32.toNatClampNeg (V 0 12)))).toInt ≤ 24 := hMV 13 (Int32.toNatClampNeg (V 0 12))
  refine lv_iadd hx hb dX12_toldType_16 ?_
  refine lv_topi (fun z5 ez5 => ?_)
  have hz5 : z5.toInt = z3.toInt + ((V 13 (Int32.toNatClampNeg (V 0 12)))).toInt := i_add ez5 rfl rfl (by (first | exact om_1683672f2aa1 r2.1 r2.2 hz3 r4.1 r4.2 | omega))
  refine lv_istore_n (lv' := [(1, .int z5), (0, .ref (ad 0))]) hx hb dX12_toldType_17 rfl hl (by decide) rfl (fun ls hl => ?_)
  refine lv_aload_n hx hb dX12_toldType_18 rfl (lv_at hl 1 rfl) ?_
  refine lv_aload_n hx hb dX12_toldType_19 rfl (lv_at hl 1 rfl) ?_
  refine va_get (D := D) (ci := 12) (v := .ref (ad 13)) (C := RX12) (T := TX12) (N := 100) hx hb hg inX12 hown hK hP 0 rfl rfl 13 (by decide) (hg _ w1719) (fun _ h9 => h9) rfl dX12_toldType_20 ?_
  refine lv_aload_n hx hb dX12_toldType_23 rfl (lv_at hl 1 rfl) ?_
  refine va_get (D := D) (ci := 12) (v := .int (V 0 12)) (C := RX12) (T := TX12) (N := 100) hx hb hg inX12 hown hK hP 0 rfl rfl 12 (by decide) (hg _ w1718) (fun _ h9 => h9) rfl dX12_toldType_24 ?_
  refine va_iald (D := D) (i := (V 0 12)) hx hb hK hP 6 5 rfl rfl (i_in (a := ((V 0 12)).toInt) rfl (by first | exact om_8367a84723c7 r2.1 r2.2 | first | omega | ((try (have i_x3 := Imp.go x3 (by omega))); omega))) dX12_toldType_27 ?_
  refine lv_bipush (v := 24) hx hb dX12_toldType_28 (by decide) ?_
  refine lv_icmp_ne (tgt := 37) hx hb dX12_toldType_30 (by decide) (fun c6 => ?_) (fun c6 => ?_)
  · skip
    have f7 : ((V 13 (Int32.toNatClampNeg (V 0 12)))).toInt ≠ 24 := b_neq rfl (by decide) c6
    refine lv_iconst (v := 0) hx hb dX12_toldType_37 (by decide) ?_
    have r8 : Int32.toInt 0 = 0 := by decide
    refine gA_void (gA_runV (As := [.int 0]) (rest := []) (ci := 12) (q0 := 0) hx hb hml hown hg hP hD hK hS hA hnw hgk (s_begins l D ks H.size ad kk V L 0 (n) hMV (by decide) (show (V 4 (n)).toInt = 0 from by first | exact om_b66ba74381d5 x1 | first | omega | ((try (have i_x3 := Imp.go x3 (by omega))); omega)) (show (n) ≤ 4000 from by first | exact om_af64e361c991 x2 | first | omega | ((try (have i_x3 := Imp.go x3 (by omega))); omega)) (Imp.mk (fun hp => have hp : (V 0 8).toInt = 0 := hp; (show 0 ≤ (V 0 7).toInt ∧ (V 0 7).toInt ≤ (n) from by first | exact om_7a329117c856 y4.1 y4.2 | first | omega | ((try (have i_x3 := Imp.go x3 (by omega))); omega)))) (Imp.mk (fun hp => have hp : (V 0 8).toInt = 0 := hp; (show (V 0 7).toInt < (n) from by first | exact om_ce86bdf40212 y4.2 | first | omega | ((try (have i_x3 := Imp.go x3 (by omega))); omega))))) w2031 w2033 w85 w172 w2034 rfl rfl hdV_yX12_begins ⟨Nat.le_of_ble_eq_true rfl, Nat.le_of_ble_eq_true rfl⟩ rfl hl.1 rfl (Nat.le_of_ble_eq_true rfl) dX12_toldType_38 ⟨Nat.le_of_ble_eq_true rfl, Nat.le_of_ble_eq_true rfl⟩) hP hD hK hS hA (fun u10 H locs w11 hP hD hK hS => ?_)
    obtain ⟨V15, L16⟩ := u10
    obtain ⟨hMV15, ajV15, axL16, t12, t13, t14⟩ := w11
    have axL16 : L = L16 := Eq.symm axL16
    subst axL16
    replace hP : va_P D vwCl (mw ad kk ks.1 V15 L) H := hP
    replace hD : va_D A (mw ad kk ks.1 V15 L) := hD
    replace hMV15 : rgd bM V15 := hMV15
    replace ajV15 : agr [(0, 7), (0, 8)] [] V V15 := ajV15
    have agV15 : agr [(0, 7), (0, 8)] [13, 14, 15, 53] V V15 := agV.tr ajV15 (by decide) (by decide)
    replace t12 : Imp ((V15 0 8).toInt = 0) (0 ≤ (V15 0 7).toInt ∧ (V15 0 7).toInt ≤ (n) ∧ (V 0 8).toInt = 0 ∧ (V 0 7).toInt ≤ (V15 0 7).toInt) := t12
    replace t14 : Imp ((V15 0 8).toInt = 0) ((V 0 7).toInt + 1 ≤ (V15 0 7).toInt) := t14
    have r17 : 0 ≤ ((V15 0 8)).toInt ∧ ((V15 0 8)).toInt ≤ 70000 := hMV15 0 8
    refine lv_aload_n hx hb dX12_toldType_41 rfl (lv_at hl 1 rfl) ?_
    refine va_get (D := D) (ci := 12) (v := .int (V15 0 8)) (C := RX12) (T := TX12) (N := 100) hx hb hg inX12 hown hK hP 0 rfl rfl 8 (by decide) (hg _ w1714) (fun _ h9 => h9) rfl dX12_toldType_42 ?_
    refine lv_if_le (tgt := 49) hx hb dX12_toldType_45 (by decide) (fun c18 => ?_) (fun c18 => ?_)
    · skip
      have f19 : ((V15 0 8)).toInt ≤ 0 := b_le rfl (by decide) c18
      refine lv_aload_n hx hb dX12_toldType_49 rfl (lv_at hl 1 rfl) ?_
      have pq20 : (V15 4 n).toInt = ((V 4 n)).toInt := congrArg Int32.toInt (ajV15 4 n rfl)
      refine gA_long (gA_runV (As := []) (rest := []) (ci := 12) (q0 := 0) hx hb hml hown hg hP hD hK hS hA hnw hgk (s_newName l D ks H.size ad kk V15 L (n) hMV15 (show (V15 4 (n)).toInt = 0 from by first | exact om_36161e850215 x1 pq20 | first | omega | ((try (have i_t14 := Imp.go t14 (by omega))); (try (have i_t12 := Imp.go t12 (by omega))); (try (have i_x3 := Imp.go x3 (by omega))); (try (have i_x3 := Imp.go x3 (by omega))); (try (have i_t12 := Imp.go t12 (by omega))); (try (have i_t14 := Imp.go t14 (by omega))); omega)) (show (n) ≤ 4000 from by first | exact om_af64e361c991 x2 | first | omega | ((try (have i_t14 := Imp.go t14 (by omega))); (try (have i_t12 := Imp.go t12 (by omega))); (try (have i_x3 := Imp.go x3 (by omega))); (try (have i_x3 := Imp.go x3 (by omega))); (try (have i_t12 := Imp.go t12 (by omega))); (try (have i_t14 := Imp.go t14 (by omega))); omega)) (Imp.mk (fun hp => have hp : (V15 0 8).toInt = 0 := hp; (show 0 ≤ (V15 0 7).toInt ∧ (V15 0 7).toInt ≤ (n) from by first | exact om_2e61a80dd361 y4.1 ((Imp.go t12 (hp)).2.1) ((Imp.go t14 (hp))) | first | omega | ((try (have i_t14 := Imp.go t14 (by omega))); (try (have i_t12 := Imp.go t12 (by omega))); (try (have i_x3 := Imp.go x3 (by omega))); (try (have i_x3 := Imp.go x3 (by omega))); (try (have i_t12 := Imp.go t12 (by omega))); (try (have i_t14 := Imp.go t14 (by omega))); omega)))) (show (V15 0 8).toInt = 0 from by first | exact om_ef51d1a21207 r17.1 f19 | first | omega | ((try (have i_t14 := Imp.go t14 (by omega))); (try (have i_t12 := Imp.go t12 (by omega))); (try (have i_x3 := Imp.go x3 (by omega))); (try (have i_x3 := Imp.go x3 (by omega))); (try (have i_t12 := Imp.go t12 (by omega))); (try (have i_t14 := Imp.go t14 (by omega))); omega))) w2039 w2041 w87 w172 w2042 rfl rfl hdV_yX12_newName ⟨Nat.le_of_ble_eq_true rfl, Nat.le_of_ble_eq_true rfl⟩ rfl hl.1 rfl (Nat.le_of_ble_eq_true rfl) dX12_toldType_50 ⟨Nat.le_of_ble_eq_true rfl, Nat.le_of_ble_eq_true rfl⟩) hP hD hK hS hA (fun z21 u22 H locs w23 hP hD hK hS => ?_)
      obtain ⟨V26, L27⟩ := u22
      obtain ⟨hMV26, ajV26, axL27, t24, t25⟩ := w23
      have axL27 : L = L27 := Eq.symm axL27
      subst axL27
      replace hP : va_P D vwCl (mw ad kk ks.1 V26 L) H := hP
      replace hD : va_D A (mw ad kk ks.1 V26 L) := hD
      replace hMV26 : rgd bM V26 := hMV26
      replace ajV26 : agr [(0, 7), (0, 8)] [] V15 V26 := ajV26
      have agV26 : agr [(0, 7), (0, 8)] [13, 14, 15, 53] V V26 := agV15.tr ajV26 (by decide) (by decide)
      replace t24 : Imp ((V26 0 8).toInt = 0) (0 ≤ (V26 0 7).toInt ∧ (V26 0 7).toInt ≤ (n) ∧ (V15 0 8).toInt = 0 ∧ (V15 0 7).toInt ≤ (V26 0 7).toInt) := t24
      replace t25 : Imp ((V26 0 8).toInt = 0) ((V15 0 7).toInt + 1 ≤ (V26 0 7).toInt) := t25
      have r28 : 0 ≤ ((V26 0 8)).toInt ∧ ((V26 0 8)).toInt ≤ 70000 := hMV26 0 8
      refine lv_lstore_n (lv' := [(2, .long z21), (1, .int z5), (0, .ref (ad 0))]) hx hb dX12_toldType_53 rfl hl (by decide) rfl (fun ls hl => ?_)
      refine lv_iconst (v := 0) hx hb dX12_toldType_54 (by decide) ?_
      refine lv_istore (lv' := [(4, .int 0), (2, .long z21), (1, .int z5), (0, .ref (ad 0))]) hx hb dX12_toldType_55 hl (by decide) rfl (fun ls hl => ?_)
      have lp31 : ∀ (fulp31 : Nat) (y29 : Int32) (V30 : Vf) (H : Heap) (locs : List Loc) (ls : Array Slot), 0 ≤ y29.toInt ∧ y29.toInt ≤ 24 → 24 - y29.toInt < (fulp31 : Int) → agr [] [15] V26 V30 → rgd bM V30 → va_P D vwCl (mw ad kk ks.1 V30 L) H → va_D A (mw ad kk ks.1 V30 L) → va_S A s.heap H locs → lv_has ls 5 [(4, .int y29), (2, .long z21), (1, .int z5), (0, .ref (ad 0))] → W p l e r_s_toldType3 s m ([.ref (ad 0)] : List Value).toArray below meth c H locs 0 0 (MQ below (q_s_toldType3 D ks ad kk V L  n A) ([.ref (ad 0)] : List Value).toArray s 0 0 A) (F0 m 57 ls []) := by
        intro fulp31
        induction fulp31 with
        | zero =>
          intro y29 V30 H locs ls klp31_0 hn ajV30 hMV30 hP hD hS hl
          exfalso; (first | exact om_9386ef0df612 klp31_0.2 hn | omega)
        | succ fulp31 ihlp31 =>
          intro y29 V30 H locs ls klp31_0 hn ajV30 hMV30 hP hD hS hl
          have agV30 : agr [(0, 7), (0, 8)] [13, 14, 15, 53] V V30 := agV26.tr ajV30 (by decide) (by decide)
          refine lv_iload hx hb dX12_toldType_57 (lv_at hl 0 rfl) ?_
          refine lv_bipush (v := 24) hx hb dX12_toldType_59 (by decide) ?_
          refine lv_icmp_ge (tgt := 101) hx hb dX12_toldType_61 (by decide) (fun c32 => ?_) (fun c32 => ?_)
          · skip
            have f33 : 24 ≤ y29.toInt := b_le (by decide) rfl c32
            refine lv_aload_n hx hb dX12_toldType_101 rfl (lv_at hl 3 rfl) ?_
            refine lv_iconst (v := 1) hx hb dX12_toldType_102 (by decide) ?_
            have r34 : Int32.toInt 1 = 1 := by decide
            have pq35 : (V30 4 n).toInt = ((V 4 n)).toInt := congrArg Int32.toInt ((ajV30 4 n rfl).trans ((ajV26 4 n rfl).trans (ajV15 4 n rfl)))
            have pq36 : (V30 0 7).toInt = ((V26 0 7)).toInt := congrArg Int32.toInt (ajV30 0 7 rfl)
            have pq37 : (V30 0 8).toInt = ((V26 0 8)).toInt := congrArg Int32.toInt (ajV30 0 8 rfl)
            refine gA_int (gA_runV (As := [.int 1]) (rest := []) (ci := 12) (q0 := 0) hx hb hml hown hg hP hD hK hS hA hnw hgk (s_hasWord3 l D ks H.size ad kk V30 L 1 (n) hMV30 (by decide) (show (V30 4 (n)).toInt = 0 from by first | exact om_36161e850215 x1 pq35 | first | omega | ((try (have i_x3 := Imp.go x3 (y3))); omega) | ((try (have i_t25 := Imp.go t25 (by omega))); (try (have i_t24 := Imp.go t24 (by omega))); (try (have i_t14 := Imp.go t14 (by omega))); (try (have i_t12 := Imp.go t12 (by omega))); first | omega | ((try (have i_x3 := Imp.go x3 (by omega))); (try (have i_x3 := Imp.go x3 (by omega))); (try (have i_t12 := Imp.go t12 (by omega))); (try (have i_t14 := Imp.go t14 (by omega))); (try (have i_t24 := Imp.go t24 (by omega))); (try (have i_t25 := Imp.go t25 (by omega))); omega))) (show (n) ≤ 4000 from by first | exact om_af64e361c991 x2 | first | omega | ((try (have i_x3 := Imp.go x3 (y3))); omega) | ((try (have i_t25 := Imp.go t25 (by omega))); (try (have i_t24 := Imp.go t24 (by omega))); (try (have i_t14 := Imp.go t14 (by omega))); (try (have i_t12 := Imp.go t12 (by omega))); first | omega | ((try (have i_x3 := Imp.go x3 (by omega))); (try (have i_x3 := Imp.go x3 (by omega))); (try (have i_t12 := Imp.go t12 (by omega))); (try (have i_t14 := Imp.go t14 (by omega))); (try (have i_t24 := Imp.go t24 (by omega))); (try (have i_t25 := Imp.go t25 (by omega))); omega))) (Imp.mk (fun hp => have hp : (V30 0 8).toInt = 0 := hp; (show 0 ≤ (V30 0 7).toInt ∧ (V30 0 7).toInt ≤ (n) from by first | exact om_d41c95ea1f66 y4.1 pq36 ((Imp.go t24 ((pq37.symm).trans (hp))).2.1) ((Imp.go t25 ((pq37.symm).trans (hp)))) ((Imp.go t14 ((Imp.go t24 ((pq37.symm).trans (hp))).2.2.1))) | first | omega | ((try (have i_t25 := Imp.go t25 ((pq37.symm).trans (hp)))); (try (have i_t24 := Imp.go t24 ((pq37.symm).trans (hp)))); (try (have i_t14 := Imp.go t14 (i_t24.2.2.1))); (try (have i_t12 := Imp.go t12 (i_t24.2.2.1))); (try (have i_x3 := Imp.go x3 (i_t12.2.2.1))); omega) | ((try (have i_t25 := Imp.go t25 (by omega))); (try (have i_t24 := Imp.go t24 (by omega))); (try (have i_t14 := Imp.go t14 (by omega))); (try (have i_t12 := Imp.go t12 (by omega))); first | omega | ((try (have i_x3 := Imp.go x3 (by omega))); (try (have i_x3 := Imp.go x3 (by omega))); (try (have i_t12 := Imp.go t12 (by omega))); (try (have i_t14 := Imp.go t14 (by omega))); (try (have i_t24 := Imp.go t24 (by omega))); (try (have i_t25 := Imp.go t25 (by omega))); omega)))))) w2051 w2053 w90 w172 w2054 rfl rfl hdV_yX12_hasWord ⟨Nat.le_of_ble_eq_true rfl, Nat.le_of_ble_eq_true rfl⟩ rfl hl.1 rfl (Nat.le_of_ble_eq_true rfl) dX12_toldType_103 ⟨Nat.le_of_ble_eq_true rfl, Nat.le_of_ble_eq_true rfl⟩) hP hD hK hS hA (fun z38 u39 H locs w40 hP hD hK hS => ?_)
            obtain ⟨V45, L46⟩ := u39
            obtain ⟨hMV45, ajV45, axL46, rgz38, t41, t42, t43, t44⟩ := w40
            have axL46 : L = L46 := Eq.symm axL46
            subst axL46
            replace hP : va_P D vwCl (mw ad kk ks.1 V45 L) H := hP
            replace hD : va_D A (mw ad kk ks.1 V45 L) := hD
            replace hMV45 : rgd bM V45 := hMV45
            replace ajV45 : agr [(0, 7)] [] V30 V45 := ajV45
            have agV45 : agr [(0, 7), (0, 8)] [13, 14, 15, 53] V V45 := agV30.tr ajV45 (by decide) (by decide)
            replace rgz38 : 0 ≤ z38.toInt ∧ z38.toInt ≤ 1 := rgz38
            replace t41 : Imp ((V45 0 8).toInt = 0) (0 ≤ (V45 0 7).toInt ∧ (V45 0 7).toInt ≤ (n) ∧ (V30 0 8).toInt = 0 ∧ (V30 0 7).toInt ≤ (V45 0 7).toInt) := t41
            replace t42 : Imp (z38.toInt = 1) ((V45 0 8).toInt = 0 ∧ (V30 0 7).toInt + 1 ≤ (V45 0 7).toInt) := t42
            replace t43 : Imp (z38.toInt = 0) ((V45 0 7).toInt = (V30 0 7).toInt) := t43
            replace t44 : Imp (z38.toInt = 1) (atW V30 L (Int32.toNatClampNeg 1)) := t44
            have pq47 : (V45 0 8).toInt = ((V26 0 8)).toInt := congrArg Int32.toInt ((ajV45 0 8 rfl).trans (ajV30 0 8 rfl))
            have J48 : ∀ (V49 : Vf) (H : Heap) (locs : List Loc) (ls : Array Slot), agr [(0, 7), (0, 8)] [15, 53] V45 V49 → rgd bM V49 → Imp ((V49 0 8).toInt = 0) (0 ≤ (V49 0 7).toInt ∧ (V49 0 7).toInt ≤ n ∧ (V 0 8).toInt = 0 ∧ (V 0 7).toInt ≤ (V49 0 7).toInt) → Imp ((V49 0 8).toInt = 0) ((V 0 7).toInt + 1 ≤ (V49 0 7).toInt) → va_P D vwCl (mw ad kk ks.1 V49 L) H → va_D A (mw ad kk ks.1 V49 L) → va_S A s.heap H locs → lv_has ls 5 [(4, .int y29), (2, .long z21), (1, .int z5), (0, .ref (ad 0))] → W p l e r_s_toldType3 s m ([.ref (ad 0)] : List Value).toArray below meth c H locs 0 0 (MQ below (q_s_toldType3 D ks ad kk V L  n A) ([.ref (ad 0)] : List Value).toArray s 0 0 A) (F0 m 118 ls []) := by
              intro V49 H locs ls ajV49 hMV49 xJ48_0 xJ48_1 hP hD hS hl
              have agV49 : agr [(0, 7), (0, 8)] [13, 14, 15, 53] V V49 := agV45.tr ajV49 (by decide) (by decide)
              have r50 : 0 ≤ ((V49 0 8)).toInt ∧ ((V49 0 8)).toInt ≤ 70000 := hMV49 0 8
              refine lv_aload_n hx hb dX12_toldType_118 rfl (lv_at hl 3 rfl) ?_
              refine lv_bipush (v := 59) hx hb dX12_toldType_119 (by decide) ?_
              have r51 : Int32.toInt 59 = 59 := by decide
              have pq52 : (V49 4 n).toInt = ((V 4 n)).toInt := congrArg Int32.toInt ((ajV49 4 n rfl).trans ((ajV45 4 n rfl).trans ((ajV30 4 n rfl).trans ((ajV26 4 n rfl).trans (ajV15 4 n rfl)))))
              refine gA_void (gA_runV (As := [.int 59]) (rest := []) (ci := 12) (q0 := 0) hx hb hml hown hg hP hD hK hS hA hnw hgk (s_takeSign2 l D ks H.size ad kk V49 L 59 (n) hMV49 (show (V49 4 (n)).toInt = 0 from by first | exact om_36161e850215 x1 pq52 | first | omega | ((try (have i_x3 := Imp.go x3 (y3))); omega) | ((try (have i_xJ48_1 := Imp.go xJ48_1 (by omega))); (try (have i_xJ48_0 := Imp.go xJ48_0 (by omega))); (try (have i_t43 := Imp.go t43 (by omega))); (try (have i_t42 := Imp.go t42 (by omega))); first | omega | ((try (have i_t41 := Imp.go t41 (by omega))); (try (have i_t25 := Imp.go t25 (by omega))); (try (have i_t24 := Imp.go t24 (by omega))); (try (have i_t14 := Imp.go t14 (by omega))); first | omega | ((try (have i_t12 := Imp.go t12 (by omega))); (try (have i_x3 := Imp.go x3 (by omega))); (try (have i_x3 := Imp.go x3 (by omega))); (try (have i_t12 := Imp.go t12 (by omega))); (try (have i_t14 := Imp.go t14 (by omega))); (try (have i_t24 := Imp.go t24 (by omega))); (try (have i_t25 := Imp.go t25 (by omega))); (try (have i_t41 := Imp.go t41 (by omega))); first | omega | ((try (have i_t42 := Imp.go t42 (by omega))); (try (have i_t43 := Imp.go t43 (by omega))); (try (have i_xJ48_0 := Imp.go xJ48_0 (by omega))); (try (have i_xJ48_1 := Imp.go xJ48_1 (by omega))); omega))))) (show (n) ≤ 4000 from by first | exact om_af64e361c991 x2 | first | omega | ((try (have i_x3 := Imp.go x3 (y3))); omega) | ((try (have i_xJ48_1 := Imp.go xJ48_1 (by omega))); (try (have i_xJ48_0 := Imp.go xJ48_0 (by omega))); (try (have i_t43 := Imp.go t43 (by omega))); (try (have i_t42 := Imp.go t42 (by omega))); first | omega | ((try (have i_t41 := Imp.go t41 (by omega))); (try (have i_t25 := Imp.go t25 (by omega))); (try (have i_t24 := Imp.go t24 (by omega))); (try (have i_t14 := Imp.go t14 (by omega))); first | omega | ((try (have i_t12 := Imp.go t12 (by omega))); (try (have i_x3 := Imp.go x3 (by omega))); (try (have i_x3 := Imp.go x3 (by omega))); (try (have i_t12 := Imp.go t12 (by omega))); (try (have i_t14 := Imp.go t14 (by omega))); (try (have i_t24 := Imp.go t24 (by omega))); (try (have i_t25 := Imp.go t25 (by omega))); (try (have i_t41 := Imp.go t41 (by omega))); first | omega | ((try (have i_t42 := Imp.go t42 (by omega))); (try (have i_t43 := Imp.go t43 (by omega))); (try (have i_xJ48_0 := Imp.go xJ48_0 (by omega))); (try (have i_xJ48_1 := Imp.go xJ48_1 (by omega))); omega))))) (Imp.mk (fun hp => have hp : (V49 0 8).toInt = 0 := hp; (show 0 ≤ (V49 0 7).toInt ∧ (V49 0 7).toInt ≤ (n) from by first | exact om_2e61a80dd361 y4.1 ((Imp.go xJ48_0 (hp)).2.1) ((Imp.go xJ48_1 (hp))) | first | omega | ((try (have i_xJ48_1 := Imp.go xJ48_1 (hp))); (try (have i_xJ48_0 := Imp.go xJ48_0 (hp))); (try (have i_x3 := Imp.go x3 (i_xJ48_0.2.2.1))); omega) | ((try (have i_xJ48_1 := Imp.go xJ48_1 (by omega))); (try (have i_xJ48_0 := Imp.go xJ48_0 (by omega))); (try (have i_t43 := Imp.go t43 (by omega))); (try (have i_t42 := Imp.go t42 (by omega))); first | omega | ((try (have i_t41 := Imp.go t41 (by omega))); (try (have i_t25 := Imp.go t25 (by omega))); (try (have i_t24 := Imp.go t24 (by omega))); (try (have i_t14 := Imp.go t14 (by omega))); first | omega | ((try (have i_t12 := Imp.go t12 (by omega))); (try (have i_x3 := Imp.go x3 (by omega))); (try (have i_x3 := Imp.go x3 (by omega))); (try (have i_t12 := Imp.go t12 (by omega))); (try (have i_t14 := Imp.go t14 (by omega))); (try (have i_t24 := Imp.go t24 (by omega))); (try (have i_t25 := Imp.go t25 (by omega))); (try (have i_t41 := Imp.go t41 (by omega))); first | omega | ((try (have i_t42 := Imp.go t42 (by omega))); (try (have i_t43 := Imp.go t43 (by omega))); (try (have i_xJ48_0 := Imp.go xJ48_0 (by omega))); (try (have i_xJ48_1 := Imp.go xJ48_1 (by omega))); omega)))))))) w2075 w2077 w96 w172 w2078 rfl rfl hdV_yX12_takeSign ⟨Nat.le_of_ble_eq_true rfl, Nat.le_of_ble_eq_true rfl⟩ rfl hl.1 rfl (Nat.le_of_ble_eq_true rfl) dX12_toldType_121 ⟨Nat.le_of_ble_eq_true rfl, Nat.le_of_ble_eq_true rfl⟩) hP hD hK hS hA (fun u54 H locs w55 hP hD hK hS => ?_)
              obtain ⟨V59, L60⟩ := u54
              obtain ⟨hMV59, ajV59, axL60, t56, t57, t58⟩ := w55
              have axL60 : L = L60 := Eq.symm axL60
              subst axL60
              replace hP : va_P D vwCl (mw ad kk ks.1 V59 L) H := hP
              replace hD : va_D A (mw ad kk ks.1 V59 L) := hD
              replace hMV59 : rgd bM V59 := hMV59
              replace ajV59 : agr [(0, 7), (0, 8)] [] V49 V59 := ajV59
              have agV59 : agr [(0, 7), (0, 8)] [13, 14, 15, 53] V V59 := agV49.tr ajV59 (by decide) (by decide)
              replace t56 : Imp ((V59 0 8).toInt = 0) (0 ≤ (V59 0 7).toInt ∧ (V59 0 7).toInt ≤ (n) ∧ (V49 0 8).toInt = 0 ∧ (V49 0 7).toInt ≤ (V59 0 7).toInt) := t56
              replace t57 : Imp ((V59 0 8).toInt = 0) ((V49 0 7).toInt + 1 ≤ (V59 0 7).toInt) := t57
              replace t58 : Imp (1 ≤ (V49 0 8).toInt) (1 ≤ (V59 0 8).toInt) := t58
              have r61 : 0 ≤ ((V59 0 8)).toInt ∧ ((V59 0 8)).toInt ≤ 70000 := hMV59 0 8
              refine lv_aload_n hx hb dX12_toldType_124 rfl (lv_at hl 3 rfl) ?_
              refine va_get (D := D) (ci := 12) (v := .ref (ad 14)) (C := RX12) (T := TX12) (N := 100) hx hb hg inX12 hown hK hP 0 rfl rfl 14 (by decide) (hg _ w1720) (fun _ h9 => h9) rfl dX12_toldType_125 ?_
              refine lv_iload_n hx hb dX12_toldType_128 rfl (lv_at hl 2 rfl) ?_
              refine lv_lload_n hx hb dX12_toldType_129 rfl (lv_at hl 1 rfl) ?_
              refine va_last (D := D) (i := z5) (x := z21) hx hb hK hP hD hS 7 6 rfl rfl (i_in (a := z5.toInt) rfl (by first | exact om_aa704d15899a r2.1 r2.2 hz3 r4.1 r4.2 hz5 f7 | first | omega | ((try (have i_x3 := Imp.go x3 (y3))); omega) | ((try (have i_t58 := Imp.go t58 (by omega))); (try (have i_t57 := Imp.go t57 (by omega))); (try (have i_t56 := Imp.go t56 (by omega))); (try (have i_xJ48_1 := Imp.go xJ48_1 (by omega))); first | omega | ((try (have i_xJ48_0 := Imp.go xJ48_0 (by omega))); (try (have i_t43 := Imp.go t43 (by omega))); (try (have i_t42 := Imp.go t42 (by omega))); (try (have i_t41 := Imp.go t41 (by omega))); first | omega | ((try (have i_t25 := Imp.go t25 (by omega))); (try (have i_t24 := Imp.go t24 (by omega))); (try (have i_t14 := Imp.go t14 (by omega))); (try (have i_t12 := Imp.go t12 (by omega))); (try (have i_x3 := Imp.go x3 (by omega))); (try (have i_x3 := Imp.go x3 (by omega))); (try (have i_t12 := Imp.go t12 (by omega))); (try (have i_t14 := Imp.go t14 (by omega))); first | omega | ((try (have i_t24 := Imp.go t24 (by omega))); (try (have i_t25 := Imp.go t25 (by omega))); (try (have i_t41 := Imp.go t41 (by omega))); (try (have i_t42 := Imp.go t42 (by omega))); first | omega | ((try (have i_t43 := Imp.go t43 (by omega))); (try (have i_xJ48_0 := Imp.go xJ48_0 (by omega))); (try (have i_xJ48_1 := Imp.go xJ48_1 (by omega))); (try (have i_t56 := Imp.go t56 (by omega))); (try (have i_t57 := Imp.go t57 (by omega))); (try (have i_t58 := Imp.go t58 (by omega))); omega))))))) dX12_toldType_130 (fun H locs hP hD hS => ?_)
              obtain ⟨L62, hL62⟩ : ∃ z, z = upL L 14 (Int32.toNatClampNeg z5) z21 := ⟨_, rfl⟩
              have hP : va_P D vwCl (mw ad kk ks.1 V59 L62) H := by rw [hL62]; exact hP
              have hD : va_D A (mw ad kk ks.1 V59 L62) := by rw [hL62]; exact hD
              have alL62 : agL [13, 14, 15, 53] L L62 := agL.up alL hL62 rfl
              refine lv_aload_n hx hb dX12_toldType_131 rfl (lv_at hl 3 rfl) ?_
              refine va_get (D := D) (ci := 12) (v := .ref (ad 13)) (C := RX12) (T := TX12) (N := 100) hx hb hg inX12 hown hK hP 0 rfl rfl 13 (by decide) (hg _ w1719) (fun _ h9 => h9) rfl dX12_toldType_132 ?_
              refine lv_aload_n hx hb dX12_toldType_135 rfl (lv_at hl 3 rfl) ?_
              refine va_get (D := D) (ci := 12) (v := .int (V59 0 12)) (C := RX12) (T := TX12) (N := 100) hx hb hg inX12 hown hK hP 0 rfl rfl 12 (by decide) (hg _ w1718) (fun _ h9 => h9) rfl dX12_toldType_136 ?_
              refine g_top (v := (V 0 12)) ((ajV59 0 12 rfl).trans ((ajV49 0 12 rfl).trans ((ajV45 0 12 rfl).trans ((ajV30 0 12 rfl).trans ((ajV26 0 12 rfl).trans (ajV15 0 12 rfl)))))) ?_
              refine lv_dup2_11 hx hb dX12_toldType_139 rfl rfl ?_
              refine va_iald (D := D) (i := (V 0 12)) hx hb hK hP 6 5 rfl rfl (i_in (a := ((V 0 12)).toInt) rfl (by first | exact om_8367a84723c7 r2.1 r2.2 | first | omega | ((try (have i_x3 := Imp.go x3 (y3))); omega) | ((try (have i_t58 := Imp.go t58 (by omega))); (try (have i_t57 := Imp.go t57 (by omega))); (try (have i_t56 := Imp.go t56 (by omega))); (try (have i_xJ48_1 := Imp.go xJ48_1 (by omega))); first | omega | ((try (have i_xJ48_0 := Imp.go xJ48_0 (by omega))); (try (have i_t43 := Imp.go t43 (by omega))); (try (have i_t42 := Imp.go t42 (by omega))); (try (have i_t41 := Imp.go t41 (by omega))); first | omega | ((try (have i_t25 := Imp.go t25 (by omega))); (try (have i_t24 := Imp.go t24 (by omega))); (try (have i_t14 := Imp.go t14 (by omega))); (try (have i_t12 := Imp.go t12 (by omega))); (try (have i_x3 := Imp.go x3 (by omega))); (try (have i_x3 := Imp.go x3 (by omega))); (try (have i_t12 := Imp.go t12 (by omega))); (try (have i_t14 := Imp.go t14 (by omega))); first | omega | ((try (have i_t24 := Imp.go t24 (by omega))); (try (have i_t25 := Imp.go t25 (by omega))); (try (have i_t41 := Imp.go t41 (by omega))); (try (have i_t42 := Imp.go t42 (by omega))); first | omega | ((try (have i_t43 := Imp.go t43 (by omega))); (try (have i_xJ48_0 := Imp.go xJ48_0 (by omega))); (try (have i_xJ48_1 := Imp.go xJ48_1 (by omega))); (try (have i_t56 := Imp.go t56 (by omega))); (try (have i_t57 := Imp.go t57 (by omega))); (try (have i_t58 := Imp.go t58 (by omega))); omega))))))) dX12_toldType_140 ?_
              refine g_top (v := (V 13 (Int32.toNatClampNeg (V 0 12)))) ((ajV59 13 (Int32.toNatClampNeg (V 0 12)) rfl).trans ((ajV49 13 (Int32.toNatClampNeg (V 0 12)) rfl).trans ((ajV45 13 (Int32.toNatClampNeg (V 0 12)) rfl).trans ((ajV30 13 (Int32.toNatClampNeg (V 0 12)) rfl).trans ((ajV26 13 (Int32.toNatClampNeg (V 0 12)) rfl).trans (ajV15 13 (Int32.toNatClampNeg (V 0 12)) rfl)))))) ?_
              refine lv_iconst (v := 1) hx hb dX12_toldType_141 (by decide) ?_
              refine lv_iadd hx hb dX12_toldType_142 ?_
              refine lv_topi (fun z63 ez63 => ?_)
              have hz63 : z63.toInt = ((V 13 (Int32.toNatClampNeg (V 0 12)))).toInt + 1 := i_add ez63 rfl (by decide) (by (first | exact om_3847cd3a5ac6 r4.1 r4.2 f7 | omega))
              refine va_iast (D := D) (i := (V 0 12)) (x := z63) hx hb hK hP hD hS 6 5 rfl rfl (i_in (a := ((V 0 12)).toInt) rfl (by first | exact om_8367a84723c7 r2.1 r2.2 | first | omega | ((try (have i_x3 := Imp.go x3 (y3))); omega) | ((try (have i_t58 := Imp.go t58 (by omega))); (try (have i_t57 := Imp.go t57 (by omega))); (try (have i_t56 := Imp.go t56 (by omega))); (try (have i_xJ48_1 := Imp.go xJ48_1 (by omega))); first | omega | ((try (have i_xJ48_0 := Imp.go xJ48_0 (by omega))); (try (have i_t43 := Imp.go t43 (by omega))); (try (have i_t42 := Imp.go t42 (by omega))); (try (have i_t41 := Imp.go t41 (by omega))); first | omega | ((try (have i_t25 := Imp.go t25 (by omega))); (try (have i_t24 := Imp.go t24 (by omega))); (try (have i_t14 := Imp.go t14 (by omega))); (try (have i_t12 := Imp.go t12 (by omega))); (try (have i_x3 := Imp.go x3 (by omega))); (try (have i_x3 := Imp.go x3 (by omega))); (try (have i_t12 := Imp.go t12 (by omega))); (try (have i_t14 := Imp.go t14 (by omega))); first | omega | ((try (have i_t24 := Imp.go t24 (by omega))); (try (have i_t25 := Imp.go t25 (by omega))); (try (have i_t41 := Imp.go t41 (by omega))); (try (have i_t42 := Imp.go t42 (by omega))); first | omega | ((try (have i_t43 := Imp.go t43 (by omega))); (try (have i_xJ48_0 := Imp.go xJ48_0 (by omega))); (try (have i_xJ48_1 := Imp.go xJ48_1 (by omega))); (try (have i_t56 := Imp.go t56 (by omega))); (try (have i_t57 := Imp.go t57 (by omega))); (try (have i_t58 := Imp.go t58 (by omega))); omega))))))) dX12_toldType_143 (fun H locs hP hD hS => ?_)
              obtain ⟨V64, hV64⟩ : ∃ z, z = up2 V59 13 (Int32.toNatClampNeg (V 0 12)) z63 := ⟨_, rfl⟩
              have hP : va_P D vwCl (mw ad kk ks.1 V64 L62) H := by rw [hV64]; exact hP
              have hD : va_D A (mw ad kk ks.1 V64 L62) := by rw [hV64]; exact hD
              have hMV64 : rgd bM V64 := hMV59.put hV64 (show 0 ≤ z63.toInt ∧ z63.toInt ≤ 24 from by first | exact om_14c2878ed4e2 r4.1 r4.2 f7 hz63 | first | omega | ((try (have i_x3 := Imp.go x3 (y3))); omega) | ((try (have i_t58 := Imp.go t58 (by omega))); (try (have i_t57 := Imp.go t57 (by omega))); (try (have i_t56 := Imp.go t56 (by omega))); (try (have i_xJ48_1 := Imp.go xJ48_1 (by omega))); first | omega | ((try (have i_xJ48_0 := Imp.go xJ48_0 (by omega))); (try (have i_t43 := Imp.go t43 (by omega))); (try (have i_t42 := Imp.go t42 (by omega))); (try (have i_t41 := Imp.go t41 (by omega))); first | omega | ((try (have i_t25 := Imp.go t25 (by omega))); (try (have i_t24 := Imp.go t24 (by omega))); (try (have i_t14 := Imp.go t14 (by omega))); (try (have i_t12 := Imp.go t12 (by omega))); (try (have i_x3 := Imp.go x3 (by omega))); (try (have i_x3 := Imp.go x3 (by omega))); (try (have i_t12 := Imp.go t12 (by omega))); (try (have i_t14 := Imp.go t14 (by omega))); first | omega | ((try (have i_t24 := Imp.go t24 (by omega))); (try (have i_t25 := Imp.go t25 (by omega))); (try (have i_t41 := Imp.go t41 (by omega))); (try (have i_t42 := Imp.go t42 (by omega))); first | omega | ((try (have i_t43 := Imp.go t43 (by omega))); (try (have i_xJ48_0 := Imp.go xJ48_0 (by omega))); (try (have i_xJ48_1 := Imp.go xJ48_1 (by omega))); (try (have i_t56 := Imp.go t56 (by omega))); (try (have i_t57 := Imp.go t57 (by omega))); (try (have i_t58 := Imp.go t58 (by omega))); omega))))))
              have agV64 : agr [(0, 7), (0, 8)] [13, 14, 15, 53] V V64 := agV59.up hV64 rfl
              have pq65 : (V64 0 7).toInt = ((V59 0 7)).toInt := congrArg Int32.toInt (up2_o hV64 (by decide))
              have pq66 : (V64 0 8).toInt = ((V59 0 8)).toInt := congrArg Int32.toInt (up2_o hV64 (by decide))
              exact W.vret hx hb hr (fun t ht hW => ⟨⟨(V64, L62), rfl, ⟨hMV64, agV64, alL62, (Imp.mk (fun hp => have hp : (V64 0 8).toInt = 0 := hp; (show 0 ≤ (V64 0 7).toInt ∧ (V64 0 7).toInt ≤ n ∧ (V 0 8).toInt = 0 ∧ (V 0 7).toInt ≤ (V64 0 7).toInt from by first | exact om_cabe02208434 y3 y4.1 pq65 ((Imp.go t56 ((pq66.symm).trans (hp))).2.1) ((Imp.go t57 ((pq66.symm).trans (hp)))) ((Imp.go xJ48_1 ((Imp.go t56 ((pq66.symm).trans (hp))).2.2.1))) | first | omega | ((try (have i_t57 := Imp.go t57 ((pq66.symm).trans (hp)))); (try (have i_t56 := Imp.go t56 ((pq66.symm).trans (hp)))); (try (have i_xJ48_1 := Imp.go xJ48_1 (i_t56.2.2.1))); (try (have i_xJ48_0 := Imp.go xJ48_0 (i_t56.2.2.1))); (try (have i_x3 := Imp.go x3 (i_xJ48_0.2.2.1))); omega) | ((try (have i_t58 := Imp.go t58 (by omega))); (try (have i_t57 := Imp.go t57 (by omega))); (try (have i_t56 := Imp.go t56 (by omega))); (try (have i_xJ48_1 := Imp.go xJ48_1 (by omega))); first | omega | ((try (have i_xJ48_0 := Imp.go xJ48_0 (by omega))); (try (have i_t43 := Imp.go t43 (by omega))); (try (have i_t42 := Imp.go t42 (by omega))); (try (have i_t41 := Imp.go t41 (by omega))); first | omega | ((try (have i_t25 := Imp.go t25 (by omega))); (try (have i_t24 := Imp.go t24 (by omega))); (try (have i_t14 := Imp.go t14 (by omega))); (try (have i_t12 := Imp.go t12 (by omega))); (try (have i_x3 := Imp.go x3 (by omega))); (try (have i_x3 := Imp.go x3 (by omega))); (try (have i_t12 := Imp.go t12 (by omega))); (try (have i_t14 := Imp.go t14 (by omega))); first | omega | ((try (have i_t24 := Imp.go t24 (by omega))); (try (have i_t25 := Imp.go t25 (by omega))); (try (have i_t41 := Imp.go t41 (by omega))); (try (have i_t42 := Imp.go t42 (by omega))); first | omega | ((try (have i_t43 := Imp.go t43 (by omega))); (try (have i_xJ48_0 := Imp.go xJ48_0 (by omega))); (try (have i_xJ48_1 := Imp.go xJ48_1 (by omega))); (try (have i_t56 := Imp.go t56 (by omega))); (try (have i_t57 := Imp.go t57 (by omega))); (try (have i_t58 := Imp.go t58 (by omega))); omega)))))))), (Imp.mk (fun hp => have hp : (V64 0 8).toInt = 0 := hp; (show (V 0 7).toInt + 1 ≤ (V64 0 7).toInt from by first | exact om_964a6cf15083 pq65 ((Imp.go t57 ((pq66.symm).trans (hp)))) ((Imp.go xJ48_1 ((Imp.go t56 ((pq66.symm).trans (hp))).2.2.1))) | first | omega | ((try (have i_t57 := Imp.go t57 ((pq66.symm).trans (hp)))); (try (have i_t56 := Imp.go t56 ((pq66.symm).trans (hp)))); (try (have i_xJ48_1 := Imp.go xJ48_1 (i_t56.2.2.1))); (try (have i_xJ48_0 := Imp.go xJ48_0 (i_t56.2.2.1))); (try (have i_x3 := Imp.go x3 (i_xJ48_0.2.2.1))); omega) | ((try (have i_t58 := Imp.go t58 (by omega))); (try (have i_t57 := Imp.go t57 (by omega))); (try (have i_t56 := Imp.go t56 (by omega))); (try (have i_xJ48_1 := Imp.go xJ48_1 (by omega))); first | omega | ((try (have i_xJ48_0 := Imp.go xJ48_0 (by omega))); (try (have i_t43 := Imp.go t43 (by omega))); (try (have i_t42 := Imp.go t42 (by omega))); (try (have i_t41 := Imp.go t41 (by omega))); first | omega | ((try (have i_t25 := Imp.go t25 (by omega))); (try (have i_t24 := Imp.go t24 (by omega))); (try (have i_t14 := Imp.go t14 (by omega))); (try (have i_t12 := Imp.go t12 (by omega))); (try (have i_x3 := Imp.go x3 (by omega))); (try (have i_x3 := Imp.go x3 (by omega))); (try (have i_t12 := Imp.go t12 (by omega))); (try (have i_t14 := Imp.go t14 (by omega))); first | omega | ((try (have i_t24 := Imp.go t24 (by omega))); (try (have i_t25 := Imp.go t25 (by omega))); (try (have i_t41 := Imp.go t41 (by omega))); (try (have i_t42 := Imp.go t42 (by omega))); first | omega | ((try (have i_t43 := Imp.go t43 (by omega))); (try (have i_xJ48_0 := Imp.go xJ48_0 (by omega))); (try (have i_xJ48_1 := Imp.go xJ48_1 (by omega))); (try (have i_t56 := Imp.go t56 (by omega))); (try (have i_t57 := Imp.go t57 (by omega))); (try (have i_t58 := Imp.go t58 (by omega))); omega))))))))⟩, by rw [ht]; exact hP, va_K.moved hW.alike hK, hD⟩, hS.F ht⟩) hS.2.2 dX12_toldType_144
            refine lv_if_eq (tgt := 118) hx hb dX12_toldType_106 (by decide) (fun c67 => ?_) (fun c67 => ?_)
            · skip
              have f68 : z38.toInt = 0 := b_eq rfl (by decide) c67
              exact J48 V45 H locs ls agr.rf hMV45 (Imp.mk (fun hp => have hp : (V45 0 8).toInt = 0 := hp; (show 0 ≤ (V45 0 7).toInt ∧ (V45 0 7).toInt ≤ n ∧ (V 0 8).toInt = 0 ∧ (V 0 7).toInt ≤ (V45 0 7).toInt from by first | exact om_fb3a614ec708 y3 y4.1 pq36 ((Imp.go t25 ((pq47.symm).trans (hp)))) ((Imp.go t41 (hp)).2.1) ((Imp.go t41 (hp)).2.2.2) ((Imp.go t14 ((Imp.go t24 ((pq47.symm).trans (hp))).2.2.1))) | first | omega | ((try (have i_t43 := Imp.go t43 (f68))); (try (have i_t41 := Imp.go t41 (hp))); (try (have i_t25 := Imp.go t25 ((pq37.symm).trans (i_t41.2.2.1)))); (try (have i_t24 := Imp.go t24 ((pq37.symm).trans (i_t41.2.2.1)))); (try (have i_t14 := Imp.go t14 (i_t24.2.2.1))); (try (have i_t12 := Imp.go t12 (i_t24.2.2.1))); (try (have i_x3 := Imp.go x3 (i_t12.2.2.1))); omega) | ((try (have i_t43 := Imp.go t43 (by omega))); (try (have i_t42 := Imp.go t42 (by omega))); (try (have i_t41 := Imp.go t41 (by omega))); (try (have i_t25 := Imp.go t25 (by omega))); first | omega | ((try (have i_t24 := Imp.go t24 (by omega))); (try (have i_t14 := Imp.go t14 (by omega))); (try (have i_t12 := Imp.go t12 (by omega))); (try (have i_x3 := Imp.go x3 (by omega))); first | omega | ((try (have i_x3 := Imp.go x3 (by omega))); (try (have i_t12 := Imp.go t12 (by omega))); (try (have i_t14 := Imp.go t14 (by omega))); (try (have i_t24 := Imp.go t24 (by omega))); first | omega | ((try (have i_t25 := Imp.go t25 (by omega))); (try (have i_t41 := Imp.go t41 (by omega))); (try (have i_t42 := Imp.go t42 (by omega))); (try (have i_t43 := Imp.go t43 (by omega))); omega))))))) (Imp.mk (fun hp => have hp : (V45 0 8).toInt = 0 := hp; (show (V 0 7).toInt + 1 ≤ (V45 0 7).toInt from by first | exact om_e8d8a4aa0bbe pq36 ((Imp.go t25 ((pq47.symm).trans (hp)))) ((Imp.go t41 (hp)).2.2.2) ((Imp.go t14 ((Imp.go t24 ((pq47.symm).trans (hp))).2.2.1))) | first | omega | ((try (have i_t43 := Imp.go t43 (f68))); (try (have i_t41 := Imp.go t41 (hp))); (try (have i_t25 := Imp.go t25 ((pq37.symm).trans (i_t41.2.2.1)))); (try (have i_t24 := Imp.go t24 ((pq37.symm).trans (i_t41.2.2.1)))); (try (have i_t14 := Imp.go t14 (i_t24.2.2.1))); (try (have i_t12 := Imp.go t12 (i_t24.2.2.1))); (try (have i_x3 := Imp.go x3 (i_t12.2.2.1))); omega) | ((try (have i_t43 := Imp.go t43 (by omega))); (try (have i_t42 := Imp.go t42 (by omega))); (try (have i_t41 := Imp.go t41 (by omega))); (try (have i_t25 := Imp.go t25 (by omega))); first | omega | ((try (have i_t24 := Imp.go t24 (by omega))); (try (have i_t14 := Imp.go t14 (by omega))); (try (have i_t12 := Imp.go t12 (by omega))); (try (have i_x3 := Imp.go x3 (by omega))); first | omega | ((try (have i_x3 := Imp.go x3 (by omega))); (try (have i_t12 := Imp.go t12 (by omega))); (try (have i_t14 := Imp.go t14 (by omega))); (try (have i_t24 := Imp.go t24 (by omega))); first | omega | ((try (have i_t25 := Imp.go t25 (by omega))); (try (have i_t41 := Imp.go t41 (by omega))); (try (have i_t42 := Imp.go t42 (by omega))); (try (have i_t43 := Imp.go t43 (by omega))); omega))))))) hP hD hS (lv_sub hl [0, 1, 2, 3] rfl)
            · skip
              have f69 : z38.toInt ≠ 0 := b_neq rfl (by decide) c67
              refine lv_aload_n hx hb dX12_toldType_109 rfl (lv_at hl 3 rfl) ?_
              refine lv_aload_n hx hb dX12_toldType_110 rfl (lv_at hl 3 rfl) ?_
              refine va_get (D := D) (ci := 12) (v := .ref (ad 15)) (C := RX12) (T := TX12) (N := 100) hx hb hg inX12 hown hK hP 0 rfl rfl 15 (by decide) (hg _ w1721) (fun _ h9 => h9) rfl dX12_toldType_111 ?_
              refine lv_iload_n hx hb dX12_toldType_114 rfl (lv_at hl 2 rfl) ?_
              have pq70 : (V45 4 n).toInt = ((V 4 n)).toInt := congrArg Int32.toInt ((ajV45 4 n rfl).trans ((ajV30 4 n rfl).trans ((ajV26 4 n rfl).trans (ajV15 4 n rfl))))
              refine gA_void (gA_runV (As := [.ref (ad 15), .int z5]) (rest := []) (ci := 12) (q0 := 0) hx hb hml hown hg hP hD hK hS hA hnw hgk (s_takeTypes4 l D ks H.size ad kk V45 L z5 (n) hMV45 (by first | exact om_fb62160a9b03 r2.1 r2.2 hz3 r4.1 r4.2 hz5 f7 | first | omega | ((try (have i_t42 := Imp.go t42 (imp_a (rgz38.1) (rgz38.2) (f69)))); (try (have i_t41 := Imp.go t41 (i_t42.1))); (try (have i_t25 := Imp.go t25 ((pq37.symm).trans (i_t41.2.2.1)))); (try (have i_t24 := Imp.go t24 ((pq37.symm).trans (i_t41.2.2.1)))); (try (have i_t14 := Imp.go t14 (i_t24.2.2.1))); (try (have i_t12 := Imp.go t12 (i_t24.2.2.1))); (try (have i_x3 := Imp.go x3 (i_t12.2.2.1))); omega) | ((try (have i_t43 := Imp.go t43 (by omega))); (try (have i_t42 := Imp.go t42 (by omega))); (try (have i_t41 := Imp.go t41 (by omega))); (try (have i_t25 := Imp.go t25 (by omega))); first | omega | ((try (have i_t24 := Imp.go t24 (by omega))); (try (have i_t14 := Imp.go t14 (by omega))); (try (have i_t12 := Imp.go t12 (by omega))); (try (have i_x3 := Imp.go x3 (by omega))); first | omega | ((try (have i_x3 := Imp.go x3 (by omega))); (try (have i_t12 := Imp.go t12 (by omega))); (try (have i_t14 := Imp.go t14 (by omega))); (try (have i_t24 := Imp.go t24 (by omega))); first | omega | ((try (have i_t25 := Imp.go t25 (by omega))); (try (have i_t41 := Imp.go t41 (by omega))); (try (have i_t42 := Imp.go t42 (by omega))); (try (have i_t43 := Imp.go t43 (by omega))); omega))))) (show (V45 4 (n)).toInt = 0 from by first | exact om_36161e850215 x1 pq70 | first | omega | ((try (have i_t42 := Imp.go t42 (imp_a (rgz38.1) (rgz38.2) (f69)))); (try (have i_t41 := Imp.go t41 (i_t42.1))); (try (have i_t25 := Imp.go t25 ((pq37.symm).trans (i_t41.2.2.1)))); (try (have i_t24 := Imp.go t24 ((pq37.symm).trans (i_t41.2.2.1)))); (try (have i_t14 := Imp.go t14 (i_t24.2.2.1))); (try (have i_t12 := Imp.go t12 (i_t24.2.2.1))); (try (have i_x3 := Imp.go x3 (i_t12.2.2.1))); omega) | ((try (have i_t43 := Imp.go t43 (by omega))); (try (have i_t42 := Imp.go t42 (by omega))); (try (have i_t41 := Imp.go t41 (by omega))); (try (have i_t25 := Imp.go t25 (by omega))); first | omega | ((try (have i_t24 := Imp.go t24 (by omega))); (try (have i_t14 := Imp.go t14 (by omega))); (try (have i_t12 := Imp.go t12 (by omega))); (try (have i_x3 := Imp.go x3 (by omega))); first | omega | ((try (have i_x3 := Imp.go x3 (by omega))); (try (have i_t12 := Imp.go t12 (by omega))); (try (have i_t14 := Imp.go t14 (by omega))); (try (have i_t24 := Imp.go t24 (by omega))); first | omega | ((try (have i_t25 := Imp.go t25 (by omega))); (try (have i_t41 := Imp.go t41 (by omega))); (try (have i_t42 := Imp.go t42 (by omega))); (try (have i_t43 := Imp.go t43 (by omega))); omega))))) (show (n) ≤ 4000 from by first | exact om_af64e361c991 x2 | first | omega | ((try (have i_t42 := Imp.go t42 (imp_a (rgz38.1) (rgz38.2) (f69)))); (try (have i_t41 := Imp.go t41 (i_t42.1))); (try (have i_t25 := Imp.go t25 ((pq37.symm).trans (i_t41.2.2.1)))); (try (have i_t24 := Imp.go t24 ((pq37.symm).trans (i_t41.2.2.1)))); (try (have i_t14 := Imp.go t14 (i_t24.2.2.1))); (try (have i_t12 := Imp.go t12 (i_t24.2.2.1))); (try (have i_x3 := Imp.go x3 (i_t12.2.2.1))); omega) | ((try (have i_t43 := Imp.go t43 (by omega))); (try (have i_t42 := Imp.go t42 (by omega))); (try (have i_t41 := Imp.go t41 (by omega))); (try (have i_t25 := Imp.go t25 (by omega))); first | omega | ((try (have i_t24 := Imp.go t24 (by omega))); (try (have i_t14 := Imp.go t14 (by omega))); (try (have i_t12 := Imp.go t12 (by omega))); (try (have i_x3 := Imp.go x3 (by omega))); first | omega | ((try (have i_x3 := Imp.go x3 (by omega))); (try (have i_t12 := Imp.go t12 (by omega))); (try (have i_t14 := Imp.go t14 (by omega))); (try (have i_t24 := Imp.go t24 (by omega))); first | omega | ((try (have i_t25 := Imp.go t25 (by omega))); (try (have i_t41 := Imp.go t41 (by omega))); (try (have i_t42 := Imp.go t42 (by omega))); (try (have i_t43 := Imp.go t43 (by omega))); omega))))) (Imp.mk (fun hp => have hp : (V45 0 8).toInt = 0 := hp; (show 0 ≤ (V45 0 7).toInt ∧ (V45 0 7).toInt ≤ (n) from by first | exact om_3eaef8d595ce y4.1 pq36 ((Imp.go t25 ((pq47.symm).trans (hp)))) ((Imp.go t41 (hp)).2.1) ((Imp.go t42 (imp_a (rgz38.1) (rgz38.2) (f69))).2) ((Imp.go t14 ((Imp.go t24 ((pq47.symm).trans (hp))).2.2.1))) | first | omega | ((try (have i_t42 := Imp.go t42 (imp_a (rgz38.1) (rgz38.2) (f69)))); (try (have i_t41 := Imp.go t41 (i_t42.1))); (try (have i_t25 := Imp.go t25 ((pq37.symm).trans (i_t41.2.2.1)))); (try (have i_t24 := Imp.go t24 ((pq37.symm).trans (i_t41.2.2.1)))); (try (have i_t14 := Imp.go t14 (i_t24.2.2.1))); (try (have i_t12 := Imp.go t12 (i_t24.2.2.1))); (try (have i_x3 := Imp.go x3 (i_t12.2.2.1))); omega) | ((try (have i_t43 := Imp.go t43 (by omega))); (try (have i_t42 := Imp.go t42 (by omega))); (try (have i_t41 := Imp.go t41 (by omega))); (try (have i_t25 := Imp.go t25 (by omega))); first | omega | ((try (have i_t24 := Imp.go t24 (by omega))); (try (have i_t14 := Imp.go t14 (by omega))); (try (have i_t12 := Imp.go t12 (by omega))); (try (have i_x3 := Imp.go x3 (by omega))); first | omega | ((try (have i_x3 := Imp.go x3 (by omega))); (try (have i_t12 := Imp.go t12 (by omega))); (try (have i_t14 := Imp.go t14 (by omega))); (try (have i_t24 := Imp.go t24 (by omega))); first | omega | ((try (have i_t25 := Imp.go t25 (by omega))); (try (have i_t41 := Imp.go t41 (by omega))); (try (have i_t42 := Imp.go t42 (by omega))); (try (have i_t43 := Imp.go t43 (by omega))); omega)))))))) w2055 w2057 w91 w172 w2058 rfl rfl hdV_yX12_takeTypes ⟨Nat.le_of_ble_eq_true rfl, Nat.le_of_ble_eq_true rfl⟩ rfl hl.1 rfl (Nat.le_of_ble_eq_true rfl) dX12_toldType_115 ⟨Nat.le_of_ble_eq_true rfl, Nat.le_of_ble_eq_true rfl⟩) hP hD hK hS hA (fun u72 H locs w73 hP hD hK hS => ?_)
              obtain ⟨V75, L76⟩ := u72
              obtain ⟨hMV75, ajV75, axL76, t74⟩ := w73
              have axL76 : L = L76 := Eq.symm axL76
              subst axL76
              replace hP : va_P D vwCl (mw ad kk ks.1 V75 L) H := hP
              replace hD : va_D A (mw ad kk ks.1 V75 L) := hD
              replace hMV75 : rgd bM V75 := hMV75
              replace ajV75 : agr [(0, 7), (0, 8)] [15, 53] V45 V75 := ajV75
              have agV75 : agr [(0, 7), (0, 8)] [13, 14, 15, 53] V V75 := agV45.tr ajV75 (by decide) (by decide)
              replace t74 : Imp ((V75 0 8).toInt = 0) (0 ≤ (V75 0 7).toInt ∧ (V75 0 7).toInt ≤ (n) ∧ (V45 0 8).toInt = 0 ∧ (V45 0 7).toInt ≤ (V75 0 7).toInt) := t74
              have r77 : 0 ≤ ((V75 0 8)).toInt ∧ ((V75 0 8)).toInt ≤ 70000 := hMV75 0 8
              exact J48 V75 H locs ls (agr.tr agr.rf ajV75 (by decide) (by decide)) hMV75 (Imp.mk (fun hp => have hp : (V75 0 8).toInt = 0 := hp; (show 0 ≤ (V75 0 7).toInt ∧ (V75 0 7).toInt ≤ n ∧ (V 0 8).toInt = 0 ∧ (V 0 7).toInt ≤ (V75 0 7).toInt from by first | exact om_d8845877c309 y3 y4.1 pq36 ((Imp.go t42 (imp_a (rgz38.1) (rgz38.2) (f69))).2) ((Imp.go t74 (hp)).2.1) ((Imp.go t74 (hp)).2.2.2) ((Imp.go t25 ((pq47.symm).trans ((Imp.go t74 (hp)).2.2.1)))) ((Imp.go t14 ((Imp.go t24 ((pq47.symm).trans ((Imp.go t74 (hp)).2.2.1))).2.2.1))) | first | omega | ((try (have i_t74 := Imp.go t74 (hp))); (try (have i_t42 := Imp.go t42 (imp_a (rgz38.1) (rgz38.2) (f69)))); (try (have i_t41 := Imp.go t41 (i_t42.1))); (try (have i_t25 := Imp.go t25 ((pq37.symm).trans (i_t41.2.2.1)))); (try (have i_t24 := Imp.go t24 ((pq37.symm).trans (i_t41.2.2.1)))); (try (have i_t14 := Imp.go t14 (i_t24.2.2.1))); (try (have i_t12 := Imp.go t12 (i_t24.2.2.1))); (try (have i_x3 := Imp.go x3 (i_t12.2.2.1))); omega) | ((try (have i_t74 := Imp.go t74 (by omega))); (try (have i_t43 := Imp.go t43 (by omega))); (try (have i_t42 := Imp.go t42 (by omega))); (try (have i_t41 := Imp.go t41 (by omega))); first | omega | ((try (have i_t25 := Imp.go t25 (by omega))); (try (have i_t24 := Imp.go t24 (by omega))); (try (have i_t14 := Imp.go t14 (by omega))); (try (have i_t12 := Imp.go t12 (by omega))); first | omega | ((try (have i_x3 := Imp.go x3 (by omega))); (try (have i_x3 := Imp.go x3 (by omega))); (try (have i_t12 := Imp.go t12 (by omega))); (try (have i_t14 := Imp.go t14 (by omega))); first | omega | ((try (have i_t24 := Imp.go t24 (by omega))); (try (have i_t25 := Imp.go t25 (by omega))); (try (have i_t41 := Imp.go t41 (by omega))); (try (have i_t42 := Imp.go t42 (by omega))); (try (have i_t43 := Imp.go t43 (by omega))); (try (have i_t74 := Imp.go t74 (by omega))); omega))))))) (Imp.mk (fun hp => have hp : (V75 0 8).toInt = 0 := hp; (show (V 0 7).toInt + 1 ≤ (V75 0 7).toInt from by first | exact om_8baef142d00f pq36 ((Imp.go t42 (imp_a (rgz38.1) (rgz38.2) (f69))).2) ((Imp.go t74 (hp)).2.2.2) ((Imp.go t25 ((pq47.symm).trans ((Imp.go t74 (hp)).2.2.1)))) ((Imp.go t14 ((Imp.go t24 ((pq47.symm).trans ((Imp.go t74 (hp)).2.2.1))).2.2.1))) | first | omega | ((try (have i_t74 := Imp.go t74 (hp))); (try (have i_t42 := Imp.go t42 (imp_a (rgz38.1) (rgz38.2) (f69)))); (try (have i_t41 := Imp.go t41 (i_t42.1))); (try (have i_t25 := Imp.go t25 ((pq37.symm).trans (i_t41.2.2.1)))); (try (have i_t24 := Imp.go t24 ((pq37.symm).trans (i_t41.2.2.1)))); (try (have i_t14 := Imp.go t14 (i_t24.2.2.1))); (try (have i_t12 := Imp.go t12 (i_t24.2.2.1))); (try (have i_x3 := Imp.go x3 (i_t12.2.2.1))); omega) | ((try (have i_t74 := Imp.go t74 (by omega))); (try (have i_t43 := Imp.go t43 (by omega))); (try (have i_t42 := Imp.go t42 (by omega))); (try (have i_t41 := Imp.go t41 (by omega))); first | omega | ((try (have i_t25 := Imp.go t25 (by omega))); (try (have i_t24 := Imp.go t24 (by omega))); (try (have i_t14 := Imp.go t14 (by omega))); (try (have i_t12 := Imp.go t12 (by omega))); first | omega | ((try (have i_x3 := Imp.go x3 (by omega))); (try (have i_x3 := Imp.go x3 (by omega))); (try (have i_t12 := Imp.go t12 (by omega))); (try (have i_t14 := Imp.go t14 (by omega))); first | omega | ((try (have i_t24 := Imp.go t24 (by omega))); (try (have i_t25 := Imp.go t25 (by omega))); (try (have i_t41 := Imp.go t41 (by omega))); (try (have i_t42 := Imp.go t42 (by omega))); (try (have i_t43 := Imp.go t43 (by omega))); (try (have i_t74 := Imp.go t74 (by omega))); omega))))))) hP hD hS (lv_sub hl [0, 1, 2, 3] rfl)
          · skip
            have f78 : y29.toInt < 24 := b_nle (by decide) rfl c32
            refine lv_aload_n hx hb dX12_toldType_64 rfl (lv_at hl 3 rfl) ?_
            refine va_get (D := D) (ci := 12) (v := .ref (ad 15)) (C := RX12) (T := TX12) (N := 100) hx hb hg inX12 hown hK hP 0 rfl rfl 15 (by decide) (hg _ w1721) (fun _ h9 => h9) rfl dX12_toldType_65 ?_
            refine lv_bipush (v := 24) hx hb dX12_toldType_68 (by decide) ?_
            refine lv_iload_n hx hb dX12_toldType_70 rfl (lv_at hl 2 rfl) ?_
            refine lv_imul hx hb dX12_toldType_71 ?_
            refine lv_topi (fun z79 ez79 => ?_)
            have hz79 : z79.toInt = 24 * z5.toInt := i_mul ez79 (by decide) rfl (by (first | exact om_5113af4dba16 r2.1 r2.2 hz3 r4.1 r4.2 hz5 f7 | omega))
            refine lv_iload hx hb dX12_toldType_72 (lv_at hl 0 rfl) ?_
            refine lv_iadd hx hb dX12_toldType_74 ?_
            refine lv_topi (fun z80 ez80 => ?_)
            have hz80 : z80.toInt = z79.toInt + y29.toInt := i_add ez80 rfl rfl (by (first | exact om_4a290ed80e15 r2.1 r2.2 hz3 r4.1 r4.2 hz5 f7 klp31_0.1 f78 hz79 | omega))
            refine lv_iload hx hb dX12_toldType_75 (lv_at hl 0 rfl) ?_
            refine lv_aload_n hx hb dX12_toldType_77 rfl (lv_at hl 3 rfl) ?_
            refine va_get (D := D) (ci := 12) (v := .ref (ad 13)) (C := RX12) (T := TX12) (N := 100) hx hb hg inX12 hown hK hP 0 rfl rfl 13 (by decide) (hg _ w1719) (fun _ h9 => h9) rfl dX12_toldType_78 ?_
            refine lv_aload_n hx hb dX12_toldType_81 rfl (lv_at hl 3 rfl) ?_
            refine va_get (D := D) (ci := 12) (v := .int (V30 0 12)) (C := RX12) (T := TX12) (N := 100) hx hb hg inX12 hown hK hP 0 rfl rfl 12 (by decide) (hg _ w1718) (fun _ h9 => h9) rfl dX12_toldType_82 ?_
            refine g_top (v := (V 0 12)) ((ajV30 0 12 rfl).trans ((ajV26 0 12 rfl).trans (ajV15 0 12 rfl))) ?_
            refine va_iald (D := D) (i := (V 0 12)) hx hb hK hP 6 5 rfl rfl (i_in (a := ((V 0 12)).toInt) rfl (by first | exact om_8367a84723c7 r2.1 r2.2 | first | omega | ((try (have i_x3 := Imp.go x3 (y3))); omega) | ((try (have i_t25 := Imp.go t25 (by omega))); (try (have i_t24 := Imp.go t24 (by omega))); (try (have i_t14 := Imp.go t14 (by omega))); (try (have i_t12 := Imp.go t12 (by omega))); first | omega | ((try (have i_x3 := Imp.go x3 (by omega))); (try (have i_x3 := Imp.go x3 (by omega))); (try (have i_t12 := Imp.go t12 (by omega))); (try (have i_t14 := Imp.go t14 (by omega))); (try (have i_t24 := Imp.go t24 (by omega))); (try (have i_t25 := Imp.go t25 (by omega))); omega)))) dX12_toldType_85 ?_
            refine g_top (v := (V 13 (Int32.toNatClampNeg (V 0 12)))) ((ajV30 13 (Int32.toNatClampNeg (V 0 12)) rfl).trans ((ajV26 13 (Int32.toNatClampNeg (V 0 12)) rfl).trans (ajV15 13 (Int32.toNatClampNeg (V 0 12)) rfl))) ?_
            refine lv_icmp_ne (tgt := 93) hx hb dX12_toldType_86 (by decide) (fun c81 => ?_) (fun c81 => ?_)
            · skip
              have f82 : y29.toInt ≠ ((V 13 (Int32.toNatClampNeg (V 0 12)))).toInt := b_neq rfl rfl c81
              refine lv_iconst (v := 0) hx hb dX12_toldType_93 (by decide) ?_
              refine va_zast (D := D) (i := z80) (x := 0) hx hb hK hP hD hS 8 7 rfl rfl (i_in (a := z80.toInt) rfl (by first | exact om_981286914071 r2.1 r2.2 hz3 r4.1 r4.2 hz5 f7 klp31_0.1 f78 hz79 hz80 | first | omega | ((try (have i_x3 := Imp.go x3 (y3))); omega) | ((try (have i_t25 := Imp.go t25 (by omega))); (try (have i_t24 := Imp.go t24 (by omega))); (try (have i_t14 := Imp.go t14 (by omega))); (try (have i_t12 := Imp.go t12 (by omega))); first | omega | ((try (have i_x3 := Imp.go x3 (by omega))); (try (have i_x3 := Imp.go x3 (by omega))); (try (have i_t12 := Imp.go t12 (by omega))); (try (have i_t14 := Imp.go t14 (by omega))); (try (have i_t24 := Imp.go t24 (by omega))); (try (have i_t25 := Imp.go t25 (by omega))); omega)))) dX12_toldType_94 (fun H locs hP hD hS => ?_)
              obtain ⟨V83, hV83⟩ : ∃ z, z = up2 V30 15 (Int32.toNatClampNeg z80) (vp_nar .boolean 0) := ⟨_, rfl⟩
              have hP : va_P D vwCl (mw ad kk ks.1 V83 L) H := by rw [hV83]; exact hP
              have hD : va_D A (mw ad kk ks.1 V83 L) := by rw [hV83]; exact hD
              have hMV83 : rgd bM V83 := hMV30.put hV83 (nar_b _)
              have agV83 : agr [(0, 7), (0, 8)] [13, 14, 15, 53] V V83 := agV30.up hV83 rfl
              obtain ⟨z84, ez84⟩ : ∃ y : Int32, y = y29 + 1 := ⟨_, rfl⟩
              have hz84 : z84.toInt = y29.toInt + 1 := i_add ez84 rfl (by decide) (by (first | exact om_bc9106cf44c9 klp31_0.1 f78 | omega))
              refine lv_iinc (v := z84) (lv' := [(4, .int z84), (2, .long z21), (1, .int z5), (0, .ref (ad 0))]) hx hb dX12_toldType_95 hl (k := 0) rfl (by rw [ez84]; rfl) (by decide) rfl (fun ls hl => ?_)
              refine lv_goto (tgt := 57) hx hb dX12_toldType_98 (by decide) ?_
              exact ihlp31 z84 V83 H locs ls (by first | exact om_a5349b170263 klp31_0.1 f78 hz84 | first | omega | ((try (have i_x3 := Imp.go x3 (y3))); omega) | ((try (have i_t25 := Imp.go t25 (by omega))); (try (have i_t24 := Imp.go t24 (by omega))); (try (have i_t14 := Imp.go t14 (by omega))); (try (have i_t12 := Imp.go t12 (by omega))); first | omega | ((try (have i_x3 := Imp.go x3 (by omega))); (try (have i_x3 := Imp.go x3 (by omega))); (try (have i_t12 := Imp.go t12 (by omega))); (try (have i_t14 := Imp.go t14 (by omega))); (try (have i_t24 := Imp.go t24 (by omega))); (try (have i_t25 := Imp.go t25 (by omega))); omega))) (by first | exact om_9592d9319ffa hn hz84 | first | omega | ((try (have i_x3 := Imp.go x3 (y3))); omega) | ((try (have i_t25 := Imp.go t25 (by omega))); (try (have i_t24 := Imp.go t24 (by omega))); (try (have i_t14 := Imp.go t14 (by omega))); (try (have i_t12 := Imp.go t12 (by omega))); first | omega | ((try (have i_x3 := Imp.go x3 (by omega))); (try (have i_x3 := Imp.go x3 (by omega))); (try (have i_t12 := Imp.go t12 (by omega))); (try (have i_t14 := Imp.go t14 (by omega))); (try (have i_t24 := Imp.go t24 (by omega))); (try (have i_t25 := Imp.go t25 (by omega))); omega))) (agr.up (agr.tr agr.rf ajV30 (by decide) (by decide)) hV83 rfl) hMV83 hP hD hS (lv_sub hl [0, 1, 2, 3] rfl)
            · skip
              have f85 : y29.toInt = ((V 13 (Int32.toNatClampNeg (V 0 12)))).toInt := b_eq rfl rfl c81
              refine lv_iconst (v := 1) hx hb dX12_toldType_89 (by decide) ?_
              refine lv_goto (tgt := 94) hx hb dX12_toldType_90 (by decide) ?_
              refine va_zast (D := D) (i := z80) (x := 1) hx hb hK hP hD hS 8 7 rfl rfl (i_in (a := z80.toInt) rfl (by first | exact om_3b5d7f6749bc r2.1 r2.2 hz3 hz5 klp31_0.1 f78 hz79 hz80 f85 | first | omega | ((try (have i_x3 := Imp.go x3 (y3))); omega) | ((try (have i_t25 := Imp.go t25 (by omega))); (try (have i_t24 := Imp.go t24 (by omega))); (try (have i_t14 := Imp.go t14 (by omega))); (try (have i_t12 := Imp.go t12 (by omega))); first | omega | ((try (have i_x3 := Imp.go x3 (by omega))); (try (have i_x3 := Imp.go x3 (by omega))); (try (have i_t12 := Imp.go t12 (by omega))); (try (have i_t14 := Imp.go t14 (by omega))); (try (have i_t24 := Imp.go t24 (by omega))); (try (have i_t25 := Imp.go t25 (by omega))); omega)))) dX12_toldType_94 (fun H locs hP hD hS => ?_)
              obtain ⟨V86, hV86⟩ : ∃ z, z = up2 V30 15 (Int32.toNatClampNeg z80) (vp_nar .boolean 1) := ⟨_, rfl⟩
              have hP : va_P D vwCl (mw ad kk ks.1 V86 L) H := by rw [hV86]; exact hP
              have hD : va_D A (mw ad kk ks.1 V86 L) := by rw [hV86]; exact hD
              have hMV86 : rgd bM V86 := hMV30.put hV86 (nar_b _)
              have agV86 : agr [(0, 7), (0, 8)] [13, 14, 15, 53] V V86 := agV30.up hV86 rfl
              obtain ⟨z87, ez87⟩ : ∃ y : Int32, y = y29 + 1 := ⟨_, rfl⟩
              have hz87 : z87.toInt = y29.toInt + 1 := i_add ez87 rfl (by decide) (by (first | exact om_bc9106cf44c9 klp31_0.1 f78 | omega))
              refine lv_iinc (v := z87) (lv' := [(4, .int z87), (2, .long z21), (1, .int z5), (0, .ref (ad 0))]) hx hb dX12_toldType_95 hl (k := 0) rfl (by rw [ez87]; rfl) (by decide) rfl (fun ls hl => ?_)
              refine lv_goto (tgt := 57) hx hb dX12_toldType_98 (by decide) ?_
              exact ihlp31 z87 V86 H locs ls (by first | exact om_a5349b170263 klp31_0.1 f78 hz87 | first | omega | ((try (have i_x3 := Imp.go x3 (y3))); omega) | ((try (have i_t25 := Imp.go t25 (by omega))); (try (have i_t24 := Imp.go t24 (by omega))); (try (have i_t14 := Imp.go t14 (by omega))); (try (have i_t12 := Imp.go t12 (by omega))); first | omega | ((try (have i_x3 := Imp.go x3 (by omega))); (try (have i_x3 := Imp.go x3 (by omega))); (try (have i_t12 := Imp.go t12 (by omega))); (try (have i_t14 := Imp.go t14 (by omega))); (try (have i_t24 := Imp.go t24 (by omega))); (try (have i_t25 := Imp.go t25 (by omega))); omega))) (by first | exact om_9592d9319ffa hn hz87 | first | omega | ((try (have i_x3 := Imp.go x3 (y3))); omega) | ((try (have i_t25 := Imp.go t25 (by omega))); (try (have i_t24 := Imp.go t24 (by omega))); (try (have i_t14 := Imp.go t14 (by omega))); (try (have i_t12 := Imp.go t12 (by omega))); first | omega | ((try (have i_x3 := Imp.go x3 (by omega))); (try (have i_x3 := Imp.go x3 (by omega))); (try (have i_t12 := Imp.go t12 (by omega))); (try (have i_t14 := Imp.go t14 (by omega))); (try (have i_t24 := Imp.go t24 (by omega))); (try (have i_t25 := Imp.go t25 (by omega))); omega))) (agr.up (agr.tr agr.rf ajV30 (by decide) (by decide)) hV86 rfl) hMV86 hP hD hS (lv_sub hl [0, 1, 2, 3] rfl)
      exact lp31 ((24 - (Int32.toInt 0) + 1 : Int).toNat) 0 V26 H locs ls (by decide) (by first | exact om_817980d3aa47 | first | omega | ((try (have i_x3 := Imp.go x3 (y3))); omega) | ((try (have i_t25 := Imp.go t25 (by omega))); (try (have i_t24 := Imp.go t24 (by omega))); (try (have i_t14 := Imp.go t14 (by omega))); (try (have i_t12 := Imp.go t12 (by omega))); first | omega | ((try (have i_x3 := Imp.go x3 (by omega))); (try (have i_x3 := Imp.go x3 (by omega))); (try (have i_t12 := Imp.go t12 (by omega))); (try (have i_t14 := Imp.go t14 (by omega))); (try (have i_t24 := Imp.go t24 (by omega))); (try (have i_t25 := Imp.go t25 (by omega))); omega))) agr.rf hMV26 hP hD hS (lv_sub hl [0, 1, 2, 3] rfl)
    · skip
      have f88 : 0 < ((V15 0 8)).toInt := b_nle rfl (by decide) c18
      exact W.vret hx hb hr (fun t ht hW => ⟨⟨(V15, L), rfl, ⟨hMV15, agV15, alL, (Imp.mk (fun hp => have hp : (V15 0 8).toInt = 0 := hp; (show 0 ≤ (V15 0 7).toInt ∧ (V15 0 7).toInt ≤ n ∧ (V 0 8).toInt = 0 ∧ (V 0 7).toInt ≤ (V15 0 7).toInt from by first | omega | ((try (have i_t14 := Imp.go t14 (by omega))); (try (have i_t12 := Imp.go t12 (by omega))); (try (have i_x3 := Imp.go x3 (by omega))); (try (have i_x3 := Imp.go x3 (by omega))); (try (have i_t12 := Imp.go t12 (by omega))); (try (have i_t14 := Imp.go t14 (by omega))); omega)))), (Imp.mk (fun hp => have hp : (V15 0 8).toInt = 0 := hp; (show (V 0 7).toInt + 1 ≤ (V15 0 7).toInt from by first | omega | ((try (have i_t14 := Imp.go t14 (by omega))); (try (have i_t12 := Imp.go t12 (by omega))); (try (have i_x3 := Imp.go x3 (by omega))); (try (have i_x3 := Imp.go x3 (by omega))); (try (have i_t12 := Imp.go t12 (by omega))); (try (have i_t14 := Imp.go t14 (by omega))); omega))))⟩, by rw [ht]; exact hP, va_K.moved hW.alike hK, hD⟩, hS.F ht⟩) hS.2.2 dX12_toldType_48
  · skip
    have f89 : ((V 13 (Int32.toNatClampNeg (V 0 12)))).toInt = 24 := b_eq rfl (by decide) c6
    refine lv_iconst (v := 1) hx hb dX12_toldType_33 (by decide) ?_
    refine lv_goto (tgt := 38) hx hb dX12_toldType_34 (by decide) ?_
    have r90 : Int32.toInt 1 = 1 := by decide
    refine gA_void (gA_runV (As := [.int 1]) (rest := []) (ci := 12) (q0 := 0) hx hb hml hown hg hP hD hK hS hA hnw hgk (s_begins l D ks H.size ad kk V L 1 (n) hMV (by decide) (show (V 4 (n)).toInt = 0 from by first | exact om_b66ba74381d5 x1 | first | omega | ((try (have i_x3 := Imp.go x3 (by omega))); omega)) (show (n) ≤ 4000 from by first | exact om_af64e361c991 x2 | first | omega | ((try (have i_x3 := Imp.go x3 (by omega))); omega)) (Imp.mk (fun hp => have hp : (V 0 8).toInt = 0 := hp; (show 0 ≤ (V 0 7).toInt ∧ (V 0 7).toInt ≤ (n) from by first | exact om_7a329117c856 y4.1 y4.2 | first | omega | ((try (have i_x3 := Imp.go x3 (by omega))); omega)))) (Imp.mk (fun hp => have hp : (V 0 8).toInt = 0 := hp; (show (V 0 7).toInt < (n) from by first | exact om_ce86bdf40212 y4.2 | first | omega | ((try (have i_x3 := Imp.go x3 (by omega))); omega))))) w2031 w2033 w85 w172 w2034 rfl rfl hdV_yX12_begins ⟨Nat.le_of_ble_eq_true rfl, Nat.le_of_ble_eq_true rfl⟩ rfl hl.1 rfl (Nat.le_of_ble_eq_true rfl) dX12_toldType_38 ⟨Nat.le_of_ble_eq_true rfl, Nat.le_of_ble_eq_true rfl⟩) hP hD hK hS hA (fun u92 H locs w93 hP hD hK hS => ?_)
    obtain ⟨V97, L98⟩ := u92
    obtain ⟨hMV97, ajV97, axL98, t94, t95, t96⟩ := w93
    have axL98 : L = L98 := Eq.symm axL98
    subst axL98
    replace hP : va_P D vwCl (mw ad kk ks.1 V97 L) H := hP
    replace hD : va_D A (mw ad kk ks.1 V97 L) := hD
    replace hMV97 : rgd bM V97 := hMV97
    replace ajV97 : agr [(0, 7), (0, 8)] [] V V97 := ajV97
    have agV97 : agr [(0, 7), (0, 8)] [13, 14, 15, 53] V V97 := agV.tr ajV97 (by decide) (by decide)
    replace t94 : Imp ((V97 0 8).toInt = 0) (0 ≤ (V97 0 7).toInt ∧ (V97 0 7).toInt ≤ (n) ∧ (V 0 8).toInt = 0 ∧ (V 0 7).toInt ≤ (V97 0 7).toInt) := t94
    have t95 : 1 ≤ (V97 0 8).toInt := Imp.go t95 (by decide)
    replace t96 : Imp ((V97 0 8).toInt = 0) ((V 0 7).toInt + 1 ≤ (V97 0 7).toInt) := t96
    have r99 : 0 ≤ ((V97 0 8)).toInt ∧ ((V97 0 8)).toInt ≤ 70000 := hMV97 0 8
    refine lv_aload_n hx hb dX12_toldType_41 rfl (lv_at hl 1 rfl) ?_
    refine va_get (D := D) (ci := 12) (v := .int (V97 0 8)) (C := RX12) (T := TX12) (N := 100) hx hb hg inX12 hown hK hP 0 rfl rfl 8 (by decide) (hg _ w1714) (fun _ h9 => h9) rfl dX12_toldType_42 ?_
    refine lv_if_le (tgt := 49) hx hb dX12_toldType_45 (by decide) (fun c100 => ?_) (fun c100 => ?_)
    · skip
      have f101 : ((V97 0 8)).toInt ≤ 0 := b_le rfl (by decide) c100
      exfalso; first | exact om_f4ec09d15507 t95 f101 | first | omega | ((try (have i_t96 := Imp.go t96 (by omega))); (try (have i_t94 := Imp.go t94 (by omega))); (try (have i_x3 := Imp.go x3 (by omega))); (try (have i_x3 := Imp.go x3 (by omega))); (try (have i_t94 := Imp.go t94 (by omega))); (try (have i_t96 := Imp.go t96 (by omega))); omega)
    · skip
      have f102 : 0 < ((V97 0 8)).toInt := b_nle rfl (by decide) c100
      exact W.vret hx hb hr (fun t ht hW => ⟨⟨(V97, L), rfl, ⟨hMV97, agV97, alL, (Imp.mk (fun hp => have hp : (V97 0 8).toInt = 0 := hp; (show 0 ≤ (V97 0 7).toInt ∧ (V97 0 7).toInt ≤ n ∧ (V 0 8).toInt = 0 ∧ (V 0 7).toInt ≤ (V97 0 7).toInt from by first | omega | ((try (have i_t96 := Imp.go t96 (by omega))); (try (have i_t94 := Imp.go t94 (by omega))); (try (have i_x3 := Imp.go x3 (by omega))); (try (have i_x3 := Imp.go x3 (by omega))); (try (have i_t94 := Imp.go t94 (by omega))); (try (have i_t96 := Imp.go t96 (by omega))); omega)))), (Imp.mk (fun hp => have hp : (V97 0 8).toInt = 0 := hp; (show (V 0 7).toInt + 1 ≤ (V97 0 7).toInt from by first | omega | ((try (have i_t96 := Imp.go t96 (by omega))); (try (have i_t94 := Imp.go t94 (by omega))); (try (have i_x3 := Imp.go x3 (by omega))); (try (have i_x3 := Imp.go x3 (by omega))); (try (have i_t94 := Imp.go t94 (by omega))); (try (have i_t96 := Imp.go t96 (by omega))); omega))))⟩, by rw [ht]; exact hP, va_K.moved hW.alike hK, hD⟩, hS.F ht⟩) hS.2.2 dX12_toldType_48
abbrev r_s_forget2 : Room := { frames := 0, cells := 0, slots := 0, locals := 0 }
abbrev q_s_forget2 (D : va_G) (ks : KS) (ad : Nat → Nat) (kk : Nat → ClassId) (V : Vf) (L : Lf) (A : Nat → Prop) : Array Value → State → Outcome → State → Prop := va_Qv (fun (u : Vf × Lf) => rgd bM u.1 ∧ agr [(0, 54), (0, 55), (0, 60), (0, 65), (0, 69), (0, 70), (0, 71), (0, 72), (0, 73), (0, 76), (0, 81)] [56, 57, 59] V u.1 ∧ u.2 = L ∧ ((u.1 0 60).toInt = 0 ∧ (u.1 0 54).toInt = 0 ∧ (u.1 0 65).toInt = 0 ∧ (u.1 0 73).toInt = 0 ∧ (u.1 0 76).toInt = 0) ∧ ((u.1 0 55).toInt = 1)) (fun u t => gq D A (mw ad kk ks.1 u.1 u.2) (mty kk) t) A
set_option maxHeartbeats 4000000 in
set_option maxRecDepth 100000 in
theorem s_forget2 (l : Launch) (D : va_G) (ks : KS) (sz : Nat) (ad : Nat → Nat) (kk : Nat → ClassId) (V : Vf) (L : Lf)  (hMV : rgd bM V)  : Met l yX12_forget (Cond.code yX12_forget cX12_forget 2 none :: GW) r_s_forget2 (va_Pc [.ref (ad 0)] (gp D ks (mw ad kk ks.1 V L) (mty kk) sz)) (q_s_forget2 D ks ad kk V L  (va_A (mw ad kk ks.1 V L) sz)) 0 0 (va_A (mw ad kk ks.1 V L) sz) := by
  refine g_met (q_s_forget2 D ks ad kk V L) (by decide) (Nat.le_of_ble_eq_true rfl) ?_
  intro p e s m below meth c A ls H locs hx hb hr hml hown hg hlocks hin hnw hgk hP hK hD hS hA hl
  replace hown : s.vm.findClass RX12 = some m.cls := hown
  replace hl : lv_has ls 2 [(0, .ref (ad 0))] := hl
  replace hP : va_P D vwCl (mw ad kk ks.1 V L) H := hP
  replace hD : va_D A (mw ad kk ks.1 V L) := hD
  replace hK : va_K D vwCl (mty kk) s := hK
  have agV : agr [(0, 54), (0, 55), (0, 60), (0, 65), (0, 69), (0, 70), (0, 71), (0, 72), (0, 73), (0, 76), (0, 81)] [56, 57, 59] V V := agr.rf
  refine lv_aload_n hx hb dX12_forget_0 rfl (lv_at hl 0 rfl) ?_
  refine lv_iconst (v := 0) hx hb dX12_forget_1 (by decide) ?_
  refine va_put (D := D) (ci := 12) (v := .int 0) (ty := tyX12 54) (C := RX12) (T := TX12) (N := 100) hx hb hg inX12 tyX12 tyX12_ok nmX12 hown hK hP hD hS 0 rfl rfl 54 (by decide) (hg _ w1760) (fun _ h9 => h9) rfl (tyX12_ok 54 (by decide)) rfl rfl (Nat.le_of_ble_eq_true rfl) dX12_forget_2 (fun H locs hP hD hS => ?_)
  obtain ⟨V1, hV1⟩ : ∃ z, z = up2 V 0 54 0 := ⟨_, rfl⟩
  have hP : va_P D vwCl (mw ad kk ks.1 V1 L) H := by rw [hV1]; exact hP
  have hD : va_D A (mw ad kk ks.1 V1 L) := by rw [hV1]; exact hD
  have hMV1 : rgd bM V1 := hMV.put hV1 (by decide)
  have agV1 : agr [(0, 54), (0, 55), (0, 60), (0, 65), (0, 69), (0, 70), (0, 71), (0, 72), (0, 73), (0, 76), (0, 81)] [56, 57, 59] V V1 := agV.up hV1 rfl
  refine lv_aload_n hx hb dX12_forget_5 rfl (lv_at hl 0 rfl) ?_
  refine lv_iconst (v := 1) hx hb dX12_forget_6 (by decide) ?_
  refine va_put (D := D) (ci := 12) (v := .int 1) (ty := tyX12 55) (C := RX12) (T := TX12) (N := 100) hx hb hg inX12 tyX12 tyX12_ok nmX12 hown hK hP hD hS 0 rfl rfl 55 (by decide) (hg _ w1761) (fun _ h9 => h9) rfl (tyX12_ok 55 (by decide)) rfl rfl (Nat.le_of_ble_eq_true rfl) dX12_forget_7 (fun H locs hP hD hS => ?_)
  obtain ⟨V2, hV2⟩ : ∃ z, z = up2 V1 0 55 1 := ⟨_, rfl⟩
  have hP : va_P D vwCl (mw ad kk ks.1 V2 L) H := by rw [hV2]; exact hP
  have hD : va_D A (mw ad kk ks.1 V2 L) := by rw [hV2]; exact hD
  have hMV2 : rgd bM V2 := hMV1.put hV2 (by decide)
  have agV2 : agr [(0, 54), (0, 55), (0, 60), (0, 65), (0, 69), (0, 70), (0, 71), (0, 72), (0, 73), (0, 76), (0, 81)] [56, 57, 59] V V2 := agV1.up hV2 rfl
  refine lv_aload_n hx hb dX12_forget_10 rfl (lv_at hl 0 rfl) ?_
  refine va_get (D := D) (ci := 12) (v := .ref (ad 56)) (C := RX12) (T := TX12) (N := 100) hx hb hg inX12 hown hK hP 0 rfl rfl 56 (by decide) (hg _ w1762) (fun _ h9 => h9) rfl dX12_forget_11 ?_
  refine lv_iconst (v := 0) hx hb dX12_forget_14 (by decide) ?_
  refine lv_iconst (v := 1) hx hb dX12_forget_15 (by decide) ?_
  refine va_zast (D := D) (i := 0) (x := 1) hx hb hK hP hD hS 42 41 rfl rfl (i_in (a := 0) (by decide) (by decide)) dX12_forget_16 (fun H locs hP hD hS => ?_)
  obtain ⟨V3, hV3⟩ : ∃ z, z = up2 V2 56 (Int32.toNatClampNeg 0) (vp_nar .boolean 1) := ⟨_, rfl⟩
  have hP : va_P D vwCl (mw ad kk ks.1 V3 L) H := by rw [hV3]; exact hP
  have hD : va_D A (mw ad kk ks.1 V3 L) := by rw [hV3]; exact hD
  have hMV3 : rgd bM V3 := hMV2.put hV3 (nar_b _)
  have agV3 : agr [(0, 54), (0, 55), (0, 60), (0, 65), (0, 69), (0, 70), (0, 71), (0, 72), (0, 73), (0, 76), (0, 81)] [56, 57, 59] V V3 := agV2.up hV3 rfl
  refine lv_aload_n hx hb dX12_forget_17 rfl (lv_at hl 0 rfl) ?_
  refine va_get (D := D) (ci := 12) (v := .ref (ad 57)) (C := RX12) (T := TX12) (N := 100) hx hb hg inX12 hown hK hP 0 rfl rfl 57 (by decide) (hg _ w1763) (fun _ h9 => h9) rfl dX12_forget_18 ?_
  refine lv_iconst (v := 0) hx hb dX12_forget_21 (by decide) ?_
  refine lv_iconst (v := 0) hx hb dX12_forget_22 (by decide) ?_
  refine va_iast (D := D) (i := 0) (x := 0) hx hb hK hP hD hS 43 42 rfl rfl (i_in (a := 0) (by decide) (by decide)) dX12_forget_23 (fun H locs hP hD hS => ?_)
  obtain ⟨V4, hV4⟩ : ∃ z, z = up2 V3 57 (Int32.toNatClampNeg 0) 0 := ⟨_, rfl⟩
  have hP : va_P D vwCl (mw ad kk ks.1 V4 L) H := by rw [hV4]; exact hP
  have hD : va_D A (mw ad kk ks.1 V4 L) := by rw [hV4]; exact hD
  have hMV4 : rgd bM V4 := hMV3.put hV4 (i_full _)
  have agV4 : agr [(0, 54), (0, 55), (0, 60), (0, 65), (0, 69), (0, 70), (0, 71), (0, 72), (0, 73), (0, 76), (0, 81)] [56, 57, 59] V V4 := agV3.up hV4 rfl
  refine lv_iconst (v := 0) hx hb dX12_forget_24 (by decide) ?_
  refine lv_istore_n (lv' := [(1, .int 0), (0, .ref (ad 0))]) hx hb dX12_forget_25 rfl hl (by decide) rfl (fun ls hl => ?_)
  have lp7 : ∀ (fulp7 : Nat) (y5 : Int32) (V6 : Vf) (H : Heap) (locs : List Loc) (ls : Array Slot), 0 ≤ y5.toInt ∧ y5.toInt ≤ 960 → 960 - y5.toInt < (fulp7 : Int) → agr [] [59] V4 V6 → rgd bM V6 → va_P D vwCl (mw ad kk ks.1 V6 L) H → va_D A (mw ad kk ks.1 V6 L) → va_S A s.heap H locs → lv_has ls 2 [(1, .int y5), (0, .ref (ad 0))] → W p l e r_s_forget2 s m ([.ref (ad 0)] : List Value).toArray below meth c H locs 0 0 (MQ below (q_s_forget2 D ks ad kk V L  A) ([.ref (ad 0)] : List Value).toArray s 0 0 A) (F0 m 26 ls []) := by
    intro fulp7
    induction fulp7 with
    | zero =>
      intro y5 V6 H locs ls klp7_0 hn ajV6 hMV6 hP hD hS hl
      exfalso; (first | exact om_c8d4dd19bb17 klp7_0.2 hn | omega)
    | succ fulp7 ihlp7 =>
      intro y5 V6 H locs ls klp7_0 hn ajV6 hMV6 hP hD hS hl
      have agV6 : agr [(0, 54), (0, 55), (0, 60), (0, 65), (0, 69), (0, 70), (0, 71), (0, 72), (0, 73), (0, 76), (0, 81)] [56, 57, 59] V V6 := agV4.tr ajV6 (by decide) (by decide)
      refine lv_iload_n hx hb dX12_forget_26 rfl (lv_at hl 0 rfl) ?_
      refine lv_sipush (v := 960) hx hb dX12_forget_27 (by decide) ?_
      refine lv_icmp_ge (tgt := 46) hx hb dX12_forget_30 (by decide) (fun c8 => ?_) (fun c8 => ?_)
      · skip
        have f9 : 960 ≤ y5.toInt := b_le (by decide) rfl c8
        refine lv_aload_n hx hb dX12_forget_46 rfl (lv_at hl 1 rfl) ?_
        refine lv_iconst (v := 0) hx hb dX12_forget_47 (by decide) ?_
        refine va_put (D := D) (ci := 12) (v := .int 0) (ty := tyX12 60) (C := RX12) (T := TX12) (N := 100) hx hb hg inX12 tyX12 tyX12_ok nmX12 hown hK hP hD hS 0 rfl rfl 60 (by decide) (hg _ w1766) (fun _ h9 => h9) rfl (tyX12_ok 60 (by decide)) rfl rfl (Nat.le_of_ble_eq_true rfl) dX12_forget_48 (fun H locs hP hD hS => ?_)
        obtain ⟨V10, hV10⟩ : ∃ z, z = up2 V6 0 60 0 := ⟨_, rfl⟩
        have hP : va_P D vwCl (mw ad kk ks.1 V10 L) H := by rw [hV10]; exact hP
        have hD : va_D A (mw ad kk ks.1 V10 L) := by rw [hV10]; exact hD
        have hMV10 : rgd bM V10 := hMV6.put hV10 (by decide)
        have agV10 : agr [(0, 54), (0, 55), (0, 60), (0, 65), (0, 69), (0, 70), (0, 71), (0, 72), (0, 73), (0, 76), (0, 81)] [56, 57, 59] V V10 := agV6.up hV10 rfl
        refine lv_aload_n hx hb dX12_forget_51 rfl (lv_at hl 1 rfl) ?_
        refine lv_iconst (v := 0) hx hb dX12_forget_52 (by decide) ?_
        refine va_put (D := D) (ci := 12) (v := .int 0) (ty := tyX12 65) (C := RX12) (T := TX12) (N := 100) hx hb hg inX12 tyX12 tyX12_ok nmX12 hown hK hP hD hS 0 rfl rfl 65 (by decide) (hg _ w1771) (fun _ h9 => h9) rfl (tyX12_ok 65 (by decide)) rfl rfl (Nat.le_of_ble_eq_true rfl) dX12_forget_53 (fun H locs hP hD hS => ?_)
        obtain ⟨V11, hV11⟩ : ∃ z, z = up2 V10 0 65 0 := ⟨_, rfl⟩
        have hP : va_P D vwCl (mw ad kk ks.1 V11 L) H := by rw [hV11]; exact hP
        have hD : va_D A (mw ad kk ks.1 V11 L) := by rw [hV11]; exact hD
        have hMV11 : rgd bM V11 := hMV10.put hV11 (by decide)
        have agV11 : agr [(0, 54), (0, 55), (0, 60), (0, 65), (0, 69), (0, 70), (0, 71), (0, 72), (0, 73), (0, 76), (0, 81)] [56, 57, 59] V V11 := agV10.up hV11 rfl
        refine lv_aload_n hx hb dX12_forget_56 rfl (lv_at hl 1 rfl) ?_
        refine lv_iconst (v := 0) hx hb dX12_forget_57 (by decide) ?_
        refine va_put (D := D) (ci := 12) (v := .int 0) (ty := tyX12 73) (C := RX12) (T := TX12) (N := 100) hx hb hg inX12 tyX12 tyX12_ok nmX12 hown hK hP hD hS 0 rfl rfl 73 (by decide) (hg _ w1779) (fun _ h9 => h9) rfl (tyX12_ok 73 (by decide)) rfl rfl (Nat.le_of_ble_eq_true rfl) dX12_forget_58 (fun H locs hP hD hS => ?_)
        obtain ⟨V12, hV12⟩ : ∃ z, z = up2 V11 0 73 0 := ⟨_, rfl⟩
        have hP : va_P D vwCl (mw ad kk ks.1 V12 L) H := by rw [hV12]; exact hP
        have hD : va_D A (mw ad kk ks.1 V12 L) := by rw [hV12]; exact hD
        have hMV12 : rgd bM V12 := hMV11.put hV12 (by decide)
        have agV12 : agr [(0, 54), (0, 55), (0, 60), (0, 65), (0, 69), (0, 70), (0, 71), (0, 72), (0, 73), (0, 76), (0, 81)] [56, 57, 59] V V12 := agV11.up hV12 rfl
        refine lv_aload_n hx hb dX12_forget_61 rfl (lv_at hl 1 rfl) ?_
        refine lv_iconst (v := 0) hx hb dX12_forget_62 (by decide) ?_
        refine va_put (D := D) (ci := 12) (v := .int 0) (ty := tyX12 76) (C := RX12) (T := TX12) (N := 100) hx hb hg inX12 tyX12 tyX12_ok nmX12 hown hK hP hD hS 0 rfl rfl 76 (by decide) (hg _ w1782) (fun _ h9 => h9) rfl (tyX12_ok 76 (by decide)) rfl rfl (Nat.le_of_ble_eq_true rfl) dX12_forget_63 (fun H locs hP hD hS => ?_)
        obtain ⟨V13, hV13⟩ : ∃ z, z = up2 V12 0 76 0 := ⟨_, rfl⟩
        have hP : va_P D vwCl (mw ad kk ks.1 V13 L) H := by rw [hV13]; exact hP
        have hD : va_D A (mw ad kk ks.1 V13 L) := by rw [hV13]; exact hD
        have hMV13 : rgd bM V13 := hMV12.put hV13 (by decide)
        have agV13 : agr [(0, 54), (0, 55), (0, 60), (0, 65), (0, 69), (0, 70), (0, 71), (0, 72), (0, 73), (0, 76), (0, 81)] [56, 57, 59] V V13 := agV12.up hV13 rfl
        refine lv_aload_n hx hb dX12_forget_66 rfl (lv_at hl 1 rfl) ?_
        refine lv_iconst (v := 0) hx hb dX12_forget_67 (by decide) ?_
        refine va_put (D := D) (ci := 12) (v := .int 0) (ty := tyX12 70) (C := RX12) (T := TX12) (N := 100) hx hb hg inX12 tyX12 tyX12_ok nmX12 hown hK hP hD hS 0 rfl rfl 70 (by decide) (hg _ w1776) (fun _ h9 => h9) rfl (tyX12_ok 70 (by decide)) rfl rfl (Nat.le_of_ble_eq_true rfl) dX12_forget_68 (fun H locs hP hD hS => ?_)
        obtain ⟨V14, hV14⟩ : ∃ z, z = up2 V13 0 70 0 := ⟨_, rfl⟩
        have hP : va_P D vwCl (mw ad kk ks.1 V14 L) H := by rw [hV14]; exact hP
        have hD : va_D A (mw ad kk ks.1 V14 L) := by rw [hV14]; exact hD
        have hMV14 : rgd bM V14 := hMV13.put hV14 (i_full _)
        have agV14 : agr [(0, 54), (0, 55), (0, 60), (0, 65), (0, 69), (0, 70), (0, 71), (0, 72), (0, 73), (0, 76), (0, 81)] [56, 57, 59] V V14 := agV13.up hV14 rfl
        refine lv_aload_n hx hb dX12_forget_71 rfl (lv_at hl 1 rfl) ?_
        refine lv_iconst (v := 0) hx hb dX12_forget_72 (by decide) ?_
        refine va_put (D := D) (ci := 12) (v := .int 0) (ty := tyX12 71) (C := RX12) (T := TX12) (N := 100) hx hb hg inX12 tyX12 tyX12_ok nmX12 hown hK hP hD hS 0 rfl rfl 71 (by decide) (hg _ w1777) (fun _ h9 => h9) rfl (tyX12_ok 71 (by decide)) rfl rfl (Nat.le_of_ble_eq_true rfl) dX12_forget_73 (fun H locs hP hD hS => ?_)
        obtain ⟨V15, hV15⟩ : ∃ z, z = up2 V14 0 71 0 := ⟨_, rfl⟩
        have hP : va_P D vwCl (mw ad kk ks.1 V15 L) H := by rw [hV15]; exact hP
        have hD : va_D A (mw ad kk ks.1 V15 L) := by rw [hV15]; exact hD
        have hMV15 : rgd bM V15 := hMV14.put hV15 (i_full _)
        have agV15 : agr [(0, 54), (0, 55), (0, 60), (0, 65), (0, 69), (0, 70), (0, 71), (0, 72), (0, 73), (0, 76), (0, 81)] [56, 57, 59] V V15 := agV14.up hV15 rfl
        refine lv_aload_n hx hb dX12_forget_76 rfl (lv_at hl 1 rfl) ?_
        refine lv_iconst (v := 0) hx hb dX12_forget_77 (by decide) ?_
        refine va_put (D := D) (ci := 12) (v := .int 0) (ty := tyX12 72) (C := RX12) (T := TX12) (N := 100) hx hb hg inX12 tyX12 tyX12_ok nmX12 hown hK hP hD hS 0 rfl rfl 72 (by decide) (hg _ w1778) (fun _ h9 => h9) rfl (tyX12_ok 72 (by decide)) rfl rfl (Nat.le_of_ble_eq_true rfl) dX12_forget_78 (fun H locs hP hD hS => ?_)
        obtain ⟨V16, hV16⟩ : ∃ z, z = up2 V15 0 72 0 := ⟨_, rfl⟩
        have hP : va_P D vwCl (mw ad kk ks.1 V16 L) H := by rw [hV16]; exact hP
        have hD : va_D A (mw ad kk ks.1 V16 L) := by rw [hV16]; exact hD
        have hMV16 : rgd bM V16 := hMV15.put hV16 (i_full _)
        have agV16 : agr [(0, 54), (0, 55), (0, 60), (0, 65), (0, 69), (0, 70), (0, 71), (0, 72), (0, 73), (0, 76), (0, 81)] [56, 57, 59] V V16 := agV15.up hV16 rfl
        refine lv_aload_n hx hb dX12_forget_81 rfl (lv_at hl 1 rfl) ?_
        refine lv_iconst (v := 0) hx hb dX12_forget_82 (by decide) ?_
        refine va_put (D := D) (ci := 12) (v := .int 0) (ty := tyX12 69) (C := RX12) (T := TX12) (N := 100) hx hb hg inX12 tyX12 tyX12_ok nmX12 hown hK hP hD hS 0 rfl rfl 69 (by decide) (hg _ w1775) (fun _ h9 => h9) rfl (tyX12_ok 69 (by decide)) rfl rfl (Nat.le_of_ble_eq_true rfl) dX12_forget_83 (fun H locs hP hD hS => ?_)
        obtain ⟨V17, hV17⟩ : ∃ z, z = up2 V16 0 69 0 := ⟨_, rfl⟩
        have hP : va_P D vwCl (mw ad kk ks.1 V17 L) H := by rw [hV17]; exact hP
        have hD : va_D A (mw ad kk ks.1 V17 L) := by rw [hV17]; exact hD
        have hMV17 : rgd bM V17 := hMV16.put hV17 (by decide)
        have agV17 : agr [(0, 54), (0, 55), (0, 60), (0, 65), (0, 69), (0, 70), (0, 71), (0, 72), (0, 73), (0, 76), (0, 81)] [56, 57, 59] V V17 := agV16.up hV17 rfl
        refine lv_aload_n hx hb dX12_forget_86 rfl (lv_at hl 1 rfl) ?_
        refine lv_iconst (v := 0) hx hb dX12_forget_87 (by decide) ?_
        refine va_put (D := D) (ci := 12) (v := .int 0) (ty := tyX12 81) (C := RX12) (T := TX12) (N := 100) hx hb hg inX12 tyX12 tyX12_ok nmX12 hown hK hP hD hS 0 rfl rfl 81 (by decide) (hg _ w1787) (fun _ h9 => h9) rfl (tyX12_ok 81 (by decide)) rfl rfl (Nat.le_of_ble_eq_true rfl) dX12_forget_88 (fun H locs hP hD hS => ?_)
        obtain ⟨V18, hV18⟩ : ∃ z, z = up2 V17 0 81 0 := ⟨_, rfl⟩
        have hP : va_P D vwCl (mw ad kk ks.1 V18 L) H := by rw [hV18]; exact hP
        have hD : va_D A (mw ad kk ks.1 V18 L) := by rw [hV18]; exact hD
        have hMV18 : rgd bM V18 := hMV17.put hV18 (by decide)
        have agV18 : agr [(0, 54), (0, 55), (0, 60), (0, 65), (0, 69), (0, 70), (0, 71), (0, 72), (0, 73), (0, 76), (0, 81)] [56, 57, 59] V V18 := agV17.up hV18 rfl
        have pq19 : (V18 0 73).toInt = 0 := (congrArg Int32.toInt ((up2_k hV18 (by decide)).trans ((up2_k hV17 (by decide)).trans ((up2_k hV16 (by decide)).trans ((up2_k hV15 (by decide)).trans ((up2_k hV14 (by decide)).trans ((up2_k hV13 (by decide)).trans (up2_s hV12)))))))).trans (by decide)
        have pq20 : (V18 0 76).toInt = 0 := (congrArg Int32.toInt ((up2_k hV18 (by decide)).trans ((up2_k hV17 (by decide)).trans ((up2_k hV16 (by decide)).trans ((up2_k hV15 (by decide)).trans ((up2_k hV14 (by decide)).trans (up2_s hV13))))))).trans (by decide)
        have pq21 : (V18 0 54).toInt = 0 := (congrArg Int32.toInt ((up2_k hV18 (by decide)).trans ((up2_k hV17 (by decide)).trans ((up2_k hV16 (by decide)).trans ((up2_k hV15 (by decide)).trans ((up2_k hV14 (by decide)).trans ((up2_k hV13 (by decide)).trans ((up2_k hV12 (by decide)).trans ((up2_k hV11 (by decide)).trans ((up2_k hV10 (by decide)).trans ((ajV6 0 54 rfl).trans ((up2_o hV4 (by decide)).trans ((up2_o hV3 (by decide)).trans ((up2_k hV2 (by decide)).trans (up2_s hV1))))))))))))))).trans (by decide)
        have pq22 : (V18 0 65).toInt = 0 := (congrArg Int32.toInt ((up2_k hV18 (by decide)).trans ((up2_k hV17 (by decide)).trans ((up2_k hV16 (by decide)).trans ((up2_k hV15 (by decide)).trans ((up2_k hV14 (by decide)).trans ((up2_k hV13 (by decide)).trans ((up2_k hV12 (by decide)).trans (up2_s hV11))))))))).trans (by decide)
        have pq23 : (V18 0 60).toInt = 0 := (congrArg Int32.toInt ((up2_k hV18 (by decide)).trans ((up2_k hV17 (by decide)).trans ((up2_k hV16 (by decide)).trans ((up2_k hV15 (by decide)).trans ((up2_k hV14 (by decide)).trans ((up2_k hV13 (by decide)).trans ((up2_k hV12 (by decide)).trans ((up2_k hV11 (by decide)).trans (up2_s hV10)))))))))).trans (by decide)
        have pq24 : (V18 0 55).toInt = 1 := (congrArg Int32.toInt ((up2_k hV18 (by decide)).trans ((up2_k hV17 (by decide)).trans ((up2_k hV16 (by decide)).trans ((up2_k hV15 (by decide)).trans ((up2_k hV14 (by decide)).trans ((up2_k hV13 (by decide)).trans ((up2_k hV12 (by decide)).trans ((up2_k hV11 (by decide)).trans ((up2_k hV10 (by decide)).trans ((ajV6 0 55 rfl).trans ((up2_o hV4 (by decide)).trans ((up2_o hV3 (by decide)).trans (up2_s hV2)))))))))))))).trans (by decide)
        exact W.vret hx hb hr (fun t ht hW => ⟨⟨(V18, L), rfl, ⟨hMV18, agV18, rfl, (show (V18 0 60).toInt = 0 ∧ (V18 0 54).toInt = 0 ∧ (V18 0 65).toInt = 0 ∧ (V18 0 73).toInt = 0 ∧ (V18 0 76).toInt = 0 from by (first | exact om_1eec92a7aae7 pq19 pq20 pq21 pq22 pq23 | omega)), (show (V18 0 55).toInt = 1 from by (first | exact om_710535a98d88 pq24 | omega))⟩, by rw [ht]; exact hP, va_K.moved hW.alike hK, hD⟩, hS.F ht⟩) hS.2.2 dX12_forget_91
      · skip
        have f25 : y5.toInt < 960 := b_nle (by decide) rfl c8
        refine lv_aload_n hx hb dX12_forget_33 rfl (lv_at hl 1 rfl) ?_
        refine va_get (D := D) (ci := 12) (v := .ref (ad 59)) (C := RX12) (T := TX12) (N := 100) hx hb hg inX12 hown hK hP 0 rfl rfl 59 (by decide) (hg _ w1765) (fun _ h9 => h9) rfl dX12_forget_34 ?_
        refine lv_iload_n hx hb dX12_forget_37 rfl (lv_at hl 0 rfl) ?_
        refine lv_iconst (v := 0) hx hb dX12_forget_38 (by decide) ?_
        refine va_zast (D := D) (i := y5) (x := 0) hx hb hK hP hD hS 45 44 rfl rfl (i_in (a := y5.toInt) rfl (by (first | exact om_ed46e1c3cf09 klp7_0.1 f25 | omega))) dX12_forget_39 (fun H locs hP hD hS => ?_)
        obtain ⟨V26, hV26⟩ : ∃ z, z = up2 V6 59 (Int32.toNatClampNeg y5) (vp_nar .boolean 0) := ⟨_, rfl⟩
        have hP : va_P D vwCl (mw ad kk ks.1 V26 L) H := by rw [hV26]; exact hP
        have hD : va_D A (mw ad kk ks.1 V26 L) := by rw [hV26]; exact hD
        have hMV26 : rgd bM V26 := hMV6.put hV26 (nar_b _)
        have agV26 : agr [(0, 54), (0, 55), (0, 60), (0, 65), (0, 69), (0, 70), (0, 71), (0, 72), (0, 73), (0, 76), (0, 81)] [56, 57, 59] V V26 := agV6.up hV26 rfl
        obtain ⟨z27, ez27⟩ : ∃ y : Int32, y = y5 + 1 := ⟨_, rfl⟩
        have hz27 : z27.toInt = y5.toInt + 1 := i_add ez27 rfl (by decide) (by (first | exact om_1bb32e01d4a3 klp7_0.1 f25 | omega))
        refine lv_iinc (v := z27) (lv' := [(1, .int z27), (0, .ref (ad 0))]) hx hb dX12_forget_40 hl (k := 0) rfl (by rw [ez27]; rfl) (by decide) rfl (fun ls hl => ?_)
        refine lv_goto (tgt := 26) hx hb dX12_forget_43 (by decide) ?_
        exact ihlp7 z27 V26 H locs ls (by (first | exact om_7ce5d8ac6511 klp7_0.1 f25 hz27 | omega)) (by (first | exact om_b35da99adc69 hn hz27 | omega)) (agr.up (agr.tr agr.rf ajV6 (by decide) (by decide)) hV26 rfl) hMV26 hP hD hS (lv_sub hl [0, 1] rfl)
  have r28 : Int32.toInt 0 = 0 := by decide
  exact lp7 ((960 - (Int32.toInt 0) + 1 : Int).toNat) 0 V4 H locs ls (by decide) (by (first | exact om_2733943334af | omega)) agr.rf hMV4 hP hD hS (lv_sub hl [0, 1] rfl)
abbrev r_s_book : Room := { frames := 97, cells := 0, slots := 0, locals := 2910 }
abbrev q_s_book (D : va_G) (ks : KS) (ad : Nat → Nat) (kk : Nat → ClassId) (V : Vf) (L : Lf) (nx : Nat) (A : Nat → Prop) : Array Value → State → Outcome → State → Prop := va_Qi (fun (r : Int32) (u : Vf × Lf) => rgd bM u.1 ∧ agr [(0, 0), (0, 2), (0, 3), (0, 7), (0, 8), (0, 11), (0, 12), (0, 48), (0, 49), (0, 50), (0, 51), (0, 52), (0, 54), (0, 55), (0, 60), (0, 65), (0, 69), (0, 70), (0, 71), (0, 72), (0, 73), (0, 76), (0, 81)] [4, 5, 6, 13, 14, 15, 16, 17, 18, 19, 20, 21, 22, 23, 24, 25, 26, 27, 28, 29, 30, 31, 32, 33, 34, 35, 36, 37, 38, 39, 40, 41, 42, 43, 44, 45, 46, 47, 53, 56, 57, 59] V u.1 ∧ agL [4, 5, 6, 13, 14, 15, 16, 17, 18, 19, 20, 21, 22, 23, 24, 25, 26, 27, 28, 29, 30, 31, 32, 33, 34, 35, 36, 37, 38, 39, 40, 41, 42, 43, 44, 45, 46, 47, 53, 56, 57, 59] L u.2 ∧ fr (tH nx) V u.1 ∧ ((u.1 0 2).toInt = 0) ∧ (TB u.1) ∧ (Imp (r.toInt = 0) ((u.1 0 60).toInt = 0 ∧ (u.1 0 54).toInt = 0 ∧ (u.1 0 65).toInt = 0 ∧ (u.1 0 73).toInt = 0 ∧ (u.1 0 76).toInt = 0)) ∧ (Imp (1 ≤ r.toInt) (agr [(0, 0), (0, 2), (0, 3), (0, 7), (0, 8), (0, 12), (0, 48), (0, 49), (0, 50), (0, 51), (0, 52)] [4, 5, 6, 13, 14, 15, 16, 17, 18, 19, 20, 21, 22, 23, 24, 25, 26, 27, 28, 29, 30, 31, 32, 33, 34, 35, 36, 37, 38, 39, 40, 41, 42, 43, 44, 45, 46, 47, 53] V u.1)) ∧ (Imp (r.toInt = 0) (TBL u.1 nx (10000 * nx + Int32.toNatClampNeg (u.1 0 48))))) (fun u t => gq D A (mw ad kk ks.1 u.1 u.2) (mty kk) t) A
end
section
/-! which components are there; the first candidate -/
theorem agr.sy {fs : List (Nat × Nat)} {cs : List Nat} {V W : Vf} (h : agr fs cs V W) : agr fs cs W V := fun c k q => (h c k q).symm
def nwh (V : Vf) : Nat := Int32.toNatClampNeg (V 0 11)
def th (V : Vf) (c : Nat) : Prop := (c : Int) < (V 19 (nwh V)).toInt ∧ ((V 25 (24 * nwh V + c)).toInt < 0 ∨ V 18 (12 * nwh V + (V 25 (24 * nwh V + c)).toInt.toNat) = V 26 (24 * nwh V + c))
/-- none of the cells that say what there is was written -/
def thC (fs : List (Nat × Nat)) (cs : List Nat) : Prop := wrL fs cs 0 11 = false ∧ (∀ k, wrL fs cs 18 k = false) ∧ (∀ k, wrL fs cs 19 k = false) ∧ (∀ k, wrL fs cs 25 k = false) ∧ (∀ k, wrL fs cs 26 k = false) ∧ (∀ k, wrL fs cs 27 k = false) ∧ (∀ k, wrL fs cs 29 k = false)
theorem th.ag {fs : List (Nat × Nat)} {cs : List Nat} {V W : Vf} {c : Nat} (h : th V c) (a : agr fs cs V W) (q : thC fs cs) : th W c := by
  have e : nwh W = nwh V := by unfold nwh; rw [a 0 11 q.1]
  unfold th at h ⊢
  rw [e, a _ _ (q.2.2.1 _), a _ _ (q.2.2.2.1 _), a _ _ (q.2.1 _), a _ _ (q.2.2.2.2.1 _)]
  exact h
/-- a late need of a component -/
def ndL (V : Vf) (c k : Nat) : Prop := (k : Int) < (V 27 (24 * nwh V + c)).toInt ∧ (V 29 (8 * (24 * nwh V + c) + k)).toInt = 1
theorem ndL.ag {fs : List (Nat × Nat)} {cs : List Nat} {V W : Vf} {c k : Nat} (h : ndL V c k) (a : agr fs cs V W) (q : thC fs cs) : ndL W c k := by
  have e : nwh W = nwh V := by unfold nwh; rw [a 0 11 q.1]
  unfold ndL at h ⊢
  rw [e, a _ _ (q.2.2.2.2.2.1 _), a _ _ (q.2.2.2.2.2.2 _)]
  exact h
def cd0 (V : Vf) : Nat := Int32.toNatClampNeg (V 80 0)
def c0k (V W : Vf) : Prop := W 80 0 = V 80 0 ∨ th V (cd0 W)
theorem c0k.rf {V : Vf} : c0k V V := Or.inl rfl
theorem c0k.ag {fs : List (Nat × Nat)} {cs : List Nat} {V W : Vf} (a : agr fs cs V W) (h : wrL fs cs 80 0 = false) : c0k V W := Or.inl (a 80 0 h)
theorem c0k.tr {fs : List (Nat × Nat)} {cs : List Nat} {V W X : Vf} (h : c0k V W) (h2 : c0k W X) (a : agr fs cs V W) (q : thC fs cs) : c0k V X := by
  rcases h2 with h2 | h2
  · rcases h with h | h
    · exact Or.inl (h2.trans h)
    · right
      unfold cd0 at h ⊢
      rw [h2]
      exact h
  · exact Or.inr (h2.ag a.sy q)
/-- the first candidate is there, or nobody wants it: among the components below l, and of component l below need k -/
def DD (V : Vf) (l k : Int) : Prop := th V (cd0 V) ∨ ∀ c j : Nat, ((c : Int) < l ∨ ((c : Int) = l ∧ (j : Int) < k)) → th V c → ¬ ndL V c j
theorem DD.st {fs : List (Nat × Nat)} {cs : List Nat} {V W : Vf} {l k : Int} (h : DD V l k) (a : agr fs cs V W) (q : thC fs cs) (c0 : c0k V W) : DD W l k := by
  rcases h with h | h
  · rcases c0 with c0 | c0
    · left
      have e : cd0 W = cd0 V := by unfold cd0; rw [c0]
      rw [e]
      exact h.ag a q
    · exact Or.inl (c0.ag a q)
  · exact Or.inr (fun c j hc ht hn => h c j hc (ht.ag a.sy q) (hn.ag a.sy q))
def RD (V : Vf) : Prop := (V 0 54).toInt = 1 → th V (cd0 V) ∨ ∀ c j : Nat, th V c → ¬ ndL V c j


abbrev r_s_isThere2 : Room := { frames := 0, cells := 0, slots := 0, locals := 0 }
abbrev q_s_isThere2 (D : va_G) (ks : KS) (ad : Nat → Nat) (kk : Nat → ClassId) (V : Vf) (L : Lf) (p0 : Int32) (A : Nat → Prop) : Array Value → State → Outcome → State → Prop := va_Qi (fun (r : Int32) (_ : Unit) => (0 ≤ r.toInt ∧ r.toInt ≤ 1) ∧ (Imp (r.toInt = 1) (0 ≤ p0.toInt ∧ p0.toInt ≤ 23)) ∧ (Imp (r.toInt = 1) (th V (Int32.toNatClampNeg p0))) ∧ (Imp (r.toInt = 0) (0 ≤ p0.toInt → ¬ th V (Int32.toNatClampNeg p0)))) (fun _ t => gq D A (mw ad kk ks.1 V L) (mty kk) t) A
set_option maxHeartbeats 4000000 in
set_option maxRecDepth 100000 in
theorem s_isThere2 (l : Launch) (D : va_G) (ks : KS) (sz : Nat) (ad : Nat → Nat) (kk : Nat → ClassId) (V : Vf) (L : Lf) (p0 : Int32) (hMV : rgd bM V)  : Met l yX12_isThere (Cond.code yX12_isThere cX12_isThere 3 (some .boolean) :: GW) r_s_isThere2 (va_Pc [.ref (ad 0), .int p0] (gp D ks (mw ad kk ks.1 V L) (mty kk) sz)) (q_s_isThere2 D ks ad kk V L p0 (va_A (mw ad kk ks.1 V L) sz)) 0 0 (va_A (mw ad kk ks.1 V L) sz) := by
  refine g_met (q_s_isThere2 D ks ad kk V L p0) (by decide) (Nat.le_of_ble_eq_true rfl) ?_
  intro p e s m below meth c A ls H locs hx hb hr hml hown hg hlocks hin hnw hgk hP hK hD hS hA hl
  have hown : s.vm.findClass RX12 = some m.cls := hown
  have hl : lv_has ls 3 [(0, .ref (ad 0)), (1, .int p0)] := hl
  have hP : va_P D vwCl (mw ad kk ks.1 V L) H := hP
  have hD : va_D A (mw ad kk ks.1 V L) := hD
  have hK : va_K D vwCl (mty kk) s := hK
  refine lv_bipush (v := 24) hx hb dX12_isThere_0 (by decide) ?_
  refine lv_aload_n hx hb dX12_isThere_2 rfl (lv_at hl 0 rfl) ?_
  refine va_get (D := D) (ci := 12) (v := .int (V 0 11)) (C := RX12) (T := TX12) (N := 100) hx hb hg inX12 hown hK hP 0 rfl rfl 11 (by decide) (hg _ w1717) (fun _ h9 => h9) rfl dX12_isThere_3 ?_
  have r1 : 0 ≤ ((V 0 11)).toInt ∧ ((V 0 11)).toInt ≤ 1 := hMV 0 11
  refine lv_imul hx hb dX12_isThere_6 ?_
  refine lv_topi (fun z2 ez2 => ?_)
  have hz2 : z2.toInt = 24 * ((V 0 11)).toInt := i_mul ez2 (by decide) rfl (by (first | exact om_3f8aba7b6ce1 r1.1 r1.2 | omega))
  refine lv_iload_n hx hb dX12_isThere_7 rfl (lv_at hl 1 rfl) ?_
  refine lv_iadd hx hb dX12_isThere_8 ?_
  have r3 := i_full p0
  refine lv_topi (fun z4 ez4 => ?_)
  have hz4 : Imp (-2147483648 ≤ z2.toInt + p0.toInt ∧ z2.toInt + p0.toInt ≤ 2147483647) (z4.toInt = z2.toInt + p0.toInt) := Imp.mk (fun hp => i_add ez4 rfl rfl hp)
  refine lv_istore_n (lv' := [(2, .int z4), (0, .ref (ad 0)), (1, .int p0)]) hx hb dX12_isThere_9 rfl hl (by decide) rfl (fun ls hl => ?_)
  refine lv_iload_n hx hb dX12_isThere_10 rfl (lv_at hl 2 rfl) ?_
  refine lv_if_lt (tgt := 68) hx hb dX12_isThere_11 (by decide) (fun c5 => ?_) (fun c5 => ?_)
  · skip
    have f6 : p0.toInt < 0 := b_lt rfl (by decide) c5
    refine lv_iconst (v := 0) hx hb dX12_isThere_68 (by decide) ?_
    exact W.zret (v := 0) hx hb hr rfl (fun t ht hW => ⟨⟨0, (), rfl, ⟨(by decide), (Imp.mk (fun hp => absurd hp (by decide))), (Imp.mk (fun hp => absurd hp (by decide))), (Imp.mk (fun _ h0 _ => absurd h0 (by omega)))⟩, by rw [ht]; exact hP, va_K.moved hW.alike hK, hD⟩, hS.F ht⟩) hS.2.2 dX12_isThere_69
  · skip
    have f7 : 0 ≤ p0.toInt := b_nlt rfl (by decide) c5
    refine lv_iload_n hx hb dX12_isThere_14 rfl (lv_at hl 2 rfl) ?_
    refine lv_aload_n hx hb dX12_isThere_15 rfl (lv_at hl 1 rfl) ?_
    refine va_get (D := D) (ci := 12) (v := .ref (ad 19)) (C := RX12) (T := TX12) (N := 100) hx hb hg inX12 hown hK hP 0 rfl rfl 19 (by decide) (hg _ w1725) (fun _ h9 => h9) rfl dX12_isThere_16 ?_
    refine lv_aload_n hx hb dX12_isThere_19 rfl (lv_at hl 1 rfl) ?_
    refine va_get (D := D) (ci := 12) (v := .int (V 0 11)) (C := RX12) (T := TX12) (N := 100) hx hb hg inX12 hown hK hP 0 rfl rfl 11 (by decide) (hg _ w1717) (fun _ h9 => h9) rfl dX12_isThere_20 ?_
    refine va_iald (D := D) (i := (V 0 11)) hx hb hK hP 12 11 rfl rfl (i_in (a := ((V 0 11)).toInt) rfl (by first | exact om_8367a84723c7 r1.1 r1.2 | first | omega | ((try (have i_hz4 := Imp.go hz4 (by omega))); omega))) dX12_isThere_23 ?_
    have r8 : 0 ≤ ((V 19 (Int32.toNatClampNeg (V 0 11)))).toInt ∧ ((V 19 (Int32.toNatClampNeg (V 0 11)))).toInt ≤ 24 := hMV 19 (Int32.toNatClampNeg (V 0 11))
    refine lv_icmp_ge (tgt := 68) hx hb dX12_isThere_24 (by decide) (fun c9 => ?_) (fun c9 => ?_)
    · skip
      have f10 : ((V 19 (Int32.toNatClampNeg (V 0 11)))).toInt ≤ p0.toInt := b_le rfl rfl c9
      refine lv_iconst (v := 0) hx hb dX12_isThere_68 (by decide) ?_
      have k0 := i_clamp (x := p0) rfl (by (first | exact om_eafa9039069c f7 | omega))
      have kn : (nwh V : Int) = (V 0 11).toInt := i_clamp (x := V 0 11) rfl (by (first | exact om_eafa9039069c r1.1 | omega))
      have q19 : (V 19 (nwh V)).toInt = (V 19 (Int32.toNatClampNeg (V 0 11))).toInt := rfl
      exact W.zret (v := 0) hx hb hr rfl (fun t ht hW => ⟨⟨0, (), rfl, ⟨(by decide), (Imp.mk (fun hp => absurd hp (by decide))), (Imp.mk (fun hp => absurd hp (by decide))), (Imp.mk (fun _ _ ht => by have h9 := ht.1; omega))⟩, by rw [ht]; exact hP, va_K.moved hW.alike hK, hD⟩, hS.F ht⟩) hS.2.2 dX12_isThere_69
    · skip
      have f11 : p0.toInt < ((V 19 (Int32.toNatClampNeg (V 0 11)))).toInt := b_nle rfl rfl c9
      refine lv_aload_n hx hb dX12_isThere_27 rfl (lv_at hl 1 rfl) ?_
      refine va_get (D := D) (ci := 12) (v := .ref (ad 25)) (C := RX12) (T := TX12) (N := 100) hx hb hg inX12 hown hK hP 0 rfl rfl 25 (by decide) (hg _ w1731) (fun _ h9 => h9) rfl dX12_isThere_28 ?_
      refine lv_iload_n hx hb dX12_isThere_31 rfl (lv_at hl 0 rfl) ?_
      refine va_iald (D := D) (i := z4) hx hb hK hP 18 17 rfl rfl (i_in (a := z4.toInt) rfl (by first | exact om_747bf2ae89bc r1.1 r1.2 hz2 f7 r8.2 f11 ((Imp.go hz4 (om_98652cffb46a r1.1 r1.2 hz2 f7 r8.2 f11))) | first | omega | ((try (have i_hz4 := Imp.go hz4 (by omega))); omega))) dX12_isThere_32 ?_
      have r12 : (-1) ≤ ((V 25 (Int32.toNatClampNeg z4))).toInt ∧ ((V 25 (Int32.toNatClampNeg z4))).toInt ≤ 11 := hMV 25 (Int32.toNatClampNeg z4)
      refine lv_if_lt (tgt := 64) hx hb dX12_isThere_33 (by decide) (fun c13 => ?_) (fun c13 => ?_)
      · skip
        have f14 : ((V 25 (Int32.toNatClampNeg z4))).toInt < 0 := b_lt rfl (by decide) c13
        refine lv_iconst (v := 1) hx hb dX12_isThere_64 (by decide) ?_
        refine lv_goto (tgt := 69) hx hb dX12_isThere_65 (by decide) ?_
        have k0 := i_clamp (x := p0) rfl (by (first | exact om_eafa9039069c f7 | omega))
        have kn : (nwh V : Int) = (V 0 11).toInt := i_clamp (x := V 0 11) rfl (by (first | exact om_eafa9039069c r1.1 | omega))
        have k1 : Int32.toNatClampNeg z4 = 24 * nwh V + Int32.toNatClampNeg p0 := by have hz9 : z4.toInt = 24 * (V 0 11).toInt + p0.toInt := (by first | omega | ((try (have i_hz4 := Imp.go hz4 (by omega))); omega)); have h9 := i_clamp (x := z4) rfl (by omega); omega
        have q19 : (V 19 (nwh V)).toInt = (V 19 (Int32.toNatClampNeg (V 0 11))).toInt := rfl
        have q25 : (V 25 (24 * nwh V + Int32.toNatClampNeg p0)).toInt = (V 25 (Int32.toNatClampNeg z4)).toInt := by rw [k1]
        exact W.zret (v := 1) hx hb hr rfl (fun t ht hW => ⟨⟨1, (), rfl, ⟨(by decide), (Imp.mk (fun _ => (show 0 ≤ p0.toInt ∧ p0.toInt ≤ 23 from by first | exact om_ac7b8d4d9f10 f7 r8.2 f11 | first | omega | ((try (have i_hz4 := Imp.go hz4 (by omega))); omega)))), (Imp.mk (fun _ => ⟨by omega, Or.inl (by omega)⟩)), (Imp.mk (fun hp => absurd hp (by decide)))⟩, by rw [ht]; exact hP, va_K.moved hW.alike hK, hD⟩, hS.F ht⟩) hS.2.2 dX12_isThere_69
      · skip
        have f15 : 0 ≤ ((V 25 (Int32.toNatClampNeg z4))).toInt := b_nlt rfl (by decide) c13
        refine lv_aload_n hx hb dX12_isThere_36 rfl (lv_at hl 1 rfl) ?_
        refine va_get (D := D) (ci := 12) (v := .ref (ad 18)) (C := RX12) (T := TX12) (N := 100) hx hb hg inX12 hown hK hP 0 rfl rfl 18 (by decide) (hg _ w1724) (fun _ h9 => h9) rfl dX12_isThere_37 ?_
        refine lv_bipush (v := 12) hx hb dX12_isThere_40 (by decide) ?_
        refine lv_aload_n hx hb dX12_isThere_42 rfl (lv_at hl 1 rfl) ?_
        refine va_get (D := D) (ci := 12) (v := .int (V 0 11)) (C := RX12) (T := TX12) (N := 100) hx hb hg inX12 hown hK hP 0 rfl rfl 11 (by decide) (hg _ w1717) (fun _ h9 => h9) rfl dX12_isThere_43 ?_
        refine lv_imul hx hb dX12_isThere_46 ?_
        refine lv_topi (fun z16 ez16 => ?_)
        have hz16 : z16.toInt = 12 * ((V 0 11)).toInt := i_mul ez16 (by decide) rfl (by (first | exact om_630bd6ee60c3 r1.1 r1.2 | omega))
        refine lv_aload_n hx hb dX12_isThere_47 rfl (lv_at hl 1 rfl) ?_
        refine va_get (D := D) (ci := 12) (v := .ref (ad 25)) (C := RX12) (T := TX12) (N := 100) hx hb hg inX12 hown hK hP 0 rfl rfl 25 (by decide) (hg _ w1731) (fun _ h9 => h9) rfl dX12_isThere_48 ?_
        refine lv_iload_n hx hb dX12_isThere_51 rfl (lv_at hl 0 rfl) ?_
        refine va_iald (D := D) (i := z4) hx hb hK hP 18 17 rfl rfl (i_in (a := z4.toInt) rfl (by first | exact om_747bf2ae89bc r1.1 r1.2 hz2 f7 r8.2 f11 ((Imp.go hz4 (om_98652cffb46a r1.1 r1.2 hz2 f7 r8.2 f11))) | first | omega | ((try (have i_hz4 := Imp.go hz4 (by omega))); omega))) dX12_isThere_52 ?_
        refine lv_iadd hx hb dX12_isThere_53 ?_
        refine lv_topi (fun z17 ez17 => ?_)
        have hz17 : z17.toInt = z16.toInt + ((V 25 (Int32.toNatClampNeg z4))).toInt := i_add ez17 rfl rfl (by (first | exact om_bb6d5a6aa1c4 r1.1 r1.2 r12.2 f15 hz16 | omega))
        refine va_iald (D := D) (i := z17) hx hb hK hP 11 10 rfl rfl (i_in (a := z17.toInt) rfl (by first | exact om_d783ef134178 r1.1 r1.2 r12.2 f15 hz16 hz17 | first | omega | ((try (have i_hz4 := Imp.go hz4 (by omega))); omega))) dX12_isThere_54 ?_
        refine lv_aload_n hx hb dX12_isThere_55 rfl (lv_at hl 1 rfl) ?_
        refine va_get (D := D) (ci := 12) (v := .ref (ad 26)) (C := RX12) (T := TX12) (N := 100) hx hb hg inX12 hown hK hP 0 rfl rfl 26 (by decide) (hg _ w1732) (fun _ h9 => h9) rfl dX12_isThere_56 ?_
        refine lv_iload_n hx hb dX12_isThere_59 rfl (lv_at hl 0 rfl) ?_
        refine va_iald (D := D) (i := z4) hx hb hK hP 19 18 rfl rfl (i_in (a := z4.toInt) rfl (by first | exact om_747bf2ae89bc r1.1 r1.2 hz2 f7 r8.2 f11 ((Imp.go hz4 (om_98652cffb46a r1.1 r1.2 hz2 f7 r8.2 f11))) | first | omega | ((try (have i_hz4 := Imp.go hz4 (by omega))); omega))) dX12_isThere_60 ?_
        refine lv_icmp_ne (tgt := 68) hx hb dX12_isThere_61 (by decide) (fun c18 => ?_) (fun c18 => ?_)
        · skip
          have f19 : ((V 18 (Int32.toNatClampNeg z17))).toInt ≠ ((V 26 (Int32.toNatClampNeg z4))).toInt := b_neq rfl rfl c18
          refine lv_iconst (v := 0) hx hb dX12_isThere_68 (by decide) ?_
          have k0 := i_clamp (x := p0) rfl (by (first | exact om_eafa9039069c f7 | omega))
          have kn : (nwh V : Int) = (V 0 11).toInt := i_clamp (x := V 0 11) rfl (by (first | exact om_eafa9039069c r1.1 | omega))
          have k1 : Int32.toNatClampNeg z4 = 24 * nwh V + Int32.toNatClampNeg p0 := by have hz9 : z4.toInt = 24 * (V 0 11).toInt + p0.toInt := (by first | omega | ((try (have i_hz4 := Imp.go hz4 (by omega))); omega)); have h9 := i_clamp (x := z4) rfl (by omega); omega
          have q19 : (V 19 (nwh V)).toInt = (V 19 (Int32.toNatClampNeg (V 0 11))).toInt := rfl
          have q25 : (V 25 (24 * nwh V + Int32.toNatClampNeg p0)).toInt = (V 25 (Int32.toNatClampNeg z4)).toInt := by rw [k1]
          have k2 : Int32.toNatClampNeg z17 = 12 * nwh V + (V 25 (24 * nwh V + Int32.toNatClampNeg p0)).toInt.toNat := by have h9 := i_clamp (x := z17) rfl (by (first | exact om_e9ce31f03c7e r1.1 f15 hz16 hz17 | omega)); (first | exact om_3f07f1184ac3 f15 hz16 hz17 kn q25 h9 | omega)
          have q18 : V 18 (12 * nwh V + (V 25 (24 * nwh V + Int32.toNatClampNeg p0)).toInt.toNat) = V 18 (Int32.toNatClampNeg z17) := by rw [k2]
          have q26 : V 26 (24 * nwh V + Int32.toNatClampNeg p0) = V 26 (Int32.toNatClampNeg z4) := by rw [k1]
          exact W.zret (v := 0) hx hb hr rfl (fun t ht hW => ⟨⟨0, (), rfl, ⟨(by decide), (Imp.mk (fun hp => absurd hp (by decide))), (Imp.mk (fun hp => absurd hp (by decide))), (Imp.mk (fun _ _ ht => by rcases ht.2 with h9 | h9; omega; (rw [q18, q26] at h9; have h8 := congrArg Int32.toInt h9; omega)))⟩, by rw [ht]; exact hP, va_K.moved hW.alike hK, hD⟩, hS.F ht⟩) hS.2.2 dX12_isThere_69
        · skip
          have f20 : ((V 18 (Int32.toNatClampNeg z17))).toInt = ((V 26 (Int32.toNatClampNeg z4))).toInt := b_eq rfl rfl c18
          refine lv_iconst (v := 1) hx hb dX12_isThere_64 (by decide) ?_
          refine lv_goto (tgt := 69) hx hb dX12_isThere_65 (by decide) ?_
          have k0 := i_clamp (x := p0) rfl (by (first | exact om_eafa9039069c f7 | omega))
          have kn : (nwh V : Int) = (V 0 11).toInt := i_clamp (x := V 0 11) rfl (by (first | exact om_eafa9039069c r1.1 | omega))
          have k1 : Int32.toNatClampNeg z4 = 24 * nwh V + Int32.toNatClampNeg p0 := by have hz9 : z4.toInt = 24 * (V 0 11).toInt + p0.toInt := (by first | omega | ((try (have i_hz4 := Imp.go hz4 (by omega))); omega)); have h9 := i_clamp (x := z4) rfl (by omega); omega
          have q19 : (V 19 (nwh V)).toInt = (V 19 (Int32.toNatClampNeg (V 0 11))).toInt := rfl
          have q25 : (V 25 (24 * nwh V + Int32.toNatClampNeg p0)).toInt = (V 25 (Int32.toNatClampNeg z4)).toInt := by rw [k1]
          have k2 : Int32.toNatClampNeg z17 = 12 * nwh V + (V 25 (24 * nwh V + Int32.toNatClampNeg p0)).toInt.toNat := by have h9 := i_clamp (x := z17) rfl (by (first | exact om_e9ce31f03c7e r1.1 f15 hz16 hz17 | omega)); (first | exact om_3f07f1184ac3 f15 hz16 hz17 kn q25 h9 | omega)
          have q18 : V 18 (12 * nwh V + (V 25 (24 * nwh V + Int32.toNatClampNeg p0)).toInt.toNat) = V 18 (Int32.toNatClampNeg z17) := by rw [k2]
          have q26 : V 26 (24 * nwh V + Int32.toNatClampNeg p0) = V 26 (Int32.toNatClampNeg z4) := by rw [k1]
          exact W.zret (v := 1) hx hb hr rfl (fun t ht hW => ⟨⟨1, (), rfl, ⟨(by decide), (Imp.mk (fun _ => (show 0 ≤ p0.toInt ∧ p0.toInt ≤ 23 from by first | exact om_ac7b8d4d9f10 f7 r8.2 f11 | first | omega | ((try (have i_hz4 := Imp.go hz4 (by omega))); omega)))), (Imp.mk (fun _ => ⟨by omega, Or.inr (by rw [q18, q26]; exact Int32.toInt_inj.mp (by omega))⟩)), (Imp.mk (fun hp => absurd hp (by decide)))⟩, by rw [ht]; exact hP, va_K.moved hW.alike hK, hD⟩, hS.F ht⟩) hS.2.2 dX12_isThere_69
abbrev r_s_suits2 : Room := { frames := 1, cells := 0, slots := 0, locals := 22 }
abbrev q_s_suits2 (D : va_G) (ks : KS) (ad : Nat → Nat) (kk : Nat → ClassId) (V : Vf) (L : Lf) (p0 : Int32) (p1 : Int32) (A : Nat → Prop) : Array Value → State → Outcome → State → Prop := va_Qi (fun (r : Int32) (_ : Unit) => (0 ≤ r.toInt ∧ r.toInt ≤ 1) ∧ (Imp (r.toInt = 1) (th V (Int32.toNatClampNeg p1)))) (fun _ t => gq D A (mw ad kk ks.1 V L) (mty kk) t) A
set_option maxHeartbeats 4000000 in
set_option maxRecDepth 100000 in
theorem s_suits2 (l : Launch) (D : va_G) (ks : KS) (sz : Nat) (ad : Nat → Nat) (kk : Nat → ClassId) (V : Vf) (L : Lf) (p0 : Int32) (p1 : Int32) (hMV : rgd bM V) (rg_p0 : 0 ≤ p0.toInt ∧ p0.toInt ≤ 383) (rg_p1 : 0 ≤ p1.toInt ∧ p1.toInt ≤ 23) (y1 : 0 ≤ (V 28 (Int32.toNatClampNeg p0)).toInt)  : Met l yX12_suits (Cond.code yX12_suits cX12_suits 4 (some .boolean) :: GW) r_s_suits2 (va_Pc [.ref (ad 0), .int p0, .int p1] (gp D ks (mw ad kk ks.1 V L) (mty kk) sz)) (q_s_suits2 D ks ad kk V L p0 p1 (va_A (mw ad kk ks.1 V L) sz)) 0 0 (va_A (mw ad kk ks.1 V L) sz) := by
  refine g_met (q_s_suits2 D ks ad kk V L p0 p1) (by decide) (Nat.le_of_ble_eq_true rfl) ?_
  intro p e s m below meth c A ls H locs hx hb hr hml hown hg hlocks hin hnw hgk hP hK hD hS hA hl
  have hown : s.vm.findClass RX12 = some m.cls := hown
  have hl : lv_has ls 4 [(0, .ref (ad 0)), (1, .int p0), (2, .int p1)] := hl
  have hP : va_P D vwCl (mw ad kk ks.1 V L) H := hP
  have hD : va_D A (mw ad kk ks.1 V L) := hD
  have hK : va_K D vwCl (mty kk) s := hK
  have r1 : (-1) ≤ ((V 28 (Int32.toNatClampNeg p0))).toInt ∧ ((V 28 (Int32.toNatClampNeg p0))).toInt ≤ 23 := hMV 28 (Int32.toNatClampNeg p0)
  refine lv_bipush (v := 24) hx hb dX12_suits_0 (by decide) ?_
  refine lv_aload_n hx hb dX12_suits_2 rfl (lv_at hl 0 rfl) ?_
  refine va_get (D := D) (ci := 12) (v := .int (V 0 11)) (C := RX12) (T := TX12) (N := 100) hx hb hg inX12 hown hK hP 0 rfl rfl 11 (by decide) (hg _ w1717) (fun _ h9 => h9) rfl dX12_suits_3 ?_
  have r2 : 0 ≤ ((V 0 11)).toInt ∧ ((V 0 11)).toInt ≤ 1 := hMV 0 11
  refine lv_imul hx hb dX12_suits_6 ?_
  refine lv_topi (fun z3 ez3 => ?_)
  have hz3 : z3.toInt = 24 * ((V 0 11)).toInt := i_mul ez3 (by decide) rfl (by (first | exact om_3f8aba7b6ce1 r2.1 r2.2 | omega))
  refine lv_iload_n hx hb dX12_suits_7 rfl (lv_at hl 2 rfl) ?_
  refine lv_iadd hx hb dX12_suits_8 ?_
  refine lv_topi (fun z4 ez4 => ?_)
  have hz4 : z4.toInt = z3.toInt + p1.toInt := i_add ez4 rfl rfl (by (first | exact om_6c84dfc0d33f rg_p1.1 rg_p1.2 r2.1 r2.2 hz3 | omega))
  refine lv_istore_n (lv' := [(3, .int z4), (0, .ref (ad 0)), (1, .int p0), (2, .int p1)]) hx hb dX12_suits_9 rfl hl (by decide) rfl (fun ls hl => ?_)
  refine lv_aload_n hx hb dX12_suits_10 rfl (lv_at hl 1 rfl) ?_
  refine lv_iload_n hx hb dX12_suits_11 rfl (lv_at hl 3 rfl) ?_
  refine gA_int (gA_runV (As := [.int p1]) (rest := []) (ci := 12) (q0 := 0) hx hb hml hown hg hP hD hK hS hA hnw hgk (s_isThere2 l D ks H.size ad kk V L p1 hMV ) w2164 w2166 w117 w172 w2167 rfl rfl hdV_yX12_isThere ⟨Nat.le_of_ble_eq_true rfl, Nat.le_of_ble_eq_true rfl⟩ rfl hl.1 rfl (Nat.le_of_ble_eq_true rfl) dX12_suits_12 ⟨Nat.le_of_ble_eq_true rfl, Nat.le_of_ble_eq_true rfl⟩) hP hD hK hS hA (fun z5 u6 H locs w7 hP hD hK hS => ?_)
  obtain ⟨rgz5, t8, t9, t10⟩ := w7
  have rgz5 : 0 ≤ z5.toInt ∧ z5.toInt ≤ 1 := rgz5
  have t8 : Imp (z5.toInt = 1) (0 ≤ p1.toInt ∧ p1.toInt ≤ 23) := t8
  have t9 : Imp (z5.toInt = 1) (th V (Int32.toNatClampNeg p1)) := t9
  have t10 : Imp (z5.toInt = 0) (0 ≤ p1.toInt → ¬ th V (Int32.toNatClampNeg p1)) := t10
  refine lv_if_eq (tgt := 65) hx hb dX12_suits_15 (by decide) (fun c11 => ?_) (fun c11 => ?_)
  · skip
    have f12 : z5.toInt = 0 := b_eq rfl (by decide) c11
    refine lv_iconst (v := 0) hx hb dX12_suits_65 (by decide) ?_
    exact W.zret (v := 0) hx hb hr rfl (fun t ht hW => ⟨⟨0, (), rfl, ⟨(by decide), (Imp.mk (fun hp => absurd hp (by decide)))⟩, by rw [ht]; exact hP, va_K.moved hW.alike hK, hD⟩, hS.F ht⟩) hS.2.2 dX12_suits_66
  · skip
    have f13 : z5.toInt ≠ 0 := b_neq rfl (by decide) c11
    refine lv_aload_n hx hb dX12_suits_18 rfl (lv_at hl 1 rfl) ?_
    refine va_get (D := D) (ci := 12) (v := .ref (ad 21)) (C := RX12) (T := TX12) (N := 100) hx hb hg inX12 hown hK hP 0 rfl rfl 21 (by decide) (hg _ w1727) (fun _ h9 => h9) rfl dX12_suits_19 ?_
    refine lv_bipush (v := 24) hx hb dX12_suits_22 (by decide) ?_
    refine lv_iload_n hx hb dX12_suits_24 rfl (lv_at hl 0 rfl) ?_
    refine lv_imul hx hb dX12_suits_25 ?_
    refine lv_topi (fun z14 ez14 => ?_)
    have hz14 : z14.toInt = 24 * z4.toInt := i_mul ez14 (by decide) rfl (by (first | exact om_1cede0128ad6 rg_p1.1 rg_p1.2 r2.1 r2.2 hz3 hz4 | omega))
    refine lv_aload_n hx hb dX12_suits_26 rfl (lv_at hl 1 rfl) ?_
    refine va_get (D := D) (ci := 12) (v := .ref (ad 28)) (C := RX12) (T := TX12) (N := 100) hx hb hg inX12 hown hK hP 0 rfl rfl 28 (by decide) (hg _ w1734) (fun _ h9 => h9) rfl dX12_suits_27 ?_
    refine lv_iload_n hx hb dX12_suits_30 rfl (lv_at hl 2 rfl) ?_
    refine va_iald (D := D) (i := p0) hx hb hK hP 21 20 rfl rfl (i_in (a := p0.toInt) rfl (by first | exact om_49d8f2f70e9a rg_p0.1 rg_p0.2 | first | omega | ((try (have i_t8 := Imp.go t8 (by omega))); omega))) dX12_suits_31 ?_
    refine lv_iadd hx hb dX12_suits_32 ?_
    refine lv_topi (fun z15 ez15 => ?_)
    have hz15 : z15.toInt = z14.toInt + ((V 28 (Int32.toNatClampNeg p0))).toInt := i_add ez15 rfl rfl (by (first | exact om_1a4295ae257b rg_p1.1 rg_p1.2 y1 r1.2 r2.1 r2.2 hz3 hz4 hz14 | omega))
    refine va_zald (D := D) (i := z15) hx hb hK hP 14 13 rfl rfl (i_in (a := z15.toInt) rfl (by first | exact om_5dfdb90e31d6 rg_p1.1 rg_p1.2 y1 r1.2 r2.1 r2.2 hz3 hz4 hz14 hz15 | first | omega | ((try (have i_t8 := Imp.go t8 (by omega))); omega))) dX12_suits_33 ?_
    have r16 : 0 ≤ ((V 21 (Int32.toNatClampNeg z15))).toInt ∧ ((V 21 (Int32.toNatClampNeg z15))).toInt ≤ 1 := hMV 21 (Int32.toNatClampNeg z15)
    refine lv_if_eq (tgt := 65) hx hb dX12_suits_34 (by decide) (fun c17 => ?_) (fun c17 => ?_)
    · skip
      have f18 : ((V 21 (Int32.toNatClampNeg z15))).toInt = 0 := b_eq rfl (by decide) c17
      refine lv_iconst (v := 0) hx hb dX12_suits_65 (by decide) ?_
      exact W.zret (v := 0) hx hb hr rfl (fun t ht hW => ⟨⟨0, (), rfl, ⟨(by decide), (Imp.mk (fun hp => absurd hp (by decide)))⟩, by rw [ht]; exact hP, va_K.moved hW.alike hK, hD⟩, hS.F ht⟩) hS.2.2 dX12_suits_66
    · skip
      have f19 : ((V 21 (Int32.toNatClampNeg z15))).toInt ≠ 0 := b_neq rfl (by decide) c17
      refine lv_aload_n hx hb dX12_suits_37 rfl (lv_at hl 1 rfl) ?_
      refine va_get (D := D) (ci := 12) (v := .ref (ad 31)) (C := RX12) (T := TX12) (N := 100) hx hb hg inX12 hown hK hP 0 rfl rfl 31 (by decide) (hg _ w1737) (fun _ h9 => h9) rfl dX12_suits_38 ?_
      refine lv_iload_n hx hb dX12_suits_41 rfl (lv_at hl 2 rfl) ?_
      refine va_iald (D := D) (i := p0) hx hb hK hP 24 23 rfl rfl (i_in (a := p0.toInt) rfl (by first | exact om_49d8f2f70e9a rg_p0.1 rg_p0.2 | first | omega | ((try (have i_t8 := Imp.go t8 (by omega))); omega))) dX12_suits_42 ?_
      refine lv_if_lt (tgt := 61) hx hb dX12_suits_43 (by decide) (fun c20 => ?_) (fun c20 => ?_)
      · skip
        have f21 : ((V 31 (Int32.toNatClampNeg p0))).toInt < 0 := b_lt rfl (by decide) c20
        refine lv_iconst (v := 1) hx hb dX12_suits_61 (by decide) ?_
        refine lv_goto (tgt := 66) hx hb dX12_suits_62 (by decide) ?_
        exact W.zret (v := 1) hx hb hr rfl (fun t ht hW => ⟨⟨1, (), rfl, ⟨(by decide), (Imp.mk (fun _ => Imp.go t9 (by (first | exact om_2ebe32d50835 rgz5.1 rgz5.2 f13 | omega))))⟩, by rw [ht]; exact hP, va_K.moved hW.alike hK, hD⟩, hS.F ht⟩) hS.2.2 dX12_suits_66
      · skip
        have f22 : 0 ≤ ((V 31 (Int32.toNatClampNeg p0))).toInt := b_nlt rfl (by decide) c20
        refine lv_aload_n hx hb dX12_suits_46 rfl (lv_at hl 1 rfl) ?_
        refine va_get (D := D) (ci := 12) (v := .ref (ad 23)) (C := RX12) (T := TX12) (N := 100) hx hb hg inX12 hown hK hP 0 rfl rfl 23 (by decide) (hg _ w1729) (fun _ h9 => h9) rfl dX12_suits_47 ?_
        refine lv_iload_n hx hb dX12_suits_50 rfl (lv_at hl 0 rfl) ?_
        refine va_iald (D := D) (i := z4) hx hb hK hP 16 15 rfl rfl (i_in (a := z4.toInt) rfl (by first | exact om_cf341bf82a51 rg_p1.1 rg_p1.2 r2.1 r2.2 hz3 hz4 | first | omega | ((try (have i_t8 := Imp.go t8 (by omega))); omega))) dX12_suits_51 ?_
        refine lv_aload_n hx hb dX12_suits_52 rfl (lv_at hl 1 rfl) ?_
        refine va_get (D := D) (ci := 12) (v := .ref (ad 31)) (C := RX12) (T := TX12) (N := 100) hx hb hg inX12 hown hK hP 0 rfl rfl 31 (by decide) (hg _ w1737) (fun _ h9 => h9) rfl dX12_suits_53 ?_
        refine lv_iload_n hx hb dX12_suits_56 rfl (lv_at hl 2 rfl) ?_
        refine va_iald (D := D) (i := p0) hx hb hK hP 24 23 rfl rfl (i_in (a := p0.toInt) rfl (by first | exact om_49d8f2f70e9a rg_p0.1 rg_p0.2 | first | omega | ((try (have i_t8 := Imp.go t8 (by omega))); omega))) dX12_suits_57 ?_
        refine lv_icmp_ne (tgt := 65) hx hb dX12_suits_58 (by decide) (fun c23 => ?_) (fun c23 => ?_)
        · skip
          have f24 : ((V 23 (Int32.toNatClampNeg z4))).toInt ≠ ((V 31 (Int32.toNatClampNeg p0))).toInt := b_neq rfl rfl c23
          refine lv_iconst (v := 0) hx hb dX12_suits_65 (by decide) ?_
          exact W.zret (v := 0) hx hb hr rfl (fun t ht hW => ⟨⟨0, (), rfl, ⟨(by decide), (Imp.mk (fun hp => absurd hp (by decide)))⟩, by rw [ht]; exact hP, va_K.moved hW.alike hK, hD⟩, hS.F ht⟩) hS.2.2 dX12_suits_66
        · skip
          have f25 : ((V 23 (Int32.toNatClampNeg z4))).toInt = ((V 31 (Int32.toNatClampNeg p0))).toInt := b_eq rfl rfl c23
          refine lv_iconst (v := 1) hx hb dX12_suits_61 (by decide) ?_
          refine lv_goto (tgt := 66) hx hb dX12_suits_62 (by decide) ?_
          exact W.zret (v := 1) hx hb hr rfl (fun t ht hW => ⟨⟨1, (), rfl, ⟨(by decide), (Imp.mk (fun _ => Imp.go t9 (by (first | exact om_2ebe32d50835 rgz5.1 rgz5.2 f13 | omega))))⟩, by rw [ht]; exact hP, va_K.moved hW.alike hK, hD⟩, hS.F ht⟩) hS.2.2 dX12_suits_66
abbrev r_s_candidatesOf2 : Room := { frames := 2, cells := 0, slots := 0, locals := 45 }
abbrev q_s_candidatesOf2 (D : va_G) (ks : KS) (ad : Nat → Nat) (kk : Nat → ClassId) (V : Vf) (L : Lf) (p0 : Int32) (A : Nat → Prop) : Array Value → State → Outcome → State → Prop := va_Qi (fun (r : Int32) (u : Vf × Lf) => rgd bM u.1 ∧ agr [] [80] V u.1 ∧ u.2 = L ∧ (0 ≤ r.toInt ∧ r.toInt ≤ 24) ∧ (∀ i : Nat, (i : Int) < r.toInt → th V (Int32.toNatClampNeg (u.1 80 i))) ∧ (c0k V u.1)) (fun u t => gq D A (mw ad kk ks.1 u.1 u.2) (mty kk) t) A
set_option maxHeartbeats 4000000 in
set_option maxRecDepth 100000 in
theorem s_candidatesOf2 (l : Launch) (D : va_G) (ks : KS) (sz : Nat) (ad : Nat → Nat) (kk : Nat → ClassId) (V : Vf) (L : Lf) (p0 : Int32) (hMV : rgd bM V) (rg_p0 : 0 ≤ p0.toInt ∧ p0.toInt ≤ 383) (y1 : 0 ≤ (V 28 (Int32.toNatClampNeg p0)).toInt)  : Met l yX12_candidatesOf (Cond.code yX12_candidatesOf cX12_candidatesOf 5 (some .int) :: GW) r_s_candidatesOf2 (va_Pc [.ref (ad 0), .int p0] (gp D ks (mw ad kk ks.1 V L) (mty kk) sz)) (q_s_candidatesOf2 D ks ad kk V L p0 (va_A (mw ad kk ks.1 V L) sz)) 0 0 (va_A (mw ad kk ks.1 V L) sz) := by
  refine g_met (q_s_candidatesOf2 D ks ad kk V L p0) (by decide) (Nat.le_of_ble_eq_true rfl) ?_
  intro p e s m below meth c A ls H locs hx hb hr hml hown hg hlocks hin hnw hgk hP hK hD hS hA hl
  have hown : s.vm.findClass RX12 = some m.cls := hown
  have hl : lv_has ls 5 [(0, .ref (ad 0)), (1, .int p0)] := hl
  have hP : va_P D vwCl (mw ad kk ks.1 V L) H := hP
  have hD : va_D A (mw ad kk ks.1 V L) := hD
  have hK : va_K D vwCl (mty kk) s := hK
  have agV : agr [] [80] V V := agr.rf
  have r1 : (-1) ≤ ((V 28 (Int32.toNatClampNeg p0))).toInt ∧ ((V 28 (Int32.toNatClampNeg p0))).toInt ≤ 23 := hMV 28 (Int32.toNatClampNeg p0)
  refine lv_iconst (v := 0) hx hb dX12_candidatesOf_0 (by decide) ?_
  refine lv_istore_n (lv' := [(2, .int 0), (0, .ref (ad 0)), (1, .int p0)]) hx hb dX12_candidatesOf_1 rfl hl (by decide) rfl (fun ls hl => ?_)
  refine lv_iconst (v := 0) hx hb dX12_candidatesOf_2 (by decide) ?_
  refine lv_istore_n (lv' := [(3, .int 0), (2, .int 0), (0, .ref (ad 0)), (1, .int p0)]) hx hb dX12_candidatesOf_3 rfl hl (by decide) rfl (fun ls hl => ?_)
  have lp4 : ∀ (fulp4 : Nat) (y2 : Int32) (y3 : Int32) (H : Heap) (locs : List Loc) (ls : Array Slot), 0 ≤ y2.toInt ∧ y2.toInt ≤ 24 → 24 - y2.toInt < (fulp4 : Int) → va_P D vwCl (mw ad kk ks.1 V L) H → va_D A (mw ad kk ks.1 V L) → va_S A s.heap H locs → lv_has ls 5 [(3, .int y2), (2, .int y3), (0, .ref (ad 0)), (1, .int p0)] → W p l e r_s_candidatesOf2 s m ([.ref (ad 0), .int p0] : List Value).toArray below meth c H locs 0 0 (MQ below (q_s_candidatesOf2 D ks ad kk V L p0 A) ([.ref (ad 0), .int p0] : List Value).toArray s 0 0 A) (F0 m 4 ls []) := by
    intro fulp4
    induction fulp4 with
    | zero =>
      intro y2 y3 H locs ls klp4_0 hn  hP hD hS hl
      exfalso; (first | exact om_9386ef0df612 klp4_0.2 hn | omega)
    | succ fulp4 ihlp4 =>
      intro y2 y3 H locs ls klp4_0 hn  hP hD hS hl
      refine lv_iload_n hx hb dX12_candidatesOf_4 rfl (lv_at hl 0 rfl) ?_
      refine lv_aload_n hx hb dX12_candidatesOf_5 rfl (lv_at hl 2 rfl) ?_
      refine va_get (D := D) (ci := 12) (v := .ref (ad 19)) (C := RX12) (T := TX12) (N := 100) hx hb hg inX12 hown hK hP 0 rfl rfl 19 (by decide) (hg _ w1725) (fun _ h9 => h9) rfl dX12_candidatesOf_6 ?_
      refine lv_aload_n hx hb dX12_candidatesOf_9 rfl (lv_at hl 2 rfl) ?_
      refine va_get (D := D) (ci := 12) (v := .int (V 0 11)) (C := RX12) (T := TX12) (N := 100) hx hb hg inX12 hown hK hP 0 rfl rfl 11 (by decide) (hg _ w1717) (fun _ h9 => h9) rfl dX12_candidatesOf_10 ?_
      have r5 : 0 ≤ ((V 0 11)).toInt ∧ ((V 0 11)).toInt ≤ 1 := hMV 0 11
      refine va_iald (D := D) (i := (V 0 11)) hx hb hK hP 12 11 rfl rfl (i_in (a := ((V 0 11)).toInt) rfl (by (first | exact om_8367a84723c7 r5.1 r5.2 | omega))) dX12_candidatesOf_13 ?_
      have r6 : 0 ≤ ((V 19 (Int32.toNatClampNeg (V 0 11)))).toInt ∧ ((V 19 (Int32.toNatClampNeg (V 0 11)))).toInt ≤ 24 := hMV 19 (Int32.toNatClampNeg (V 0 11))
      refine lv_icmp_ge (tgt := 69) hx hb dX12_candidatesOf_14 (by decide) (fun c7 => ?_) (fun c7 => ?_)
      · skip
        have f8 : ((V 19 (Int32.toNatClampNeg (V 0 11)))).toInt ≤ y2.toInt := b_le rfl rfl c7
        refine lv_iconst (v := 0) hx hb dX12_candidatesOf_69 (by decide) ?_
        refine lv_istore_n (lv' := [(3, .int 0), (2, .int y3), (0, .ref (ad 0)), (1, .int p0)]) hx hb dX12_candidatesOf_70 rfl hl (by decide) rfl (fun ls hl => ?_)
        refine lv_iconst (v := 0) hx hb dX12_candidatesOf_71 (by decide) ?_
        refine lv_istore (lv' := [(4, .int 0), (3, .int 0), (2, .int y3), (0, .ref (ad 0)), (1, .int p0)]) hx hb dX12_candidatesOf_72 hl (by decide) rfl (fun ls hl => ?_)
        have lp12 : ∀ (fulp12 : Nat) (y9 : Int32) (y10 : Int32) (V11 : Vf) (H : Heap) (locs : List Loc) (ls : Array Slot), 0 ≤ y9.toInt ∧ y9.toInt ≤ 24 → 0 ≤ y10.toInt ∧ y10.toInt ≤ 24 → y10.toInt ≤ y9.toInt → (∀ i : Nat, (i : Int) < y10.toInt → th V (Int32.toNatClampNeg (V11 80 i))) → Imp (y10.toInt = 0) (V11 80 0 = V 80 0) → 24 - y9.toInt < (fulp12 : Int) → agr [] [80] V V11 → rgd bM V11 → va_P D vwCl (mw ad kk ks.1 V11 L) H → va_D A (mw ad kk ks.1 V11 L) → va_S A s.heap H locs → lv_has ls 5 [(4, .int y9), (3, .int y10), (2, .int y3), (0, .ref (ad 0)), (1, .int p0)] → W p l e r_s_candidatesOf2 s m ([.ref (ad 0), .int p0] : List Value).toArray below meth c H locs 0 0 (MQ below (q_s_candidatesOf2 D ks ad kk V L p0 A) ([.ref (ad 0), .int p0] : List Value).toArray s 0 0 A) (F0 m 74 ls []) := by
          intro fulp12
          induction fulp12 with
          | zero =>
            intro y9 y10 V11 H locs ls klp12_0 klp12_1 xlp12_0 xlp12_1 xlp12_2 hn ajV11 hMV11 hP hD hS hl
            exfalso; (first | exact om_9386ef0df612 klp12_0.2 hn | omega)
          | succ fulp12 ihlp12 =>
            intro y9 y10 V11 H locs ls klp12_0 klp12_1 xlp12_0 xlp12_1 xlp12_2 hn ajV11 hMV11 hP hD hS hl
            have agV11 : agr [] [80] V V11 := agV.tr ajV11 (by decide) (by decide)
            refine lv_iload hx hb dX12_candidatesOf_74 (lv_at hl 0 rfl) ?_
            refine lv_aload_n hx hb dX12_candidatesOf_76 rfl (lv_at hl 3 rfl) ?_
            refine va_get (D := D) (ci := 12) (v := .ref (ad 19)) (C := RX12) (T := TX12) (N := 100) hx hb hg inX12 hown hK hP 0 rfl rfl 19 (by decide) (hg _ w1725) (fun _ h9 => h9) rfl dX12_candidatesOf_77 ?_
            refine lv_aload_n hx hb dX12_candidatesOf_80 rfl (lv_at hl 3 rfl) ?_
            refine va_get (D := D) (ci := 12) (v := .int (V11 0 11)) (C := RX12) (T := TX12) (N := 100) hx hb hg inX12 hown hK hP 0 rfl rfl 11 (by decide) (hg _ w1717) (fun _ h9 => h9) rfl dX12_candidatesOf_81 ?_
            refine g_top (v := (V 0 11)) (ajV11 0 11 rfl) ?_
            refine va_iald (D := D) (i := (V 0 11)) hx hb hK hP 12 11 rfl rfl (i_in (a := ((V 0 11)).toInt) rfl (by (first | exact om_8367a84723c7 r5.1 r5.2 | omega))) dX12_candidatesOf_84 ?_
            refine g_top (v := (V 19 (Int32.toNatClampNeg (V 0 11)))) (ajV11 19 (Int32.toNatClampNeg (V 0 11)) rfl) ?_
            refine lv_icmp_ge (tgt := 143) hx hb dX12_candidatesOf_85 (by decide) (fun c13 => ?_) (fun c13 => ?_)
            · skip
              have f14 : ((V 19 (Int32.toNatClampNeg (V 0 11)))).toInt ≤ y9.toInt := b_le rfl rfl c13
              refine lv_iload_n hx hb dX12_candidatesOf_143 rfl (lv_at hl 1 rfl) ?_
              exact W.iret (v := y10) hx hb hr (fun t ht hW => ⟨⟨y10, (V11, L), rfl, ⟨hMV11, agV11, rfl, (show 0 ≤ y10.toInt ∧ y10.toInt ≤ 24 from by (first | exact om_f82fee59341f klp12_1.1 klp12_1.2 | omega)), xlp12_1, (by rcases Decidable.em (y10.toInt = 0) with h9 | h9; exact Or.inl (Imp.go xlp12_2 h9); exact Or.inr (xlp12_1 0 (by omega)))⟩, by rw [ht]; exact hP, va_K.moved hW.alike hK, hD⟩, hS.F ht⟩) hS.2.2 dX12_candidatesOf_144
            · skip
              have f15 : y9.toInt < ((V 19 (Int32.toNatClampNeg (V 0 11)))).toInt := b_nle rfl rfl c13
              refine lv_aload_n hx hb dX12_candidatesOf_88 rfl (lv_at hl 3 rfl) ?_
              refine lv_iload_n hx hb dX12_candidatesOf_89 rfl (lv_at hl 4 rfl) ?_
              refine lv_iload hx hb dX12_candidatesOf_90 (lv_at hl 0 rfl) ?_
              have pq16 : (V11 28 (Int32.toNatClampNeg p0)).toInt = ((V 28 (Int32.toNatClampNeg p0))).toInt := congrArg Int32.toInt (ajV11 28 (Int32.toNatClampNeg p0) rfl)
              refine gA_int (gA_runV (As := [.int p0, .int y9]) (rest := []) (ci := 12) (q0 := 0) hx hb hml hown hg hP hD hK hS hA hnw hgk (s_suits2 l D ks H.size ad kk V11 L p0 y9 hMV11 (by (first | exact om_e937935e9c51 rg_p0.1 rg_p0.2 | omega)) (by (first | exact om_8840667578a5 r6.2 klp12_0.1 f15 | omega)) (show 0 ≤ (V11 28 (Int32.toNatClampNeg p0)).toInt from by (first | exact om_ac0b685ca4ca y1 pq16 | omega))) w2176 w2178 w120 w172 w2179 rfl rfl hdV_yX12_suits ⟨Nat.le_of_ble_eq_true rfl, Nat.le_of_ble_eq_true rfl⟩ rfl hl.1 rfl (Nat.le_of_ble_eq_true rfl) dX12_candidatesOf_92 ⟨Nat.le_of_ble_eq_true rfl, Nat.le_of_ble_eq_true rfl⟩) hP hD hK hS hA (fun z17 u18 H locs w19 hP hD hK hS => ?_)
              obtain ⟨rgz17, t20⟩ := w19
              have rgz17 : 0 ≤ z17.toInt ∧ z17.toInt ≤ 1 := rgz17
              have t20 : Imp (z17.toInt = 1) (th V11 (Int32.toNatClampNeg y9)) := t20
              refine lv_if_eq (tgt := 137) hx hb dX12_candidatesOf_95 (by decide) (fun c21 => ?_) (fun c21 => ?_)
              · skip
                have f22 : z17.toInt = 0 := b_eq rfl (by decide) c21
                obtain ⟨z23, ez23⟩ : ∃ y : Int32, y = y9 + 1 := ⟨_, rfl⟩
                have hz23 : z23.toInt = y9.toInt + 1 := i_add ez23 rfl (by decide) (by (first | exact om_ef5c713ba60b r6.2 klp12_0.1 f15 | omega))
                refine lv_iinc (v := z23) (lv' := [(4, .int z23), (3, .int y10), (2, .int y3), (0, .ref (ad 0)), (1, .int p0)]) hx hb dX12_candidatesOf_137 hl (k := 0) rfl (by rw [ez23]; rfl) (by decide) rfl (fun ls hl => ?_)
                refine lv_goto (tgt := 74) hx hb dX12_candidatesOf_140 (by decide) ?_
                exact ihlp12 z23 y10 V11 H locs ls (by (first | exact om_66f93e1729e3 r6.2 klp12_0.1 f15 hz23 | omega)) (by (first | exact om_27ab40a3c6d2 r6.2 klp12_1.1 xlp12_0 f15 | omega)) (show y10.toInt ≤ z23.toInt from by (first | exact om_f75a30b4c815 xlp12_0 hz23 | omega)) xlp12_1 xlp12_2 (by (first | exact om_9592d9319ffa hn hz23 | omega)) (agr.tr agr.rf ajV11 (by decide) (by decide)) hMV11 hP hD hS (lv_sub hl [0, 1, 2, 3, 4] rfl)
              · skip
                have f24 : z17.toInt ≠ 0 := b_neq rfl (by decide) c21
                refine lv_aload_n hx hb dX12_candidatesOf_98 rfl (lv_at hl 3 rfl) ?_
                refine va_get (D := D) (ci := 12) (v := .ref (ad 30)) (C := RX12) (T := TX12) (N := 100) hx hb hg inX12 hown hK hP 0 rfl rfl 30 (by decide) (hg _ w1736) (fun _ h9 => h9) rfl dX12_candidatesOf_99 ?_
                refine lv_iload_n hx hb dX12_candidatesOf_102 rfl (lv_at hl 4 rfl) ?_
                refine va_zald (D := D) (i := p0) hx hb hK hP 23 22 rfl rfl (i_in (a := p0.toInt) rfl (by (first | exact om_49d8f2f70e9a rg_p0.1 rg_p0.2 | omega))) dX12_candidatesOf_103 ?_
                refine g_top (v := (V 30 (Int32.toNatClampNeg p0))) (ajV11 30 (Int32.toNatClampNeg p0) rfl) ?_
                have r25 : 0 ≤ ((V 30 (Int32.toNatClampNeg p0))).toInt ∧ ((V 30 (Int32.toNatClampNeg p0))).toInt ≤ 1 := hMV 30 (Int32.toNatClampNeg p0)
                refine lv_if_ne (tgt := 126) hx hb dX12_candidatesOf_104 (by decide) (fun c26 => ?_) (fun c26 => ?_)
                · skip
                  have f27 : ((V 30 (Int32.toNatClampNeg p0))).toInt ≠ 0 := b_neq rfl (by decide) c26
                  refine lv_aload_n hx hb dX12_candidatesOf_126 rfl (lv_at hl 3 rfl) ?_
                  refine va_get (D := D) (ci := 12) (v := .ref (ad 80)) (C := RX12) (T := TX12) (N := 100) hx hb hg inX12 hown hK hP 0 rfl rfl 80 (by decide) (hg _ w1786) (fun _ h9 => h9) rfl dX12_candidatesOf_127 ?_
                  refine lv_iload_n hx hb dX12_candidatesOf_130 rfl (lv_at hl 1 rfl) ?_
                  refine lv_iload hx hb dX12_candidatesOf_131 (lv_at hl 0 rfl) ?_
                  refine va_iast (D := D) (i := y10) (x := y9) hx hb hK hP hD hS 57 56 rfl rfl (i_in (a := y10.toInt) rfl (by (first | exact om_7cb642ef3428 r6.2 klp12_1.1 xlp12_0 f15 | omega))) dX12_candidatesOf_133 (fun H locs hP hD hS => ?_)
                  obtain ⟨V28, hV28⟩ : ∃ z, z = up2 V11 80 (Int32.toNatClampNeg y10) y9 := ⟨_, rfl⟩
                  have hP : va_P D vwCl (mw ad kk ks.1 V28 L) H := by rw [hV28]; exact hP
                  have hD : va_D A (mw ad kk ks.1 V28 L) := by rw [hV28]; exact hD
                  have hMV28 : rgd bM V28 := hMV11.put hV28 (show 0 ≤ y9.toInt ∧ y9.toInt ≤ 23 from by (first | exact om_8840667578a5 r6.2 klp12_0.1 f15 | omega))
                  have agV28 : agr [] [80] V V28 := agV11.up hV28 rfl
                  obtain ⟨z29, ez29⟩ : ∃ y : Int32, y = y10 + 1 := ⟨_, rfl⟩
                  have hz29 : z29.toInt = y10.toInt + 1 := i_add ez29 rfl (by decide) (by (first | exact om_00351a9c79f7 r6.2 klp12_1.1 xlp12_0 f15 | omega))
                  refine lv_iinc (v := z29) (lv' := [(3, .int z29), (4, .int y9), (2, .int y3), (0, .ref (ad 0)), (1, .int p0)]) hx hb dX12_candidatesOf_134 hl (k := 1) rfl (by rw [ez29]; rfl) (by decide) rfl (fun ls hl => ?_)
                  obtain ⟨z30, ez30⟩ : ∃ y : Int32, y = y9 + 1 := ⟨_, rfl⟩
                  have hz30 : z30.toInt = y9.toInt + 1 := i_add ez30 rfl (by decide) (by (first | exact om_566b0ab779ab r6.2 klp12_1.1 xlp12_0 f15 | omega))
                  refine lv_iinc (v := z30) (lv' := [(4, .int z30), (3, .int z29), (2, .int y3), (0, .ref (ad 0)), (1, .int p0)]) hx hb dX12_candidatesOf_137 hl (k := 1) rfl (by rw [ez30]; rfl) (by decide) rfl (fun ls hl => ?_)
                  refine lv_goto (tgt := 74) hx hb dX12_candidatesOf_140 (by decide) ?_
                  have kc := i_clamp (x := y10) rfl (by (first | exact om_eafa9039069c klp12_1.1 | omega))
                  exact ihlp12 z30 z29 V28 H locs ls (by (first | exact om_60b81a74ded5 r6.2 klp12_1.1 xlp12_0 f15 hz30 | omega)) (by (first | exact om_0f4e9619d4c7 r6.2 klp12_1.1 xlp12_0 f15 hz29 | omega)) (show z29.toInt ≤ z30.toInt from by (first | exact om_953ed16b636a xlp12_0 hz29 hz30 | omega)) (fun i hi => by rcases Decidable.em (i = Int32.toNatClampNeg y10) with hk | hk; (rw [hk, up2_s hV28]; exact th.ag (Imp.go t20 (by (first | exact om_2ebe32d50835 rgz17.1 rgz17.2 f24 | omega))) (agr.sy agV11) ⟨rfl, fun _ => rfl, fun _ => rfl, fun _ => rfl, fun _ => rfl, fun _ => rfl, fun _ => rfl⟩); (rw [up2_k hV28 hk]; exact xlp12_1 i (by omega))) (Imp.mk (fun hp => by exfalso; (first | exact om_c61cc9442ebd klp12_1.1 hz29 hp | omega))) (by (first | exact om_9592d9319ffa hn hz30 | omega)) (agr.up (agr.tr agr.rf ajV11 (by decide) (by decide)) hV28 rfl) hMV28 hP hD hS (lv_sub hl [0, 1, 2, 3, 4] rfl)
                · skip
                  have f31 : ((V 30 (Int32.toNatClampNeg p0))).toInt = 0 := b_eq rfl (by decide) c26
                  refine lv_aload_n hx hb dX12_candidatesOf_107 rfl (lv_at hl 3 rfl) ?_
                  refine va_get (D := D) (ci := 12) (v := .ref (ad 24)) (C := RX12) (T := TX12) (N := 100) hx hb hg inX12 hown hK hP 0 rfl rfl 24 (by decide) (hg _ w1730) (fun _ h9 => h9) rfl dX12_candidatesOf_108 ?_
                  refine lv_bipush (v := 24) hx hb dX12_candidatesOf_111 (by decide) ?_
                  refine lv_aload_n hx hb dX12_candidatesOf_113 rfl (lv_at hl 3 rfl) ?_
                  refine va_get (D := D) (ci := 12) (v := .int (V11 0 11)) (C := RX12) (T := TX12) (N := 100) hx hb hg inX12 hown hK hP 0 rfl rfl 11 (by decide) (hg _ w1717) (fun _ h9 => h9) rfl dX12_candidatesOf_114 ?_
                  refine g_top (v := (V 0 11)) (ajV11 0 11 rfl) ?_
                  refine lv_imul hx hb dX12_candidatesOf_117 ?_
                  refine lv_topi (fun z32 ez32 => ?_)
                  have hz32 : z32.toInt = 24 * ((V 0 11)).toInt := i_mul ez32 (by decide) rfl (by (first | exact om_3f8aba7b6ce1 r5.1 r5.2 | omega))
                  refine lv_iload hx hb dX12_candidatesOf_118 (lv_at hl 0 rfl) ?_
                  refine lv_iadd hx hb dX12_candidatesOf_120 ?_
                  refine lv_topi (fun z33 ez33 => ?_)
                  have hz33 : z33.toInt = z32.toInt + y9.toInt := i_add ez33 rfl rfl (by (first | exact om_29c24e3ac321 r5.1 r5.2 r6.2 klp12_0.1 f15 hz32 | omega))
                  refine va_iald (D := D) (i := z33) hx hb hK hP 17 16 rfl rfl (i_in (a := z33.toInt) rfl (by (first | exact om_60a0bdc38562 r5.1 r5.2 r6.2 klp12_0.1 f15 hz32 hz33 | omega))) dX12_candidatesOf_121 ?_
                  refine g_top (v := (V 24 (Int32.toNatClampNeg z33))) (ajV11 24 (Int32.toNatClampNeg z33) rfl) ?_
                  have r34 : 0 ≤ ((V 24 (Int32.toNatClampNeg z33))).toInt ∧ ((V 24 (Int32.toNatClampNeg z33))).toInt ≤ 9 := hMV 24 (Int32.toNatClampNeg z33)
                  refine lv_iload_n hx hb dX12_candidatesOf_122 rfl (lv_at hl 2 rfl) ?_
                  refine lv_icmp_ne (tgt := 137) hx hb dX12_candidatesOf_123 (by decide) (fun c35 => ?_) (fun c35 => ?_)
                  · skip
                    have f36 : ((V 24 (Int32.toNatClampNeg z33))).toInt ≠ y3.toInt := b_neq rfl rfl c35
                    obtain ⟨z37, ez37⟩ : ∃ y : Int32, y = y9 + 1 := ⟨_, rfl⟩
                    have hz37 : z37.toInt = y9.toInt + 1 := i_add ez37 rfl (by decide) (by (first | exact om_ef5c713ba60b r6.2 klp12_0.1 f15 | omega))
                    refine lv_iinc (v := z37) (lv' := [(4, .int z37), (3, .int y10), (2, .int y3), (0, .ref (ad 0)), (1, .int p0)]) hx hb dX12_candidatesOf_137 hl (k := 0) rfl (by rw [ez37]; rfl) (by decide) rfl (fun ls hl => ?_)
                    refine lv_goto (tgt := 74) hx hb dX12_candidatesOf_140 (by decide) ?_
                    exact ihlp12 z37 y10 V11 H locs ls (by (first | exact om_66f93e1729e3 r6.2 klp12_0.1 f15 hz37 | omega)) (by (first | exact om_27ab40a3c6d2 r6.2 klp12_1.1 xlp12_0 f15 | omega)) (show y10.toInt ≤ z37.toInt from by (first | exact om_f75a30b4c815 xlp12_0 hz37 | omega)) xlp12_1 xlp12_2 (by (first | exact om_9592d9319ffa hn hz37 | omega)) (agr.tr agr.rf ajV11 (by decide) (by decide)) hMV11 hP hD hS (lv_sub hl [0, 1, 2, 3, 4] rfl)
                  · skip
                    have f38 : ((V 24 (Int32.toNatClampNeg z33))).toInt = y3.toInt := b_eq rfl rfl c35
                    refine lv_aload_n hx hb dX12_candidatesOf_126 rfl (lv_at hl 3 rfl) ?_
                    refine va_get (D := D) (ci := 12) (v := .ref (ad 80)) (C := RX12) (T := TX12) (N := 100) hx hb hg inX12 hown hK hP 0 rfl rfl 80 (by decide) (hg _ w1786) (fun _ h9 => h9) rfl dX12_candidatesOf_127 ?_
                    refine lv_iload_n hx hb dX12_candidatesOf_130 rfl (lv_at hl 1 rfl) ?_
                    refine lv_iload hx hb dX12_candidatesOf_131 (lv_at hl 0 rfl) ?_
                    refine va_iast (D := D) (i := y10) (x := y9) hx hb hK hP hD hS 57 56 rfl rfl (i_in (a := y10.toInt) rfl (by (first | exact om_7cb642ef3428 r6.2 klp12_1.1 xlp12_0 f15 | omega))) dX12_candidatesOf_133 (fun H locs hP hD hS => ?_)
                    obtain ⟨V39, hV39⟩ : ∃ z, z = up2 V11 80 (Int32.toNatClampNeg y10) y9 := ⟨_, rfl⟩
                    have hP : va_P D vwCl (mw ad kk ks.1 V39 L) H := by rw [hV39]; exact hP
                    have hD : va_D A (mw ad kk ks.1 V39 L) := by rw [hV39]; exact hD
                    have hMV39 : rgd bM V39 := hMV11.put hV39 (show 0 ≤ y9.toInt ∧ y9.toInt ≤ 23 from by (first | exact om_8840667578a5 r6.2 klp12_0.1 f15 | omega))
                    have agV39 : agr [] [80] V V39 := agV11.up hV39 rfl
                    obtain ⟨z40, ez40⟩ : ∃ y : Int32, y = y10 + 1 := ⟨_, rfl⟩
                    have hz40 : z40.toInt = y10.toInt + 1 := i_add ez40 rfl (by decide) (by (first | exact om_00351a9c79f7 r6.2 klp12_1.1 xlp12_0 f15 | omega))
                    refine lv_iinc (v := z40) (lv' := [(3, .int z40), (4, .int y9), (2, .int y3), (0, .ref (ad 0)), (1, .int p0)]) hx hb dX12_candidatesOf_134 hl (k := 1) rfl (by rw [ez40]; rfl) (by decide) rfl (fun ls hl => ?_)
                    obtain ⟨z41, ez41⟩ : ∃ y : Int32, y = y9 + 1 := ⟨_, rfl⟩
                    have hz41 : z41.toInt = y9.toInt + 1 := i_add ez41 rfl (by decide) (by (first | exact om_ef5c713ba60b r6.2 klp12_0.1 f15 | omega))
                    refine lv_iinc (v := z41) (lv' := [(4, .int z41), (3, .int z40), (2, .int y3), (0, .ref (ad 0)), (1, .int p0)]) hx hb dX12_candidatesOf_137 hl (k := 1) rfl (by rw [ez41]; rfl) (by decide) rfl (fun ls hl => ?_)
                    refine lv_goto (tgt := 74) hx hb dX12_candidatesOf_140 (by decide) ?_
                    have kc := i_clamp (x := y10) rfl (by (first | exact om_eafa9039069c klp12_1.1 | omega))
                    exact ihlp12 z41 z40 V39 H locs ls (by (first | exact om_66f93e1729e3 r6.2 klp12_0.1 f15 hz41 | omega)) (by (first | exact om_0f4e9619d4c7 r6.2 klp12_1.1 xlp12_0 f15 hz40 | omega)) (show z40.toInt ≤ z41.toInt from by (first | exact om_953ed16b636a xlp12_0 hz40 hz41 | omega)) (fun i hi => by rcases Decidable.em (i = Int32.toNatClampNeg y10) with hk | hk; (rw [hk, up2_s hV39]; exact th.ag (Imp.go t20 (by (first | exact om_2ebe32d50835 rgz17.1 rgz17.2 f24 | omega))) (agr.sy agV11) ⟨rfl, fun _ => rfl, fun _ => rfl, fun _ => rfl, fun _ => rfl, fun _ => rfl, fun _ => rfl⟩); (rw [up2_k hV39 hk]; exact xlp12_1 i (by omega))) (Imp.mk (fun hp => by exfalso; (first | exact om_c61cc9442ebd klp12_1.1 hz40 hp | omega))) (by (first | exact om_9592d9319ffa hn hz41 | omega)) (agr.up (agr.tr agr.rf ajV11 (by decide) (by decide)) hV39 rfl) hMV39 hP hD hS (lv_sub hl [0, 1, 2, 3, 4] rfl)
        have r42 : Int32.toInt 0 = 0 := by decide
        exact lp12 ((24 - (Int32.toInt 0) + 1 : Int).toNat) 0 0 V H locs ls (by decide) (by decide) (show (Int32.toInt 0) ≤ (Int32.toInt 0) from by (first | exact om_5977f3d8a10f | omega)) (fun i hi => absurd hi (by omega)) (Imp.mk (fun _ => rfl)) (by (first | exact om_817980d3aa47 | omega)) agr.rf hMV hP hD hS (lv_sub hl [0, 1, 2, 3, 4] rfl)
      · skip
        have f43 : y2.toInt < ((V 19 (Int32.toNatClampNeg (V 0 11)))).toInt := b_nle rfl rfl c7
        refine lv_aload_n hx hb dX12_candidatesOf_17 rfl (lv_at hl 2 rfl) ?_
        refine lv_iload_n hx hb dX12_candidatesOf_18 rfl (lv_at hl 3 rfl) ?_
        refine lv_iload_n hx hb dX12_candidatesOf_19 rfl (lv_at hl 0 rfl) ?_
        refine gA_int (gA_runV (As := [.int p0, .int y2]) (rest := []) (ci := 12) (q0 := 0) hx hb hml hown hg hP hD hK hS hA hnw hgk (s_suits2 l D ks H.size ad kk V L p0 y2 hMV (by (first | exact om_e937935e9c51 rg_p0.1 rg_p0.2 | omega)) (by (first | exact om_ac7b8d4d9f10 klp4_0.1 r6.2 f43 | omega)) (show 0 ≤ (V 28 (Int32.toNatClampNeg p0)).toInt from by (first | exact om_eafa9039069c y1 | omega))) w2176 w2178 w120 w172 w2179 rfl rfl hdV_yX12_suits ⟨Nat.le_of_ble_eq_true rfl, Nat.le_of_ble_eq_true rfl⟩ rfl hl.1 rfl (Nat.le_of_ble_eq_true rfl) dX12_candidatesOf_20 ⟨Nat.le_of_ble_eq_true rfl, Nat.le_of_ble_eq_true rfl⟩) hP hD hK hS hA (fun z44 u45 H locs w46 hP hD hK hS => ?_)
        obtain ⟨rgz44, t47⟩ := w46
        have rgz44 : 0 ≤ z44.toInt ∧ z44.toInt ≤ 1 := rgz44
        have t47 : Imp (z44.toInt = 1) (th V (Int32.toNatClampNeg y2)) := t47
        refine lv_if_eq (tgt := 61) hx hb dX12_candidatesOf_23 (by decide) (fun c48 => ?_) (fun c48 => ?_)
        · skip
          have f49 : z44.toInt = 0 := b_eq rfl (by decide) c48
          refine lv_iload_n hx hb dX12_candidatesOf_61 rfl (lv_at hl 1 rfl) ?_
          refine lv_istore_n (lv' := [(2, .int y3), (3, .int y2), (0, .ref (ad 0)), (1, .int p0)]) hx hb dX12_candidatesOf_62 rfl hl (by decide) rfl (fun ls hl => ?_)
          obtain ⟨z50, ez50⟩ : ∃ y : Int32, y = y2 + 1 := ⟨_, rfl⟩
          have hz50 : z50.toInt = y2.toInt + 1 := i_add ez50 rfl (by decide) (by (first | exact om_d1b22b2ae31e klp4_0.1 r6.2 f43 | omega))
          refine lv_iinc (v := z50) (lv' := [(3, .int z50), (2, .int y3), (0, .ref (ad 0)), (1, .int p0)]) hx hb dX12_candidatesOf_63 hl (k := 1) rfl (by rw [ez50]; rfl) (by decide) rfl (fun ls hl => ?_)
          refine lv_goto (tgt := 4) hx hb dX12_candidatesOf_66 (by decide) ?_
          exact ihlp4 z50 y3 H locs ls (by (first | exact om_5c2541dbcd85 klp4_0.1 r6.2 f43 hz50 | omega)) (by (first | exact om_9592d9319ffa hn hz50 | omega)) hP hD hS (lv_sub hl [0, 1, 2, 3] rfl)
        · skip
          have f51 : z44.toInt ≠ 0 := b_neq rfl (by decide) c48
          refine lv_aload_n hx hb dX12_candidatesOf_26 rfl (lv_at hl 2 rfl) ?_
          refine va_get (D := D) (ci := 12) (v := .ref (ad 24)) (C := RX12) (T := TX12) (N := 100) hx hb hg inX12 hown hK hP 0 rfl rfl 24 (by decide) (hg _ w1730) (fun _ h9 => h9) rfl dX12_candidatesOf_27 ?_
          refine lv_bipush (v := 24) hx hb dX12_candidatesOf_30 (by decide) ?_
          refine lv_aload_n hx hb dX12_candidatesOf_32 rfl (lv_at hl 2 rfl) ?_
          refine va_get (D := D) (ci := 12) (v := .int (V 0 11)) (C := RX12) (T := TX12) (N := 100) hx hb hg inX12 hown hK hP 0 rfl rfl 11 (by decide) (hg _ w1717) (fun _ h9 => h9) rfl dX12_candidatesOf_33 ?_
          refine lv_imul hx hb dX12_candidatesOf_36 ?_
          refine lv_topi (fun z52 ez52 => ?_)
          have hz52 : z52.toInt = 24 * ((V 0 11)).toInt := i_mul ez52 (by decide) rfl (by (first | exact om_3f8aba7b6ce1 r5.1 r5.2 | omega))
          refine lv_iload_n hx hb dX12_candidatesOf_37 rfl (lv_at hl 0 rfl) ?_
          refine lv_iadd hx hb dX12_candidatesOf_38 ?_
          refine lv_topi (fun z53 ez53 => ?_)
          have hz53 : z53.toInt = z52.toInt + y2.toInt := i_add ez53 rfl rfl (by (first | exact om_140f5757d01d klp4_0.1 r5.1 r5.2 r6.2 f43 hz52 | omega))
          refine va_iald (D := D) (i := z53) hx hb hK hP 17 16 rfl rfl (i_in (a := z53.toInt) rfl (by (first | exact om_af63ae00f401 klp4_0.1 r5.1 r5.2 r6.2 f43 hz52 hz53 | omega))) dX12_candidatesOf_39 ?_
          have r54 : 0 ≤ ((V 24 (Int32.toNatClampNeg z53))).toInt ∧ ((V 24 (Int32.toNatClampNeg z53))).toInt ≤ 9 := hMV 24 (Int32.toNatClampNeg z53)
          refine lv_iload_n hx hb dX12_candidatesOf_40 rfl (lv_at hl 1 rfl) ?_
          refine lv_icmp_le (tgt := 61) hx hb dX12_candidatesOf_41 (by decide) (fun c55 => ?_) (fun c55 => ?_)
          · skip
            have f56 : ((V 24 (Int32.toNatClampNeg z53))).toInt ≤ y3.toInt := b_le rfl rfl c55
            refine lv_iload_n hx hb dX12_candidatesOf_61 rfl (lv_at hl 1 rfl) ?_
            refine lv_istore_n (lv' := [(2, .int y3), (3, .int y2), (0, .ref (ad 0)), (1, .int p0)]) hx hb dX12_candidatesOf_62 rfl hl (by decide) rfl (fun ls hl => ?_)
            obtain ⟨z57, ez57⟩ : ∃ y : Int32, y = y2 + 1 := ⟨_, rfl⟩
            have hz57 : z57.toInt = y2.toInt + 1 := i_add ez57 rfl (by decide) (by (first | exact om_d1b22b2ae31e klp4_0.1 r6.2 f43 | omega))
            refine lv_iinc (v := z57) (lv' := [(3, .int z57), (2, .int y3), (0, .ref (ad 0)), (1, .int p0)]) hx hb dX12_candidatesOf_63 hl (k := 1) rfl (by rw [ez57]; rfl) (by decide) rfl (fun ls hl => ?_)
            refine lv_goto (tgt := 4) hx hb dX12_candidatesOf_66 (by decide) ?_
            exact ihlp4 z57 y3 H locs ls (by (first | exact om_5c2541dbcd85 klp4_0.1 r6.2 f43 hz57 | omega)) (by (first | exact om_9592d9319ffa hn hz57 | omega)) hP hD hS (lv_sub hl [0, 1, 2, 3] rfl)
          · skip
            have f58 : y3.toInt < ((V 24 (Int32.toNatClampNeg z53))).toInt := b_nle rfl rfl c55
            refine lv_aload_n hx hb dX12_candidatesOf_44 rfl (lv_at hl 2 rfl) ?_
            refine va_get (D := D) (ci := 12) (v := .ref (ad 24)) (C := RX12) (T := TX12) (N := 100) hx hb hg inX12 hown hK hP 0 rfl rfl 24 (by decide) (hg _ w1730) (fun _ h9 => h9) rfl dX12_candidatesOf_45 ?_
            refine lv_bipush (v := 24) hx hb dX12_candidatesOf_48 (by decide) ?_
            refine lv_aload_n hx hb dX12_candidatesOf_50 rfl (lv_at hl 2 rfl) ?_
            refine va_get (D := D) (ci := 12) (v := .int (V 0 11)) (C := RX12) (T := TX12) (N := 100) hx hb hg inX12 hown hK hP 0 rfl rfl 11 (by decide) (hg _ w1717) (fun _ h9 => h9) rfl dX12_candidatesOf_51 ?_
            refine lv_imul hx hb dX12_candidatesOf_54 ?_
            refine lv_topi (fun z59 ez59 => ?_)
            have hz59 : z59.toInt = 24 * ((V 0 11)).toInt := i_mul ez59 (by decide) rfl (by (first | exact om_3f8aba7b6ce1 r5.1 r5.2 | omega))
            refine lv_iload_n hx hb dX12_candidatesOf_55 rfl (lv_at hl 0 rfl) ?_
            refine lv_iadd hx hb dX12_candidatesOf_56 ?_
            refine lv_topi (fun z60 ez60 => ?_)
            have hz60 : z60.toInt = z59.toInt + y2.toInt := i_add ez60 rfl rfl (by (first | exact om_140f5757d01d klp4_0.1 r5.1 r5.2 r6.2 f43 hz59 | omega))
            refine va_iald (D := D) (i := z60) hx hb hK hP 17 16 rfl rfl (i_in (a := z60.toInt) rfl (by (first | exact om_af63ae00f401 klp4_0.1 r5.1 r5.2 r6.2 f43 hz59 hz60 | omega))) dX12_candidatesOf_57 ?_
            have r61 : 0 ≤ ((V 24 (Int32.toNatClampNeg z60))).toInt ∧ ((V 24 (Int32.toNatClampNeg z60))).toInt ≤ 9 := hMV 24 (Int32.toNatClampNeg z60)
            refine lv_goto (tgt := 62) hx hb dX12_candidatesOf_58 (by decide) ?_
            refine lv_istore_n (lv' := [(2, .int (V 24 (Int32.toNatClampNeg z60))), (3, .int y2), (0, .ref (ad 0)), (1, .int p0)]) hx hb dX12_candidatesOf_62 rfl hl (by decide) rfl (fun ls hl => ?_)
            obtain ⟨z62, ez62⟩ : ∃ y : Int32, y = y2 + 1 := ⟨_, rfl⟩
            have hz62 : z62.toInt = y2.toInt + 1 := i_add ez62 rfl (by decide) (by (first | exact om_d1b22b2ae31e klp4_0.1 r6.2 f43 | omega))
            refine lv_iinc (v := z62) (lv' := [(3, .int z62), (2, .int (V 24 (Int32.toNatClampNeg z60))), (0, .ref (ad 0)), (1, .int p0)]) hx hb dX12_candidatesOf_63 hl (k := 1) rfl (by rw [ez62]; rfl) (by decide) rfl (fun ls hl => ?_)
            refine lv_goto (tgt := 4) hx hb dX12_candidatesOf_66 (by decide) ?_
            exact ihlp4 z62 (V 24 (Int32.toNatClampNeg z60)) H locs ls (by (first | exact om_5c2541dbcd85 klp4_0.1 r6.2 f43 hz62 | omega)) (by (first | exact om_9592d9319ffa hn hz62 | omega)) hP hD hS (lv_sub hl [0, 1, 2, 3] rfl)
  have r63 : Int32.toInt 0 = 0 := by decide
  exact lp4 ((24 - (Int32.toInt 0) + 1 : Int).toNat) 0 0 H locs ls (by decide) (by (first | exact om_817980d3aa47 | omega)) hP hD hS (lv_sub hl [0, 1, 2, 3] rfl)
abbrev r_s_isCandidate2 : Room := { frames := 3, cells := 0, slots := 0, locals := 69 }
abbrev q_s_isCandidate2 (D : va_G) (ks : KS) (ad : Nat → Nat) (kk : Nat → ClassId) (V : Vf) (L : Lf) (p0 : Int32) (p1 : Int32) (A : Nat → Prop) : Array Value → State → Outcome → State → Prop := va_Qi (fun (r : Int32) (u : Vf × Lf) => rgd bM u.1 ∧ agr [] [80] V u.1 ∧ u.2 = L ∧ (0 ≤ r.toInt ∧ r.toInt ≤ 1) ∧ (Imp (r.toInt = 1) (th V (Int32.toNatClampNeg p1))) ∧ (c0k V u.1)) (fun u t => gq D A (mw ad kk ks.1 u.1 u.2) (mty kk) t) A
set_option maxHeartbeats 4000000 in
set_option maxRecDepth 100000 in
theorem s_isCandidate2 (l : Launch) (D : va_G) (ks : KS) (sz : Nat) (ad : Nat → Nat) (kk : Nat → ClassId) (V : Vf) (L : Lf) (p0 : Int32) (p1 : Int32) (hMV : rgd bM V) (rg_p0 : 0 ≤ p0.toInt ∧ p0.toInt ≤ 383) (y1 : 0 ≤ (V 28 (Int32.toNatClampNeg p0)).toInt)  : Met l yX12_isCandidate (Cond.code yX12_isCandidate cX12_isCandidate 6 (some .boolean) :: GW) r_s_isCandidate2 (va_Pc [.ref (ad 0), .int p0, .int p1] (gp D ks (mw ad kk ks.1 V L) (mty kk) sz)) (q_s_isCandidate2 D ks ad kk V L p0 p1 (va_A (mw ad kk ks.1 V L) sz)) 0 0 (va_A (mw ad kk ks.1 V L) sz) := by
  refine g_met (q_s_isCandidate2 D ks ad kk V L p0 p1) (by decide) (Nat.le_of_ble_eq_true rfl) ?_
  intro p e s m below meth c A ls H locs hx hb hr hml hown hg hlocks hin hnw hgk hP hK hD hS hA hl
  have hown : s.vm.findClass RX12 = some m.cls := hown
  have hl : lv_has ls 6 [(0, .ref (ad 0)), (1, .int p0), (2, .int p1)] := hl
  have hP : va_P D vwCl (mw ad kk ks.1 V L) H := hP
  have hD : va_D A (mw ad kk ks.1 V L) := hD
  have hK : va_K D vwCl (mty kk) s := hK
  have agV : agr [] [80] V V := agr.rf
  have r1 : (-1) ≤ ((V 28 (Int32.toNatClampNeg p0))).toInt ∧ ((V 28 (Int32.toNatClampNeg p0))).toInt ≤ 23 := hMV 28 (Int32.toNatClampNeg p0)
  refine lv_aload_n hx hb dX12_isCandidate_0 rfl (lv_at hl 0 rfl) ?_
  refine lv_iload_n hx hb dX12_isCandidate_1 rfl (lv_at hl 1 rfl) ?_
  refine gA_int (gA_runV (As := [.int p0]) (rest := []) (ci := 12) (q0 := 0) hx hb hml hown hg hP hD hK hS hA hnw hgk (s_candidatesOf2 l D ks H.size ad kk V L p0 hMV (by (first | exact om_e937935e9c51 rg_p0.1 rg_p0.2 | omega)) (show 0 ≤ (V 28 (Int32.toNatClampNeg p0)).toInt from by (first | exact om_eafa9039069c y1 | omega))) w2172 w2174 w119 w172 w2175 rfl rfl hdV_yX12_candidatesOf ⟨Nat.le_of_ble_eq_true rfl, Nat.le_of_ble_eq_true rfl⟩ rfl hl.1 rfl (Nat.le_of_ble_eq_true rfl) dX12_isCandidate_2 ⟨Nat.le_of_ble_eq_true rfl, Nat.le_of_ble_eq_true rfl⟩) hP hD hK hS hA (fun z2 u3 H locs w4 hP hD hK hS => ?_)
  obtain ⟨V7, L8⟩ := u3
  obtain ⟨hMV7, ajV7, axL8, rgz2, t5, t6⟩ := w4
  have axL8 : L = L8 := Eq.symm axL8
  subst axL8
  have hP : va_P D vwCl (mw ad kk ks.1 V7 L) H := hP
  have hD : va_D A (mw ad kk ks.1 V7 L) := hD
  have hMV7 : rgd bM V7 := hMV7
  have ajV7 : agr [] [80] V V7 := ajV7
  have agV7 : agr [] [80] V V7 := agV.tr ajV7 (by decide) (by decide)
  have rgz2 : 0 ≤ z2.toInt ∧ z2.toInt ≤ 24 := rgz2
  have t5 : ∀ i : Nat, (i : Int) < z2.toInt → th V (Int32.toNatClampNeg (V7 80 i)) := t5
  have t6 : c0k V V7 := t6
  refine lv_istore_n (lv' := [(3, .int z2), (0, .ref (ad 0)), (1, .int p0), (2, .int p1)]) hx hb dX12_isCandidate_5 rfl hl (by decide) rfl (fun ls hl => ?_)
  refine lv_iconst (v := 0) hx hb dX12_isCandidate_6 (by decide) ?_
  refine lv_istore (lv' := [(4, .int 0), (3, .int z2), (0, .ref (ad 0)), (1, .int p0), (2, .int p1)]) hx hb dX12_isCandidate_7 hl (by decide) rfl (fun ls hl => ?_)
  refine lv_iconst (v := 0) hx hb dX12_isCandidate_9 (by decide) ?_
  refine lv_istore (lv' := [(5, .int 0), (4, .int 0), (3, .int z2), (0, .ref (ad 0)), (1, .int p0), (2, .int p1)]) hx hb dX12_isCandidate_10 hl (by decide) rfl (fun ls hl => ?_)
  have lp11 : ∀ (fulp11 : Nat) (y9 : Int32) (y10 : Int32) (H : Heap) (locs : List Loc) (ls : Array Slot), 0 ≤ y9.toInt ∧ y9.toInt ≤ 24 → 0 ≤ y10.toInt ∧ y10.toInt ≤ 1 → y9.toInt ≤ z2.toInt → Imp (y10.toInt = 1) (th V (Int32.toNatClampNeg p1)) → z2.toInt - y9.toInt < (fulp11 : Int) → va_P D vwCl (mw ad kk ks.1 V7 L) H → va_D A (mw ad kk ks.1 V7 L) → va_S A s.heap H locs → lv_has ls 6 [(5, .int y9), (4, .int y10), (3, .int z2), (0, .ref (ad 0)), (1, .int p0), (2, .int p1)] → W p l e r_s_isCandidate2 s m ([.ref (ad 0), .int p0, .int p1] : List Value).toArray below meth c H locs 0 0 (MQ below (q_s_isCandidate2 D ks ad kk V L p0 p1 A) ([.ref (ad 0), .int p0, .int p1] : List Value).toArray s 0 0 A) (F0 m 12 ls []) := by
    intro fulp11
    induction fulp11 with
    | zero =>
      intro y9 y10 H locs ls klp11_0 klp11_1 xlp11_0 xlp11_1 hn  hP hD hS hl
      exfalso; (first | exact om_4634b1278845 xlp11_0 hn | omega)
    | succ fulp11 ihlp11 =>
      intro y9 y10 H locs ls klp11_0 klp11_1 xlp11_0 xlp11_1 hn  hP hD hS hl
      refine lv_iload hx hb dX12_isCandidate_12 (lv_at hl 0 rfl) ?_
      refine lv_iload_n hx hb dX12_isCandidate_14 rfl (lv_at hl 2 rfl) ?_
      refine lv_icmp_ge (tgt := 47) hx hb dX12_isCandidate_15 (by decide) (fun c12 => ?_) (fun c12 => ?_)
      · skip
        have f13 : z2.toInt ≤ y9.toInt := b_le rfl rfl c12
        refine lv_iload hx hb dX12_isCandidate_47 (lv_at hl 1 rfl) ?_
        exact W.zret (v := y10) hx hb hr (nb_ok (by omega)) (fun t ht hW => ⟨⟨y10, (V7, L), rfl, ⟨hMV7, agV7, rfl, (show 0 ≤ y10.toInt ∧ y10.toInt ≤ 1 from by (first | exact om_eb7af9d60398 klp11_1.1 klp11_1.2 | omega)), xlp11_1, t6⟩, by rw [ht]; exact hP, va_K.moved hW.alike hK, hD⟩, hS.F ht⟩) hS.2.2 dX12_isCandidate_49
      · skip
        have f14 : y9.toInt < z2.toInt := b_nle rfl rfl c12
        refine lv_iload hx hb dX12_isCandidate_18 (lv_at hl 1 rfl) ?_
        refine lv_if_ne (tgt := 34) hx hb dX12_isCandidate_20 (by decide) (fun c15 => ?_) (fun c15 => ?_)
        · skip
          have f16 : y10.toInt ≠ 0 := b_neq rfl (by decide) c15
          refine lv_iconst (v := 1) hx hb dX12_isCandidate_34 (by decide) ?_
          refine lv_goto (tgt := 39) hx hb dX12_isCandidate_35 (by decide) ?_
          refine lv_istore (lv' := [(4, .int 1), (5, .int y9), (3, .int z2), (0, .ref (ad 0)), (1, .int p0), (2, .int p1)]) hx hb dX12_isCandidate_39 hl (by decide) rfl (fun ls hl => ?_)
          obtain ⟨z17, ez17⟩ : ∃ y : Int32, y = y9 + 1 := ⟨_, rfl⟩
          have hz17 : z17.toInt = y9.toInt + 1 := i_add ez17 rfl (by decide) (by (first | exact om_ef5c713ba60b rgz2.2 klp11_0.1 f14 | omega))
          refine lv_iinc (v := z17) (lv' := [(5, .int z17), (4, .int 1), (3, .int z2), (0, .ref (ad 0)), (1, .int p0), (2, .int p1)]) hx hb dX12_isCandidate_41 hl (k := 1) rfl (by rw [ez17]; rfl) (by decide) rfl (fun ls hl => ?_)
          refine lv_goto (tgt := 12) hx hb dX12_isCandidate_44 (by decide) ?_
          have r18 : Int32.toInt 1 = 1 := by decide
          exact ihlp11 z17 1 H locs ls (by (first | exact om_66f93e1729e3 rgz2.2 klp11_0.1 f14 hz17 | omega)) (by decide) (show z17.toInt ≤ z2.toInt from by (first | exact om_7fe9249fc074 f14 hz17 | omega)) (Imp.mk (fun _ => Imp.go xlp11_1 (by (first | exact om_2ebe32d50835 klp11_1.1 klp11_1.2 f16 | omega)))) (by (first | exact om_9e7d2b874257 hn hz17 | omega)) hP hD hS (lv_sub hl [0, 1, 2, 3, 4, 5] rfl)
        · skip
          have f19 : y10.toInt = 0 := b_eq rfl (by decide) c15
          refine lv_aload_n hx hb dX12_isCandidate_23 rfl (lv_at hl 3 rfl) ?_
          refine va_get (D := D) (ci := 12) (v := .ref (ad 80)) (C := RX12) (T := TX12) (N := 100) hx hb hg inX12 hown hK hP 0 rfl rfl 80 (by decide) (hg _ w1786) (fun _ h9 => h9) rfl dX12_isCandidate_24 ?_
          refine lv_iload hx hb dX12_isCandidate_27 (lv_at hl 0 rfl) ?_
          refine va_iald (D := D) (i := y9) hx hb hK hP 57 56 rfl rfl (i_in (a := y9.toInt) rfl (by (first | exact om_b50422aacf88 rgz2.2 klp11_0.1 f14 | omega))) dX12_isCandidate_29 ?_
          have r20 : 0 ≤ ((V7 80 (Int32.toNatClampNeg y9))).toInt ∧ ((V7 80 (Int32.toNatClampNeg y9))).toInt ≤ 23 := hMV7 80 (Int32.toNatClampNeg y9)
          refine lv_iload_n hx hb dX12_isCandidate_30 rfl (lv_at hl 5 rfl) ?_
          refine lv_icmp_ne (tgt := 38) hx hb dX12_isCandidate_31 (by decide) (fun c21 => ?_) (fun c21 => ?_)
          · skip
            have f22 : ((V7 80 (Int32.toNatClampNeg y9))).toInt ≠ p1.toInt := b_neq rfl rfl c21
            refine lv_iconst (v := 0) hx hb dX12_isCandidate_38 (by decide) ?_
            refine lv_istore (lv' := [(4, .int 0), (5, .int y9), (3, .int z2), (0, .ref (ad 0)), (1, .int p0), (2, .int p1)]) hx hb dX12_isCandidate_39 hl (by decide) rfl (fun ls hl => ?_)
            obtain ⟨z23, ez23⟩ : ∃ y : Int32, y = y9 + 1 := ⟨_, rfl⟩
            have hz23 : z23.toInt = y9.toInt + 1 := i_add ez23 rfl (by decide) (by (first | exact om_ef5c713ba60b rgz2.2 klp11_0.1 f14 | omega))
            refine lv_iinc (v := z23) (lv' := [(5, .int z23), (4, .int 0), (3, .int z2), (0, .ref (ad 0)), (1, .int p0), (2, .int p1)]) hx hb dX12_isCandidate_41 hl (k := 1) rfl (by rw [ez23]; rfl) (by decide) rfl (fun ls hl => ?_)
            refine lv_goto (tgt := 12) hx hb dX12_isCandidate_44 (by decide) ?_
            have r24 : Int32.toInt 0 = 0 := by decide
            exact ihlp11 z23 0 H locs ls (by (first | exact om_66f93e1729e3 rgz2.2 klp11_0.1 f14 hz23 | omega)) (by decide) (show z23.toInt ≤ z2.toInt from by (first | exact om_7fe9249fc074 f14 hz23 | omega)) (Imp.mk (fun hp => absurd hp (by decide))) (by (first | exact om_9e7d2b874257 hn hz23 | omega)) hP hD hS (lv_sub hl [0, 1, 2, 3, 4, 5] rfl)
          · skip
            have f25 : ((V7 80 (Int32.toNatClampNeg y9))).toInt = p1.toInt := b_eq rfl rfl c21
            refine lv_iconst (v := 1) hx hb dX12_isCandidate_34 (by decide) ?_
            refine lv_goto (tgt := 39) hx hb dX12_isCandidate_35 (by decide) ?_
            refine lv_istore (lv' := [(4, .int 1), (5, .int y9), (3, .int z2), (0, .ref (ad 0)), (1, .int p0), (2, .int p1)]) hx hb dX12_isCandidate_39 hl (by decide) rfl (fun ls hl => ?_)
            obtain ⟨z26, ez26⟩ : ∃ y : Int32, y = y9 + 1 := ⟨_, rfl⟩
            have hz26 : z26.toInt = y9.toInt + 1 := i_add ez26 rfl (by decide) (by (first | exact om_ef5c713ba60b rgz2.2 klp11_0.1 f14 | omega))
            refine lv_iinc (v := z26) (lv' := [(5, .int z26), (4, .int 1), (3, .int z2), (0, .ref (ad 0)), (1, .int p0), (2, .int p1)]) hx hb dX12_isCandidate_41 hl (k := 1) rfl (by rw [ez26]; rfl) (by decide) rfl (fun ls hl => ?_)
            refine lv_goto (tgt := 12) hx hb dX12_isCandidate_44 (by decide) ?_
            have r27 : Int32.toInt 1 = 1 := by decide
            exact ihlp11 z26 1 H locs ls (by (first | exact om_66f93e1729e3 rgz2.2 klp11_0.1 f14 hz26 | omega)) (by decide) (show z26.toInt ≤ z2.toInt from by (first | exact om_7fe9249fc074 f14 hz26 | omega)) (Imp.mk (fun _ => by have kc := i_clamp (x := y9) rfl (by (first | exact om_eafa9039069c klp11_0.1 | omega)); have h9 := t5 (Int32.toNatClampNeg y9) (by omega); have e9 : V7 80 (Int32.toNatClampNeg y9) = p1 := Int32.toInt_inj.mp (by omega); rw [e9] at h9; exact h9)) (by (first | exact om_9e7d2b874257 hn hz26 | omega)) hP hD hS (lv_sub hl [0, 1, 2, 3, 4, 5] rfl)
  have r28 : Int32.toInt 0 = 0 := by decide
  exact lp11 ((z2.toInt - (Int32.toInt 0) + 1 : Int).toNat) 0 0 H locs ls (by decide) (by decide) (show (Int32.toInt 0) ≤ z2.toInt from by (first | exact om_6f9bb8cf3bec rgz2.1 r28 | omega)) (Imp.mk (fun hp => absurd hp (by decide))) (by (first | exact om_7441a7786481 | omega)) hP hD hS (lv_sub hl [0, 1, 2, 3, 4, 5] rfl)
end
section
/-! the visits: how many components are not visited yet; what is on the way -/
def cz (V : Vf) : Nat → Nat
  | 0 => 0
  | n + 1 => cz V n + (if (V 87 n).toInt = 0 then 1 else 0)
theorem cz_ext {V W : Vf} : ∀ n, (∀ k, k < n → W 87 k = V 87 k) → cz W n = cz V n
  | 0, _ => rfl
  | n + 1, h => by
    show cz W n + (if (W 87 n).toInt = 0 then 1 else 0) = cz V n + (if (V 87 n).toInt = 0 then 1 else 0)
    rw [cz_ext n (fun k hk => h k (by omega)), h n (by omega)]
theorem cz_ag {fs : List (Nat × Nat)} {cs : List Nat} {V W : Vf} {n : Nat} (a : agr fs cs V W) (h : ∀ k, wrL fs cs 87 k = false) : cz W n = cz V n := cz_ext n (fun k _ => a _ _ (h k))
theorem cz_o {V W : Vf} {c k n : Nat} {v : Int32} (e : W = up2 V c k v) (hc : ¬ 87 = c) : cz W n = cz V n := cz_ext n (fun _ _ => up2_o e hc)
theorem cz_put {V W : Vf} {k : Nat} {v : Int32} (e : W = up2 V 87 k v) (hv : v.toInt ≠ 0) : ∀ n, cz W n ≤ cz V n ∧ (k < n → (V 87 k).toInt = 0 → cz W n + 1 = cz V n) ∧ (n ≤ k → cz W n = cz V n)
  | 0 => ⟨Nat.le_refl _, fun h => absurd h (by omega), fun _ => rfl⟩
  | n + 1 => by
    have ih := cz_put e hv n
    have e1 : cz W (n + 1) = cz W n + (if (W 87 n).toInt = 0 then 1 else 0) := rfl
    have e2 : cz V (n + 1) = cz V n + (if (V 87 n).toInt = 0 then 1 else 0) := rfl
    by_cases hk : n = k
    · subst hk
      have e3 : (W 87 n).toInt ≠ 0 := by rw [up2_s e]; exact hv
      rw [if_neg e3] at e1
      have e4 := ih.2.2 (Nat.le_refl _)
      refine ⟨?_, fun _ h0 => ?_, fun h => absurd h (by omega)⟩
      · omega
      · rw [if_pos h0] at e2
        omega
    · have e3 : W 87 n = V 87 n := up2_k e hk
      rw [e3] at e1
      refine ⟨by omega, fun h h0 => ?_, fun h => ?_⟩
      · have := ih.2.1 (by omega) h0
        omega
      · have := ih.2.2 (by omega)
        omega
theorem cz_le (V : Vf) : ∀ n, cz V n ≤ n
  | 0 => Nat.le_refl _
  | n + 1 => by
    have ih := cz_le V n
    have e : cz V (n + 1) = cz V n + (if (V 87 n).toInt = 0 then 1 else 0) := rfl
    rw [e]
    split <;> omega
def visI (V0 V : Vf) (c : Nat) : Prop := (∀ d : Nat, (V 87 d).toInt = 1 → (V0 87 d).toInt = 1 ∨ d = c) ∧ (∀ j : Nat, (j : Int) < (V0 0 89).toInt → V 88 j = V0 88 j) ∧ (∀ j : Nat, (j : Int) = (V0 0 89).toInt → (V 88 j).toInt = (c : Int))
def visP (V W : Vf) : Prop := (∀ d : Nat, (W 87 d).toInt = 1 → (V 87 d).toInt = 1) ∧ (∀ j : Nat, (j : Int) < (V 0 89).toInt → W 88 j = V 88 j)
def WY (V : Vf) : Prop := ∀ d : Nat, (d : Int) < (V 19 (nwh V)).toInt → (V 87 d).toInt = 1 → ∃ j : Nat, (j : Int) < (V 0 89).toInt ∧ (V 88 j).toInt = (d : Int)
theorem WY.I {V0 V : Vf} {c : Nat} (h : WY V0) (i : visI V0 V c) (e : (V 0 89).toInt = (V0 0 89).toInt + 1) (h0 : 0 ≤ (V0 0 89).toInt) (hc : V 19 (nwh V) = V0 19 (nwh V0)) : WY V := by
  intro d hd h1
  rw [hc] at hd
  rcases i.1 d h1 with q | q
  · obtain ⟨j, j1, j2⟩ := h d hd q
    exact ⟨j, by omega, by rw [i.2.1 j j1]; exact j2⟩
  · exact ⟨(V0 0 89).toInt.toNat, by omega, by rw [i.2.2 _ (by omega), q]⟩
theorem visI.ag {fs : List (Nat × Nat)} {cs : List Nat} {V0 V W : Vf} {c : Nat} (h : visI V0 V c) (a : agr fs cs V W) (h1 : ∀ k, wrL fs cs 87 k = false) (h2 : ∀ k, wrL fs cs 88 k = false) : visI V0 W c :=
  ⟨fun d q => h.1 d (by rw [a _ _ (h1 d)] at q; exact q), fun j q => (a _ _ (h2 j)).trans (h.2.1 j q), fun j q => by rw [a _ _ (h2 j)]; exact h.2.2 j q⟩
theorem visI.P {V0 V W : Vf} {c : Nat} (h : visI V0 V c) (p : visP V W) (e : (V 0 89).toInt = (V0 0 89).toInt + 1) : visI V0 W c :=
  ⟨fun d q => h.1 d (p.1 d q), fun j q => (p.2 j (by omega)).trans (h.2.1 j q), fun j q => by rw [p.2 j (by omega)]; exact h.2.2 j q⟩
theorem visI.new {V V1 V2 V3 : Vf} {c k m : Nat} {v x y : Int32} (e1 : V1 = up2 V 87 k x) (e2 : V2 = up2 V1 88 m v) (e3 : V3 = up2 V2 0 89 y) (hk : k = c) (hm : (m : Int) = (V 0 89).toInt) (hv : v.toInt = (c : Int)) : visI V V3 c := by
  refine ⟨fun d q => ?_, fun j q => ?_, fun j q => ?_⟩
  · by_cases hd : d = k
    · exact Or.inr (hd.trans hk)
    · left
      rw [up2_o e3 (by decide), up2_o e2 (by decide), up2_k e1 hd] at q
      exact q
  · rw [up2_o e3 (by decide), up2_k e2 (by omega), up2_o e1 (by decide)]
  · have e : j = m := by omega
    rw [up2_o e3 (by decide), e, up2_s e2]
    exact hv
theorem visP.fin {V0 V W1 W : Vf} {c k : Nat} {x y : Int32} (h : visI V0 V c) (e1 : W1 = up2 V 0 89 x) (e2 : W = up2 W1 87 k y) (hk : k = c) (hy : y.toInt ≠ 1) : visP V0 W := by
  refine ⟨fun d q => ?_, fun j q => ?_⟩
  · by_cases hd : d = k
    · rw [hd, up2_s e2] at q
      exact absurd q hy
    · rw [up2_k e2 hd, up2_o e1 (by decide)] at q
      exact (h.1 d q).resolve_right (fun z => hd (z.trans hk.symm))
  · rw [up2_o e2 (by decide), up2_o e1 (by decide)]
    exact h.2.1 j q
theorem nwh_ag {fs : List (Nat × Nat)} {cs : List Nat} {V W : Vf} (a : agr fs cs V W) (q : thC fs cs) : nwh W = nwh V ∧ W 19 (nwh W) = V 19 (nwh V) := by
  have e : nwh W = nwh V := by unfold nwh; rw [a 0 11 q.1]
  exact ⟨e, by rw [e, a _ _ (q.2.2.1 _)]⟩
theorem cz_pos {V : Vf} {k n : Nat} (hk : k < n) (h0 : (V 87 k).toInt = 0) : 1 ≤ cz V n := by
  have h := (cz_put (V := V) (W := up2 V 87 k 1) rfl (by decide) n).2.1 hk h0
  omega


abbrev r_s_checkNeed2 : Room := { frames := 3, cells := 0, slots := 0, locals := 69 }
abbrev q_s_checkNeed2 (D : va_G) (ks : KS) (ad : Nat → Nat) (kk : Nat → ClassId) (V : Vf) (L : Lf) (p0 : Int32) (p1 : Int32) (A : Nat → Prop) : Array Value → State → Outcome → State → Prop := va_Qv (fun (u : Vf × Lf) => rgd bM u.1 ∧ agr [(0, 81)] [80, 82, 83, 84, 86] V u.1 ∧ u.2 = L ∧ ((u.1 0 81).toInt ≤ (V 0 81).toInt + 1) ∧ ((V 0 81).toInt ≤ (u.1 0 81).toInt) ∧ (c0k V u.1) ∧ (Imp ((u.1 0 81).toInt = (V 0 81).toInt) (1 ≤ (V 30 (8 * (24 * nwh V + Int32.toNatClampNeg p0) + Int32.toNatClampNeg p1)).toInt ∨ th V (cd0 u.1)))) (fun u t => gq D A (mw ad kk ks.1 u.1 u.2) (mty kk) t) A
set_option maxHeartbeats 4000000 in
set_option maxRecDepth 100000 in
theorem s_checkNeed2 (l : Launch) (D : va_G) (ks : KS) (sz : Nat) (ad : Nat → Nat) (kk : Nat → ClassId) (V : Vf) (L : Lf) (p0 : Int32) (p1 : Int32) (hMV : rgd bM V) (rg_p0 : 0 ≤ p0.toInt ∧ p0.toInt ≤ 23) (rg_p1 : 0 ≤ p1.toInt ∧ p1.toInt ≤ 7) (y1 : 0 ≤ (V 28 (8 * (24 * nwh V + Int32.toNatClampNeg p0) + Int32.toNatClampNeg p1)).toInt) (y2 : (V 0 81).toInt ≤ 999999)  : Met l yX12_checkNeed (Cond.code yX12_checkNeed cX12_checkNeed 10 none :: GW) r_s_checkNeed2 (va_Pc [.ref (ad 0), .int p0, .int p1] (gp D ks (mw ad kk ks.1 V L) (mty kk) sz)) (q_s_checkNeed2 D ks ad kk V L p0 p1 (va_A (mw ad kk ks.1 V L) sz)) 0 0 (va_A (mw ad kk ks.1 V L) sz) := by
  refine g_met (q_s_checkNeed2 D ks ad kk V L p0 p1) (by decide) (Nat.le_of_ble_eq_true rfl) ?_
  intro p e s m below meth c A ls H locs hx hb hr hml hown hg hlocks hin hnw hgk hP hK hD hS hA hl
  have hown : s.vm.findClass RX12 = some m.cls := hown
  have hl : lv_has ls 10 [(0, .ref (ad 0)), (1, .int p0), (2, .int p1)] := hl
  have hP : va_P D vwCl (mw ad kk ks.1 V L) H := hP
  have hD : va_D A (mw ad kk ks.1 V L) := hD
  have hK : va_K D vwCl (mty kk) s := hK
  have agV : agr [(0, 81)] [80, 82, 83, 84, 86] V V := agr.rf
  have r1 : 0 ≤ ((V 0 81)).toInt ∧ ((V 0 81)).toInt ≤ 1000000 := hMV 0 81
  refine lv_bipush (v := 8) hx hb dX12_checkNeed_0 (by decide) ?_
  refine lv_bipush (v := 24) hx hb dX12_checkNeed_2 (by decide) ?_
  refine lv_aload_n hx hb dX12_checkNeed_4 rfl (lv_at hl 0 rfl) ?_
  refine va_get (D := D) (ci := 12) (v := .int (V 0 11)) (C := RX12) (T := TX12) (N := 100) hx hb hg inX12 hown hK hP 0 rfl rfl 11 (by decide) (hg _ w1717) (fun _ h9 => h9) rfl dX12_checkNeed_5 ?_
  have r2 : 0 ≤ ((V 0 11)).toInt ∧ ((V 0 11)).toInt ≤ 1 := hMV 0 11
  refine lv_imul hx hb dX12_checkNeed_8 ?_
  refine lv_topi (fun z3 ez3 => ?_)
  have hz3 : z3.toInt = 24 * ((V 0 11)).toInt := i_mul ez3 (by decide) rfl (by (first | exact om_3f8aba7b6ce1 r2.1 r2.2 | omega))
  refine lv_iload_n hx hb dX12_checkNeed_9 rfl (lv_at hl 1 rfl) ?_
  refine lv_iadd hx hb dX12_checkNeed_10 ?_
  refine lv_topi (fun z4 ez4 => ?_)
  have hz4 : z4.toInt = z3.toInt + p0.toInt := i_add ez4 rfl rfl (by (first | exact om_6c84dfc0d33f rg_p0.1 rg_p0.2 r2.1 r2.2 hz3 | omega))
  refine lv_imul hx hb dX12_checkNeed_11 ?_
  refine lv_topi (fun z5 ez5 => ?_)
  have hz5 : z5.toInt = 8 * z4.toInt := i_mul ez5 (by decide) rfl (by (first | exact om_43f57588f3c1 rg_p0.1 rg_p0.2 r2.1 r2.2 hz3 hz4 | omega))
  refine lv_iload_n hx hb dX12_checkNeed_12 rfl (lv_at hl 2 rfl) ?_
  refine lv_iadd hx hb dX12_checkNeed_13 ?_
  refine lv_topi (fun z6 ez6 => ?_)
  have hz6 : z6.toInt = z5.toInt + p1.toInt := i_add ez6 rfl rfl (by (first | exact om_b6c1b024e6af rg_p0.1 rg_p0.2 rg_p1.1 rg_p1.2 r2.1 r2.2 hz3 hz4 hz5 | omega))
  refine lv_istore_n (lv' := [(3, .int z6), (0, .ref (ad 0)), (1, .int p0), (2, .int p1)]) hx hb dX12_checkNeed_14 rfl hl (by decide) rfl (fun ls hl => ?_)
  refine lv_aload_n hx hb dX12_checkNeed_15 rfl (lv_at hl 1 rfl) ?_
  refine lv_iload_n hx hb dX12_checkNeed_16 rfl (lv_at hl 0 rfl) ?_
  have kn : (nwh V : Int) = (V 0 11).toInt := i_clamp (x := V 0 11) rfl (by (first | exact om_eafa9039069c r2.1 | omega))
  have kp0 := i_clamp (x := p0) rfl (by (first | exact om_eafa9039069c rg_p0.1 | omega))
  have kp1 := i_clamp (x := p1) rfl (by (first | exact om_eafa9039069c rg_p1.1 | omega))
  have kN : Int32.toNatClampNeg z6 = 8 * (24 * nwh V + Int32.toNatClampNeg p0) + Int32.toNatClampNeg p1 := by have h9 := i_clamp (x := z6) rfl (by (first | exact om_0223b868096c rg_p0.1 rg_p1.1 r2.1 hz3 hz4 hz5 hz6 | omega)); (first | exact om_ae2f849a0b98 hz3 hz4 hz5 hz6 kn kp0 kp1 h9 | omega)
  have nt : 0 ≤ (V 28 (Int32.toNatClampNeg z6)).toInt := by rw [kN]; exact y1
  have r7 : (-1) ≤ ((V 28 (Int32.toNatClampNeg z6))).toInt ∧ ((V 28 (Int32.toNatClampNeg z6))).toInt ≤ 23 := hMV 28 (Int32.toNatClampNeg z6)
  refine gA_int (gA_runV (As := [.int z6]) (rest := []) (ci := 12) (q0 := 0) hx hb hml hown hg hP hD hK hS hA hnw hgk (s_candidatesOf2 l D ks H.size ad kk V L z6 hMV (by first | exact om_8c842566bb12 rg_p0.1 rg_p0.2 rg_p1.1 rg_p1.2 r2.1 r2.2 hz3 hz4 hz5 hz6 | first | omega | ((try (have i_y1 := Imp.go y1 (by omega))); omega)) (show 0 ≤ (V 28 (Int32.toNatClampNeg z6)).toInt from by first | exact om_eafa9039069c nt | first | omega | ((try (have i_y1 := Imp.go y1 (by omega))); omega))) w2172 w2174 w119 w172 w2175 rfl rfl hdV_yX12_candidatesOf ⟨Nat.le_of_ble_eq_true rfl, Nat.le_of_ble_eq_true rfl⟩ rfl hl.1 rfl (Nat.le_of_ble_eq_true rfl) dX12_checkNeed_17 ⟨Nat.le_of_ble_eq_true rfl, Nat.le_of_ble_eq_true rfl⟩) hP hD hK hS hA (fun z8 u9 H locs w10 hP hD hK hS => ?_)
  obtain ⟨V13, L14⟩ := u9
  obtain ⟨hMV13, ajV13, axL14, rgz8, t11, t12⟩ := w10
  have axL14 : L = L14 := Eq.symm axL14
  subst axL14
  have hP : va_P D vwCl (mw ad kk ks.1 V13 L) H := hP
  have hD : va_D A (mw ad kk ks.1 V13 L) := hD
  have hMV13 : rgd bM V13 := hMV13
  have ajV13 : agr [] [80] V V13 := ajV13
  have agV13 : agr [(0, 81)] [80, 82, 83, 84, 86] V V13 := agV.tr ajV13 (by decide) (by decide)
  have rgz8 : 0 ≤ z8.toInt ∧ z8.toInt ≤ 24 := rgz8
  have t11 : ∀ i : Nat, (i : Int) < z8.toInt → th V (Int32.toNatClampNeg (V13 80 i)) := t11
  have t12 : c0k V V13 := t12
  refine lv_istore (lv' := [(4, .int z8), (3, .int z6), (0, .ref (ad 0)), (1, .int p0), (2, .int p1)]) hx hb dX12_checkNeed_20 hl (by decide) rfl (fun ls hl => ?_)
  refine lv_iload hx hb dX12_checkNeed_22 (lv_at hl 0 rfl) ?_
  have J15 : ∀ (y16 : Int32) (H : Heap) (locs : List Loc) (ls : Array Slot), 0 ≤ y16.toInt ∧ y16.toInt ≤ 1 → Imp (y16.toInt = 0) (1 ≤ z8.toInt ∨ 1 ≤ (V13 30 (Int32.toNatClampNeg z6)).toInt) → va_P D vwCl (mw ad kk ks.1 V13 L) H → va_D A (mw ad kk ks.1 V13 L) → va_S A s.heap H locs → lv_has ls 10 [(4, .int z8), (3, .int z6), (0, .ref (ad 0)), (1, .int p0), (2, .int p1)] → W p l e r_s_checkNeed2 s m ([.ref (ad 0), .int p0, .int p1] : List Value).toArray below meth c H locs 0 0 (MQ below (q_s_checkNeed2 D ks ad kk V L p0 p1 A) ([.ref (ad 0), .int p0, .int p1] : List Value).toArray s 0 0 A) (F0 m 41 ls [.int y16]) := by
    intro y16 H locs ls kJ15_0 xJ15_0 hP hD hS hl
    have pq17 : (V13 30 (Int32.toNatClampNeg z6)).toInt = ((V 30 (Int32.toNatClampNeg z6))).toInt := congrArg Int32.toInt (ajV13 30 (Int32.toNatClampNeg z6) rfl)
    have r18 : 0 ≤ ((V 30 (Int32.toNatClampNeg z6))).toInt ∧ ((V 30 (Int32.toNatClampNeg z6))).toInt ≤ 1 := hMV 30 (Int32.toNatClampNeg z6)
    refine lv_istore (lv' := [(5, .int y16), (4, .int z8), (3, .int z6), (0, .ref (ad 0)), (1, .int p0), (2, .int p1)]) hx hb dX12_checkNeed_41 hl (by decide) rfl (fun ls hl => ?_)
    refine lv_iload hx hb dX12_checkNeed_43 (lv_at hl 1 rfl) ?_
    refine lv_iconst (v := 1) hx hb dX12_checkNeed_45 (by decide) ?_
    have J19 : ∀ (y20 : Int32) (H : Heap) (locs : List Loc) (ls : Array Slot), 0 ≤ y20.toInt ∧ y20.toInt ≤ 1 → va_P D vwCl (mw ad kk ks.1 V13 L) H → va_D A (mw ad kk ks.1 V13 L) → va_S A s.heap H locs → lv_has ls 10 [(5, .int y16), (4, .int z8), (3, .int z6), (0, .ref (ad 0)), (1, .int p0), (2, .int p1)] → W p l e r_s_checkNeed2 s m ([.ref (ad 0), .int p0, .int p1] : List Value).toArray below meth c H locs 0 0 (MQ below (q_s_checkNeed2 D ks ad kk V L p0 p1 A) ([.ref (ad 0), .int p0, .int p1] : List Value).toArray s 0 0 A) (F0 m 63 ls [.int y20]) := by
      intro y20 H locs ls kJ19_0 hP hD hS hl
      refine lv_istore (lv' := [(6, .int y20), (5, .int y16), (4, .int z8), (3, .int z6), (0, .ref (ad 0)), (1, .int p0), (2, .int p1)]) hx hb dX12_checkNeed_63 hl (by decide) rfl (fun ls hl => ?_)
      refine lv_aload_n hx hb dX12_checkNeed_65 rfl (lv_at hl 4 rfl) ?_
      refine va_get (D := D) (ci := 12) (v := .ref (ad 86)) (C := RX12) (T := TX12) (N := 100) hx hb hg inX12 hown hK hP 0 rfl rfl 86 (by decide) (hg _ w1792) (fun _ h9 => h9) rfl dX12_checkNeed_66 ?_
      refine lv_bipush (v := 8) hx hb dX12_checkNeed_69 (by decide) ?_
      refine lv_iload_n hx hb dX12_checkNeed_71 rfl (lv_at hl 5 rfl) ?_
      refine lv_imul hx hb dX12_checkNeed_72 ?_
      refine lv_topi (fun z21 ez21 => ?_)
      have hz21 : z21.toInt = 8 * p0.toInt := i_mul ez21 (by decide) rfl (by (first | exact om_9e4b7225c539 rg_p0.1 rg_p0.2 | omega))
      refine lv_iload_n hx hb dX12_checkNeed_73 rfl (lv_at hl 6 rfl) ?_
      refine lv_iadd hx hb dX12_checkNeed_74 ?_
      refine lv_topi (fun z22 ez22 => ?_)
      have hz22 : z22.toInt = z21.toInt + p1.toInt := i_add ez22 rfl rfl (by (first | exact om_9f730d8f8954 rg_p0.1 rg_p0.2 rg_p1.1 rg_p1.2 hz21 | omega))
      refine lv_iload hx hb dX12_checkNeed_75 (lv_at hl 1 rfl) ?_
      have J23 : ∀ (y24 : Int32) (H : Heap) (locs : List Loc) (ls : Array Slot), 0 ≤ y24.toInt ∧ y24.toInt ≤ 1 → va_P D vwCl (mw ad kk ks.1 V13 L) H → va_D A (mw ad kk ks.1 V13 L) → va_S A s.heap H locs → lv_has ls 10 [(6, .int y20), (5, .int y16), (4, .int z8), (3, .int z6), (0, .ref (ad 0)), (1, .int p0), (2, .int p1)] → W p l e r_s_checkNeed2 s m ([.ref (ad 0), .int p0, .int p1] : List Value).toArray below meth c H locs 0 0 (MQ below (q_s_checkNeed2 D ks ad kk V L p0 p1 A) ([.ref (ad 0), .int p0, .int p1] : List Value).toArray s 0 0 A) (F0 m 90 ls [.int y24, .int z22, .ref (ad 86)]) := by
        intro y24 H locs ls kJ23_0 hP hD hS hl
        refine va_zast (D := D) (i := z22) (x := y24) hx hb hK hP hD hS 62 61 rfl rfl (i_in (a := z22.toInt) rfl (by first | exact om_acd96330a334 rg_p0.1 rg_p0.2 rg_p1.1 rg_p1.2 hz21 hz22 | first | omega | ((try (have i_xJ15_0 := Imp.go xJ15_0 (by omega))); (try (have i_y1 := Imp.go y1 (by omega))); (try (have i_y1 := Imp.go y1 (by omega))); (try (have i_xJ15_0 := Imp.go xJ15_0 (by omega))); omega))) dX12_checkNeed_90 (fun H locs hP hD hS => ?_)
        obtain ⟨V25, hV25⟩ : ∃ z, z = up2 V13 86 (Int32.toNatClampNeg z22) (vp_nar .boolean y24) := ⟨_, rfl⟩
        have hP : va_P D vwCl (mw ad kk ks.1 V25 L) H := by rw [hV25]; exact hP
        have hD : va_D A (mw ad kk ks.1 V25 L) := by rw [hV25]; exact hD
        have hMV25 : rgd bM V25 := hMV13.put hV25 (nar_b _)
        have agV25 : agr [(0, 81)] [80, 82, 83, 84, 86] V V25 := agV13.up hV25 rfl
        refine lv_iconst (v := 0) hx hb dX12_checkNeed_91 (by decide) ?_
        refine lv_istore (lv' := [(7, .int 0), (6, .int y20), (5, .int y16), (4, .int z8), (3, .int z6), (0, .ref (ad 0)), (1, .int p0), (2, .int p1)]) hx hb dX12_checkNeed_92 hl (by decide) rfl (fun ls hl => ?_)
        refine lv_iconst (v := 0) hx hb dX12_checkNeed_94 (by decide) ?_
        refine lv_istore (lv' := [(8, .int 0), (7, .int 0), (6, .int y20), (5, .int y16), (4, .int z8), (3, .int z6), (0, .ref (ad 0)), (1, .int p0), (2, .int p1)]) hx hb dX12_checkNeed_95 hl (by decide) rfl (fun ls hl => ?_)
        have lp28 : ∀ (fulp28 : Nat) (y26 : Int32) (y27 : Int32) (H : Heap) (locs : List Loc) (ls : Array Slot), 0 ≤ y26.toInt ∧ y26.toInt ≤ 24 → 0 ≤ y27.toInt ∧ y27.toInt ≤ 1 → y26.toInt ≤ z8.toInt → z8.toInt - y26.toInt < (fulp28 : Int) → va_P D vwCl (mw ad kk ks.1 V25 L) H → va_D A (mw ad kk ks.1 V25 L) → va_S A s.heap H locs → lv_has ls 10 [(8, .int y26), (7, .int y27), (6, .int y20), (5, .int y16), (4, .int z8), (3, .int z6), (0, .ref (ad 0)), (1, .int p0), (2, .int p1)] → W p l e r_s_checkNeed2 s m ([.ref (ad 0), .int p0, .int p1] : List Value).toArray below meth c H locs 0 0 (MQ below (q_s_checkNeed2 D ks ad kk V L p0 p1 A) ([.ref (ad 0), .int p0, .int p1] : List Value).toArray s 0 0 A) (F0 m 97 ls []) := by
          intro fulp28
          induction fulp28 with
          | zero =>
            intro y26 y27 H locs ls klp28_0 klp28_1 xlp28_0 hn  hP hD hS hl
            exfalso; (first | exact om_4634b1278845 xlp28_0 hn | omega)
          | succ fulp28 ihlp28 =>
            intro y26 y27 H locs ls klp28_0 klp28_1 xlp28_0 hn  hP hD hS hl
            refine lv_iload hx hb dX12_checkNeed_97 (lv_at hl 0 rfl) ?_
            refine lv_iload hx hb dX12_checkNeed_99 (lv_at hl 4 rfl) ?_
            have J29 : ∀ (H : Heap) (locs : List Loc) (ls : Array Slot), va_P D vwCl (mw ad kk ks.1 V25 L) H → va_D A (mw ad kk ks.1 V25 L) → va_S A s.heap H locs → lv_has ls 10 [(8, .int y26), (7, .int y27), (6, .int y20), (5, .int y16), (4, .int z8), (3, .int z6), (0, .ref (ad 0)), (1, .int p0), (2, .int p1)] → W p l e r_s_checkNeed2 s m ([.ref (ad 0), .int p0, .int p1] : List Value).toArray below meth c H locs 0 0 (MQ below (q_s_checkNeed2 D ks ad kk V L p0 p1 A) ([.ref (ad 0), .int p0, .int p1] : List Value).toArray s 0 0 A) (F0 m 184 ls []) := by
              intro H locs ls  hP hD hS hl
              refine lv_iload hx hb dX12_checkNeed_184 (lv_at hl 3 rfl) ?_
              refine lv_if_ne (tgt := 199) hx hb dX12_checkNeed_186 (by decide) (fun c30 => ?_) (fun c30 => ?_)
              · skip
                have f31 : y16.toInt ≠ 0 := b_neq rfl (by decide) c30
                refine lv_aload_n hx hb dX12_checkNeed_199 rfl (lv_at hl 6 rfl) ?_
                refine lv_iload hx hb dX12_checkNeed_200 (lv_at hl 3 rfl) ?_
                refine lv_if_eq (tgt := 209) hx hb dX12_checkNeed_202 (by decide) (fun c32 => ?_) (fun c32 => ?_)
                · skip
                  have f33 : y16.toInt = 0 := b_eq rfl (by decide) c32
                  exfalso; first | exact om_0abcda13baee kJ15_0.1 f31 f33 | first | omega | ((try (have i_xJ15_0 := Imp.go xJ15_0 (by omega))); (try (have i_y1 := Imp.go y1 (by omega))); (try (have i_y1 := Imp.go y1 (by omega))); (try (have i_xJ15_0 := Imp.go xJ15_0 (by omega))); omega)
                · skip
                  have f34 : y16.toInt ≠ 0 := b_neq rfl (by decide) c32
                  refine lv_iconst (v := 1) hx hb dX12_checkNeed_205 (by decide) ?_
                  refine lv_goto (tgt := 219) hx hb dX12_checkNeed_206 (by decide) ?_
                  refine lv_iload_n hx hb dX12_checkNeed_219 rfl (lv_at hl 7 rfl) ?_
                  refine lv_iload_n hx hb dX12_checkNeed_220 rfl (lv_at hl 8 rfl) ?_
                  have r35 : Int32.toInt 1 = 1 := by decide
                  have pq36 : (V25 0 81).toInt = ((V 0 81)).toInt := congrArg Int32.toInt ((up2_o hV25 (by decide)).trans (ajV13 0 81 rfl))
                  refine gA_void (gA_runV (As := [.int 1, .int p0, .int p1]) (rest := []) (ci := 12) (q0 := 0) hx hb hml hown hg hP hD hK hS hA hnw hgk (s_addFault l D ks H.size ad kk V25 L 1 p0 p1 hMV25 (by first | exact om_b6da0344f992 rg_p1.1 rg_p1.2 | first | omega | ((try (have i_xJ15_0 := Imp.go xJ15_0 (by omega))); (try (have i_y1 := Imp.go y1 (by omega))); (try (have i_y1 := Imp.go y1 (by omega))); (try (have i_xJ15_0 := Imp.go xJ15_0 (by omega))); omega)) (show (V25 0 81).toInt ≤ 999999 from by first | exact om_92a90bb16346 y2 pq36 | first | omega | ((try (have i_xJ15_0 := Imp.go xJ15_0 (by omega))); (try (have i_y1 := Imp.go y1 (by omega))); (try (have i_y1 := Imp.go y1 (by omega))); (try (have i_xJ15_0 := Imp.go xJ15_0 (by omega))); omega))) w2183 w2185 w121 w172 w2186 rfl rfl hdV_yX12_addFault ⟨Nat.le_of_ble_eq_true rfl, Nat.le_of_ble_eq_true rfl⟩ rfl hl.1 rfl (Nat.le_of_ble_eq_true rfl) dX12_checkNeed_221 ⟨Nat.le_of_ble_eq_true rfl, Nat.le_of_ble_eq_true rfl⟩) hP hD hK hS hA (fun u38 H locs w39 hP hD hK hS => ?_)
                  obtain ⟨V41, L42⟩ := u38
                  obtain ⟨hMV41, ajV41, axL42, t40⟩ := w39
                  have axL42 : L = L42 := Eq.symm axL42
                  subst axL42
                  have hP : va_P D vwCl (mw ad kk ks.1 V41 L) H := hP
                  have hD : va_D A (mw ad kk ks.1 V41 L) := hD
                  have hMV41 : rgd bM V41 := hMV41
                  have ajV41 : agr [(0, 81)] [82, 83, 84] V25 V41 := ajV41
                  have agV41 : agr [(0, 81)] [80, 82, 83, 84, 86] V V41 := agV25.tr ajV41 (by decide) (by decide)
                  have t40 : (V41 0 81).toInt = (V25 0 81).toInt + 1 := t40
                  have r43 : 0 ≤ ((V41 0 81)).toInt ∧ ((V41 0 81)).toInt ≤ 1000000 := hMV41 0 81
                  have c044 : c0k V V41 := c0k.tr t12 (c0k.ag (show agr [(0, 81)] [82, 83, 84, 86] V13 V41 from (agr.tr (agr.up agr.rf hV25 rfl) ajV41 (by decide) (by decide))) rfl) ajV13 ⟨rfl, fun _ => rfl, fun _ => rfl, fun _ => rfl, fun _ => rfl, fun _ => rfl, fun _ => rfl⟩
                  exact W.vret hx hb hr (fun t ht hW => ⟨⟨(V41, L), rfl, ⟨hMV41, agV41, rfl, (show (V41 0 81).toInt ≤ (V 0 81).toInt + 1 from by first | exact om_4073e2f93091 pq36 t40 | first | omega | ((try (have i_xJ15_0 := Imp.go xJ15_0 (by omega))); (try (have i_y1 := Imp.go y1 (by omega))); (try (have i_y1 := Imp.go y1 (by omega))); (try (have i_xJ15_0 := Imp.go xJ15_0 (by omega))); omega)), (show (V 0 81).toInt ≤ (V41 0 81).toInt from by first | exact om_7fa199aab32e pq36 t40 | first | omega | ((try (have i_xJ15_0 := Imp.go xJ15_0 (by omega))); (try (have i_y1 := Imp.go y1 (by omega))); (try (have i_y1 := Imp.go y1 (by omega))); (try (have i_xJ15_0 := Imp.go xJ15_0 (by omega))); omega)), c044, (Imp.mk (fun hp => by exfalso; first | omega | ((try (have i_xJ15_0 := Imp.go xJ15_0 (by omega))); (try (have i_y1 := Imp.go y1 (by omega))); (try (have i_y1 := Imp.go y1 (by omega))); (try (have i_xJ15_0 := Imp.go xJ15_0 (by omega))); omega)))⟩, by rw [ht]; exact hP, va_K.moved hW.alike hK, hD⟩, hS.F ht⟩) hS.2.2 dX12_checkNeed_224
              · skip
                have f45 : y16.toInt = 0 := b_eq rfl (by decide) c30
                refine lv_iload hx hb dX12_checkNeed_189 (lv_at hl 2 rfl) ?_
                refine lv_if_ne (tgt := 199) hx hb dX12_checkNeed_191 (by decide) (fun c46 => ?_) (fun c46 => ?_)
                · skip
                  have f47 : y20.toInt ≠ 0 := b_neq rfl (by decide) c46
                  refine lv_aload_n hx hb dX12_checkNeed_199 rfl (lv_at hl 6 rfl) ?_
                  refine lv_iload hx hb dX12_checkNeed_200 (lv_at hl 3 rfl) ?_
                  refine lv_if_eq (tgt := 209) hx hb dX12_checkNeed_202 (by decide) (fun c48 => ?_) (fun c48 => ?_)
                  · skip
                    have f49 : y16.toInt = 0 := b_eq rfl (by decide) c48
                    refine lv_iload hx hb dX12_checkNeed_209 (lv_at hl 2 rfl) ?_
                    refine lv_if_eq (tgt := 218) hx hb dX12_checkNeed_211 (by decide) (fun c50 => ?_) (fun c50 => ?_)
                    · skip
                      have f51 : y20.toInt = 0 := b_eq rfl (by decide) c50
                      exfalso; first | exact om_0abcda13baee kJ19_0.1 f47 f51 | first | omega | ((try (have i_xJ15_0 := Imp.go xJ15_0 (by omega))); (try (have i_y1 := Imp.go y1 (by omega))); (try (have i_y1 := Imp.go y1 (by omega))); (try (have i_xJ15_0 := Imp.go xJ15_0 (by omega))); omega)
                    · skip
                      have f52 : y20.toInt ≠ 0 := b_neq rfl (by decide) c50
                      refine lv_iconst (v := 2) hx hb dX12_checkNeed_214 (by decide) ?_
                      refine lv_goto (tgt := 219) hx hb dX12_checkNeed_215 (by decide) ?_
                      refine lv_iload_n hx hb dX12_checkNeed_219 rfl (lv_at hl 7 rfl) ?_
                      refine lv_iload_n hx hb dX12_checkNeed_220 rfl (lv_at hl 8 rfl) ?_
                      have r53 : Int32.toInt 2 = 2 := by decide
                      have pq54 : (V25 0 81).toInt = ((V 0 81)).toInt := congrArg Int32.toInt ((up2_o hV25 (by decide)).trans (ajV13 0 81 rfl))
                      refine gA_void (gA_runV (As := [.int 2, .int p0, .int p1]) (rest := []) (ci := 12) (q0 := 0) hx hb hml hown hg hP hD hK hS hA hnw hgk (s_addFault l D ks H.size ad kk V25 L 2 p0 p1 hMV25 (by first | exact om_b6da0344f992 rg_p1.1 rg_p1.2 | first | omega | ((try (have i_xJ15_0 := Imp.go xJ15_0 (by omega))); (try (have i_y1 := Imp.go y1 (by omega))); (try (have i_y1 := Imp.go y1 (by omega))); (try (have i_xJ15_0 := Imp.go xJ15_0 (by omega))); omega)) (show (V25 0 81).toInt ≤ 999999 from by first | exact om_92a90bb16346 y2 pq54 | first | omega | ((try (have i_xJ15_0 := Imp.go xJ15_0 (by omega))); (try (have i_y1 := Imp.go y1 (by omega))); (try (have i_y1 := Imp.go y1 (by omega))); (try (have i_xJ15_0 := Imp.go xJ15_0 (by omega))); omega))) w2183 w2185 w121 w172 w2186 rfl rfl hdV_yX12_addFault ⟨Nat.le_of_ble_eq_true rfl, Nat.le_of_ble_eq_true rfl⟩ rfl hl.1 rfl (Nat.le_of_ble_eq_true rfl) dX12_checkNeed_221 ⟨Nat.le_of_ble_eq_true rfl, Nat.le_of_ble_eq_true rfl⟩) hP hD hK hS hA (fun u56 H locs w57 hP hD hK hS => ?_)
                      obtain ⟨V59, L60⟩ := u56
                      obtain ⟨hMV59, ajV59, axL60, t58⟩ := w57
                      have axL60 : L = L60 := Eq.symm axL60
                      subst axL60
                      have hP : va_P D vwCl (mw ad kk ks.1 V59 L) H := hP
                      have hD : va_D A (mw ad kk ks.1 V59 L) := hD
                      have hMV59 : rgd bM V59 := hMV59
                      have ajV59 : agr [(0, 81)] [82, 83, 84] V25 V59 := ajV59
                      have agV59 : agr [(0, 81)] [80, 82, 83, 84, 86] V V59 := agV25.tr ajV59 (by decide) (by decide)
                      have t58 : (V59 0 81).toInt = (V25 0 81).toInt + 1 := t58
                      have r61 : 0 ≤ ((V59 0 81)).toInt ∧ ((V59 0 81)).toInt ≤ 1000000 := hMV59 0 81
                      have c062 : c0k V V59 := c0k.tr t12 (c0k.ag (show agr [(0, 81)] [82, 83, 84, 86] V13 V59 from (agr.tr (agr.up agr.rf hV25 rfl) ajV59 (by decide) (by decide))) rfl) ajV13 ⟨rfl, fun _ => rfl, fun _ => rfl, fun _ => rfl, fun _ => rfl, fun _ => rfl, fun _ => rfl⟩
                      exact W.vret hx hb hr (fun t ht hW => ⟨⟨(V59, L), rfl, ⟨hMV59, agV59, rfl, (show (V59 0 81).toInt ≤ (V 0 81).toInt + 1 from by first | exact om_4073e2f93091 pq54 t58 | first | omega | ((try (have i_xJ15_0 := Imp.go xJ15_0 (by omega))); (try (have i_y1 := Imp.go y1 (by omega))); (try (have i_y1 := Imp.go y1 (by omega))); (try (have i_xJ15_0 := Imp.go xJ15_0 (by omega))); omega)), (show (V 0 81).toInt ≤ (V59 0 81).toInt from by first | exact om_7fa199aab32e pq54 t58 | first | omega | ((try (have i_xJ15_0 := Imp.go xJ15_0 (by omega))); (try (have i_y1 := Imp.go y1 (by omega))); (try (have i_y1 := Imp.go y1 (by omega))); (try (have i_xJ15_0 := Imp.go xJ15_0 (by omega))); omega)), c062, (Imp.mk (fun hp => by exfalso; first | omega | ((try (have i_xJ15_0 := Imp.go xJ15_0 (by omega))); (try (have i_y1 := Imp.go y1 (by omega))); (try (have i_y1 := Imp.go y1 (by omega))); (try (have i_xJ15_0 := Imp.go xJ15_0 (by omega))); omega)))⟩, by rw [ht]; exact hP, va_K.moved hW.alike hK, hD⟩, hS.F ht⟩) hS.2.2 dX12_checkNeed_224
                  · skip
                    have f63 : y16.toInt ≠ 0 := b_neq rfl (by decide) c48
                    exfalso; first | exact om_fb320d7600b7 kJ15_0.1 f45 f63 | first | omega | ((try (have i_xJ15_0 := Imp.go xJ15_0 (by omega))); (try (have i_y1 := Imp.go y1 (by omega))); (try (have i_y1 := Imp.go y1 (by omega))); (try (have i_xJ15_0 := Imp.go xJ15_0 (by omega))); omega)
                · skip
                  have f64 : y20.toInt = 0 := b_eq rfl (by decide) c46
                  refine lv_iload hx hb dX12_checkNeed_194 (lv_at hl 1 rfl) ?_
                  refine lv_if_eq (tgt := 224) hx hb dX12_checkNeed_196 (by decide) (fun c65 => ?_) (fun c65 => ?_)
                  · skip
                    have f66 : y27.toInt = 0 := b_eq rfl (by decide) c65
                    have pq67 : (V25 0 81).toInt = ((V 0 81)).toInt := congrArg Int32.toInt ((up2_o hV25 (by decide)).trans (ajV13 0 81 rfl))
                    have c068 : c0k V V25 := c0k.tr t12 (c0k.ag (show agr [] [86] V13 V25 from (agr.up agr.rf hV25 rfl)) rfl) ajV13 ⟨rfl, fun _ => rfl, fun _ => rfl, fun _ => rfl, fun _ => rfl, fun _ => rfl, fun _ => rfl⟩
                    have e80 : V25 80 0 = V13 80 0 := (show agr [] [86] V13 V25 from (agr.up agr.rf hV25 rfl)) 80 _ rfl
                    have cn69 : Imp ((V25 0 81).toInt = (V 0 81).toInt) (1 ≤ (V 30 (8 * (24 * nwh V + Int32.toNatClampNeg p0) + Int32.toNatClampNeg p1)).toInt ∨ th V (cd0 V25)) := Imp.mk (fun _ => by rcases (Imp.go xJ15_0 (by first | exact om_b1799fcf2d63 kJ15_0.1 f45 | first | omega | ((try (have i_xJ15_0 := Imp.go xJ15_0 (by omega))); (try (have i_y1 := Imp.go y1 (by omega))); (try (have i_y1 := Imp.go y1 (by omega))); (try (have i_xJ15_0 := Imp.go xJ15_0 (by omega))); omega))) with h9 | h9; (right; unfold cd0; rw [e80]; exact t11 0 (by omega)); (left; rw [← kN]; omega))
                    exact W.vret hx hb hr (fun t ht hW => ⟨⟨(V25, L), rfl, ⟨hMV25, agV25, rfl, (show (V25 0 81).toInt ≤ (V 0 81).toInt + 1 from by first | exact om_c3b61c06432f pq67 | first | omega | ((try (have i_xJ15_0 := Imp.go xJ15_0 (by omega))); (try (have i_y1 := Imp.go y1 (by omega))); (try (have i_y1 := Imp.go y1 (by omega))); (try (have i_xJ15_0 := Imp.go xJ15_0 (by omega))); omega)), (show (V 0 81).toInt ≤ (V25 0 81).toInt from by first | exact om_abdc88b0c8fc pq67 | first | omega | ((try (have i_xJ15_0 := Imp.go xJ15_0 (by omega))); (try (have i_y1 := Imp.go y1 (by omega))); (try (have i_y1 := Imp.go y1 (by omega))); (try (have i_xJ15_0 := Imp.go xJ15_0 (by omega))); omega)), c068, cn69⟩, by rw [ht]; exact hP, va_K.moved hW.alike hK, hD⟩, hS.F ht⟩) hS.2.2 dX12_checkNeed_224
                  · skip
                    have f70 : y27.toInt ≠ 0 := b_neq rfl (by decide) c65
                    refine lv_aload_n hx hb dX12_checkNeed_199 rfl (lv_at hl 6 rfl) ?_
                    refine lv_iload hx hb dX12_checkNeed_200 (lv_at hl 3 rfl) ?_
                    refine lv_if_eq (tgt := 209) hx hb dX12_checkNeed_202 (by decide) (fun c71 => ?_) (fun c71 => ?_)
                    · skip
                      have f72 : y16.toInt = 0 := b_eq rfl (by decide) c71
                      refine lv_iload hx hb dX12_checkNeed_209 (lv_at hl 2 rfl) ?_
                      refine lv_if_eq (tgt := 218) hx hb dX12_checkNeed_211 (by decide) (fun c73 => ?_) (fun c73 => ?_)
                      · skip
                        have f74 : y20.toInt = 0 := b_eq rfl (by decide) c73
                        refine lv_iconst (v := 4) hx hb dX12_checkNeed_218 (by decide) ?_
                        refine lv_iload_n hx hb dX12_checkNeed_219 rfl (lv_at hl 7 rfl) ?_
                        refine lv_iload_n hx hb dX12_checkNeed_220 rfl (lv_at hl 8 rfl) ?_
                        have r75 : Int32.toInt 4 = 4 := by decide
                        have pq76 : (V25 0 81).toInt = ((V 0 81)).toInt := congrArg Int32.toInt ((up2_o hV25 (by decide)).trans (ajV13 0 81 rfl))
                        refine gA_void (gA_runV (As := [.int 4, .int p0, .int p1]) (rest := []) (ci := 12) (q0 := 0) hx hb hml hown hg hP hD hK hS hA hnw hgk (s_addFault l D ks H.size ad kk V25 L 4 p0 p1 hMV25 (by first | exact om_b6da0344f992 rg_p1.1 rg_p1.2 | first | omega | ((try (have i_xJ15_0 := Imp.go xJ15_0 (by omega))); (try (have i_y1 := Imp.go y1 (by omega))); (try (have i_y1 := Imp.go y1 (by omega))); (try (have i_xJ15_0 := Imp.go xJ15_0 (by omega))); omega)) (show (V25 0 81).toInt ≤ 999999 from by first | exact om_92a90bb16346 y2 pq76 | first | omega | ((try (have i_xJ15_0 := Imp.go xJ15_0 (by omega))); (try (have i_y1 := Imp.go y1 (by omega))); (try (have i_y1 := Imp.go y1 (by omega))); (try (have i_xJ15_0 := Imp.go xJ15_0 (by omega))); omega))) w2183 w2185 w121 w172 w2186 rfl rfl hdV_yX12_addFault ⟨Nat.le_of_ble_eq_true rfl, Nat.le_of_ble_eq_true rfl⟩ rfl hl.1 rfl (Nat.le_of_ble_eq_true rfl) dX12_checkNeed_221 ⟨Nat.le_of_ble_eq_true rfl, Nat.le_of_ble_eq_true rfl⟩) hP hD hK hS hA (fun u78 H locs w79 hP hD hK hS => ?_)
                        obtain ⟨V81, L82⟩ := u78
                        obtain ⟨hMV81, ajV81, axL82, t80⟩ := w79
                        have axL82 : L = L82 := Eq.symm axL82
                        subst axL82
                        have hP : va_P D vwCl (mw ad kk ks.1 V81 L) H := hP
                        have hD : va_D A (mw ad kk ks.1 V81 L) := hD
                        have hMV81 : rgd bM V81 := hMV81
                        have ajV81 : agr [(0, 81)] [82, 83, 84] V25 V81 := ajV81
                        have agV81 : agr [(0, 81)] [80, 82, 83, 84, 86] V V81 := agV25.tr ajV81 (by decide) (by decide)
                        have t80 : (V81 0 81).toInt = (V25 0 81).toInt + 1 := t80
                        have r83 : 0 ≤ ((V81 0 81)).toInt ∧ ((V81 0 81)).toInt ≤ 1000000 := hMV81 0 81
                        have c084 : c0k V V81 := c0k.tr t12 (c0k.ag (show agr [(0, 81)] [82, 83, 84, 86] V13 V81 from (agr.tr (agr.up agr.rf hV25 rfl) ajV81 (by decide) (by decide))) rfl) ajV13 ⟨rfl, fun _ => rfl, fun _ => rfl, fun _ => rfl, fun _ => rfl, fun _ => rfl, fun _ => rfl⟩
                        exact W.vret hx hb hr (fun t ht hW => ⟨⟨(V81, L), rfl, ⟨hMV81, agV81, rfl, (show (V81 0 81).toInt ≤ (V 0 81).toInt + 1 from by first | exact om_4073e2f93091 pq76 t80 | first | omega | ((try (have i_xJ15_0 := Imp.go xJ15_0 (by omega))); (try (have i_y1 := Imp.go y1 (by omega))); (try (have i_y1 := Imp.go y1 (by omega))); (try (have i_xJ15_0 := Imp.go xJ15_0 (by omega))); omega)), (show (V 0 81).toInt ≤ (V81 0 81).toInt from by first | exact om_7fa199aab32e pq76 t80 | first | omega | ((try (have i_xJ15_0 := Imp.go xJ15_0 (by omega))); (try (have i_y1 := Imp.go y1 (by omega))); (try (have i_y1 := Imp.go y1 (by omega))); (try (have i_xJ15_0 := Imp.go xJ15_0 (by omega))); omega)), c084, (Imp.mk (fun hp => by exfalso; first | omega | ((try (have i_xJ15_0 := Imp.go xJ15_0 (by omega))); (try (have i_y1 := Imp.go y1 (by omega))); (try (have i_y1 := Imp.go y1 (by omega))); (try (have i_xJ15_0 := Imp.go xJ15_0 (by omega))); omega)))⟩, by rw [ht]; exact hP, va_K.moved hW.alike hK, hD⟩, hS.F ht⟩) hS.2.2 dX12_checkNeed_224
                      · skip
                        have f85 : y20.toInt ≠ 0 := b_neq rfl (by decide) c73
                        exfalso; first | exact om_fb320d7600b7 kJ19_0.1 f64 f85 | first | omega | ((try (have i_xJ15_0 := Imp.go xJ15_0 (by omega))); (try (have i_y1 := Imp.go y1 (by omega))); (try (have i_y1 := Imp.go y1 (by omega))); (try (have i_xJ15_0 := Imp.go xJ15_0 (by omega))); omega)
                    · skip
                      have f86 : y16.toInt ≠ 0 := b_neq rfl (by decide) c71
                      exfalso; first | exact om_fb320d7600b7 kJ15_0.1 f45 f86 | first | omega | ((try (have i_xJ15_0 := Imp.go xJ15_0 (by omega))); (try (have i_y1 := Imp.go y1 (by omega))); (try (have i_y1 := Imp.go y1 (by omega))); (try (have i_xJ15_0 := Imp.go xJ15_0 (by omega))); omega)
            refine lv_icmp_ge (tgt := 184) hx hb dX12_checkNeed_101 (by decide) (fun c87 => ?_) (fun c87 => ?_)
            · skip
              have f88 : z8.toInt ≤ y26.toInt := b_le rfl rfl c87
              exact J29  H locs ls  hP hD hS (lv_sub hl [0, 1, 2, 3, 4, 5, 6, 7, 8] rfl)
            · skip
              have f89 : y26.toInt < z8.toInt := b_nle rfl rfl c87
              refine lv_aload_n hx hb dX12_checkNeed_104 rfl (lv_at hl 6 rfl) ?_
              refine va_get (D := D) (ci := 12) (v := .ref (ad 29)) (C := RX12) (T := TX12) (N := 100) hx hb hg inX12 hown hK hP 0 rfl rfl 29 (by decide) (hg _ w1735) (fun _ h9 => h9) rfl dX12_checkNeed_105 ?_
              refine lv_iload_n hx hb dX12_checkNeed_108 rfl (lv_at hl 5 rfl) ?_
              refine va_zald (D := D) (i := z6) hx hb hK hP 22 21 rfl rfl (i_in (a := z6.toInt) rfl (by first | exact om_fbf295219f60 rg_p0.1 rg_p0.2 rg_p1.1 rg_p1.2 r2.1 r2.2 hz3 hz4 hz5 hz6 | first | omega | ((try (have i_xJ15_0 := Imp.go xJ15_0 (by omega))); (try (have i_y1 := Imp.go y1 (by omega))); (try (have i_y1 := Imp.go y1 (by omega))); (try (have i_xJ15_0 := Imp.go xJ15_0 (by omega))); omega))) dX12_checkNeed_109 ?_
              refine g_top (v := (V 29 (Int32.toNatClampNeg z6))) ((up2_o hV25 (by decide)).trans (ajV13 29 (Int32.toNatClampNeg z6) rfl)) ?_
              have r90 : 0 ≤ ((V 29 (Int32.toNatClampNeg z6))).toInt ∧ ((V 29 (Int32.toNatClampNeg z6))).toInt ≤ 1 := hMV 29 (Int32.toNatClampNeg z6)
              refine lv_if_ne (tgt := 184) hx hb dX12_checkNeed_110 (by decide) (fun c91 => ?_) (fun c91 => ?_)
              · skip
                have f92 : ((V 29 (Int32.toNatClampNeg z6))).toInt ≠ 0 := b_neq rfl (by decide) c91
                exact J29  H locs ls  hP hD hS (lv_sub hl [0, 1, 2, 3, 4, 5, 6, 7, 8] rfl)
              · skip
                have f93 : ((V 29 (Int32.toNatClampNeg z6))).toInt = 0 := b_eq rfl (by decide) c91
                refine lv_aload_n hx hb dX12_checkNeed_113 rfl (lv_at hl 6 rfl) ?_
                refine va_get (D := D) (ci := 12) (v := .ref (ad 22)) (C := RX12) (T := TX12) (N := 100) hx hb hg inX12 hown hK hP 0 rfl rfl 22 (by decide) (hg _ w1728) (fun _ h9 => h9) rfl dX12_checkNeed_114 ?_
                refine lv_bipush (v := 24) hx hb dX12_checkNeed_117 (by decide) ?_
                refine lv_aload_n hx hb dX12_checkNeed_119 rfl (lv_at hl 6 rfl) ?_
                refine va_get (D := D) (ci := 12) (v := .int (V25 0 11)) (C := RX12) (T := TX12) (N := 100) hx hb hg inX12 hown hK hP 0 rfl rfl 11 (by decide) (hg _ w1717) (fun _ h9 => h9) rfl dX12_checkNeed_120 ?_
                refine g_top (v := (V 0 11)) ((up2_o hV25 (by decide)).trans (ajV13 0 11 rfl)) ?_
                refine lv_imul hx hb dX12_checkNeed_123 ?_
                refine lv_topi (fun z94 ez94 => ?_)
                have hz94 : z94.toInt = 24 * ((V 0 11)).toInt := i_mul ez94 (by decide) rfl (by (first | exact om_3f8aba7b6ce1 r2.1 r2.2 | omega))
                refine lv_aload_n hx hb dX12_checkNeed_124 rfl (lv_at hl 6 rfl) ?_
                refine va_get (D := D) (ci := 12) (v := .ref (ad 80)) (C := RX12) (T := TX12) (N := 100) hx hb hg inX12 hown hK hP 0 rfl rfl 80 (by decide) (hg _ w1786) (fun _ h9 => h9) rfl dX12_checkNeed_125 ?_
                refine lv_iload hx hb dX12_checkNeed_128 (lv_at hl 0 rfl) ?_
                refine va_iald (D := D) (i := y26) hx hb hK hP 57 56 rfl rfl (i_in (a := y26.toInt) rfl (by first | exact om_b50422aacf88 rgz8.2 klp28_0.1 f89 | first | omega | ((try (have i_xJ15_0 := Imp.go xJ15_0 (by omega))); (try (have i_y1 := Imp.go y1 (by omega))); (try (have i_y1 := Imp.go y1 (by omega))); (try (have i_xJ15_0 := Imp.go xJ15_0 (by omega))); omega))) dX12_checkNeed_130 ?_
                refine g_top (v := (V13 80 (Int32.toNatClampNeg y26))) (up2_o hV25 (by decide)) ?_
                have r95 : 0 ≤ ((V13 80 (Int32.toNatClampNeg y26))).toInt ∧ ((V13 80 (Int32.toNatClampNeg y26))).toInt ≤ 23 := hMV13 80 (Int32.toNatClampNeg y26)
                refine lv_iadd hx hb dX12_checkNeed_131 ?_
                refine lv_topi (fun z96 ez96 => ?_)
                have hz96 : z96.toInt = z94.toInt + ((V13 80 (Int32.toNatClampNeg y26))).toInt := i_add ez96 rfl rfl (by (first | exact om_2303d3558cdc r2.1 r2.2 hz94 r95.1 r95.2 | omega))
                refine va_iald (D := D) (i := z96) hx hb hK hP 15 14 rfl rfl (i_in (a := z96.toInt) rfl (by first | exact om_b4cc9a042e74 r2.1 r2.2 hz94 r95.1 r95.2 hz96 | first | omega | ((try (have i_xJ15_0 := Imp.go xJ15_0 (by omega))); (try (have i_y1 := Imp.go y1 (by omega))); (try (have i_y1 := Imp.go y1 (by omega))); (try (have i_xJ15_0 := Imp.go xJ15_0 (by omega))); omega))) dX12_checkNeed_132 ?_
                refine g_top (v := (V 22 (Int32.toNatClampNeg z96))) ((up2_o hV25 (by decide)).trans (ajV13 22 (Int32.toNatClampNeg z96) rfl)) ?_
                refine lv_istore (lv' := [(9, .int (V 22 (Int32.toNatClampNeg z96))), (8, .int y26), (7, .int y27), (6, .int y20), (5, .int y16), (4, .int z8), (3, .int z6), (0, .ref (ad 0)), (1, .int p0), (2, .int p1)]) hx hb dX12_checkNeed_133 hl (by decide) rfl (fun ls hl => ?_)
                refine lv_iload hx hb dX12_checkNeed_135 (lv_at hl 2 rfl) ?_
                refine lv_if_ne (tgt := 171) hx hb dX12_checkNeed_137 (by decide) (fun c97 => ?_) (fun c97 => ?_)
                · skip
                  have f98 : y27.toInt ≠ 0 := b_neq rfl (by decide) c97
                  refine lv_iconst (v := 1) hx hb dX12_checkNeed_171 (by decide) ?_
                  refine lv_goto (tgt := 176) hx hb dX12_checkNeed_172 (by decide) ?_
                  refine lv_istore (lv' := [(7, .int 1), (9, .int (V 22 (Int32.toNatClampNeg z96))), (8, .int y26), (6, .int y20), (5, .int y16), (4, .int z8), (3, .int z6), (0, .ref (ad 0)), (1, .int p0), (2, .int p1)]) hx hb dX12_checkNeed_176 hl (by decide) rfl (fun ls hl => ?_)
                  obtain ⟨z99, ez99⟩ : ∃ y : Int32, y = y26 + 1 := ⟨_, rfl⟩
                  have hz99 : z99.toInt = y26.toInt + 1 := i_add ez99 rfl (by decide) (by (first | exact om_ef5c713ba60b rgz8.2 klp28_0.1 f89 | omega))
                  refine lv_iinc (v := z99) (lv' := [(8, .int z99), (7, .int 1), (9, .int (V 22 (Int32.toNatClampNeg z96))), (6, .int y20), (5, .int y16), (4, .int z8), (3, .int z6), (0, .ref (ad 0)), (1, .int p0), (2, .int p1)]) hx hb dX12_checkNeed_178 hl (k := 2) rfl (by rw [ez99]; rfl) (by decide) rfl (fun ls hl => ?_)
                  refine lv_goto (tgt := 97) hx hb dX12_checkNeed_181 (by decide) ?_
                  have r100 : Int32.toInt 1 = 1 := by decide
                  exact ihlp28 z99 1 H locs ls (by first | exact om_66f93e1729e3 rgz8.2 klp28_0.1 f89 hz99 | first | omega | ((try (have i_xJ15_0 := Imp.go xJ15_0 (by omega))); (try (have i_y1 := Imp.go y1 (by omega))); (try (have i_y1 := Imp.go y1 (by omega))); (try (have i_xJ15_0 := Imp.go xJ15_0 (by omega))); omega)) (by decide) (show z99.toInt ≤ z8.toInt from by first | exact om_7fe9249fc074 f89 hz99 | first | omega | ((try (have i_xJ15_0 := Imp.go xJ15_0 (by omega))); (try (have i_y1 := Imp.go y1 (by omega))); (try (have i_y1 := Imp.go y1 (by omega))); (try (have i_xJ15_0 := Imp.go xJ15_0 (by omega))); omega)) (by first | exact om_9e7d2b874257 hn hz99 | first | omega | ((try (have i_xJ15_0 := Imp.go xJ15_0 (by omega))); (try (have i_y1 := Imp.go y1 (by omega))); (try (have i_y1 := Imp.go y1 (by omega))); (try (have i_xJ15_0 := Imp.go xJ15_0 (by omega))); omega)) hP hD hS (lv_sub hl [0, 1, 3, 4, 5, 6, 7, 8, 9] rfl)
                · skip
                  have f101 : y27.toInt = 0 := b_eq rfl (by decide) c97
                  refine lv_iload hx hb dX12_checkNeed_140 (lv_at hl 0 rfl) ?_
                  refine lv_iconst (v := 3) hx hb dX12_checkNeed_142 (by decide) ?_
                  refine lv_icmp_eq (tgt := 175) hx hb dX12_checkNeed_143 (by decide) (fun c102 => ?_) (fun c102 => ?_)
                  · skip
                    have f103 : ((V 22 (Int32.toNatClampNeg z96))).toInt = 3 := b_eq rfl (by decide) c102
                    refine lv_iconst (v := 0) hx hb dX12_checkNeed_175 (by decide) ?_
                    refine lv_istore (lv' := [(7, .int 0), (9, .int (V 22 (Int32.toNatClampNeg z96))), (8, .int y26), (6, .int y20), (5, .int y16), (4, .int z8), (3, .int z6), (0, .ref (ad 0)), (1, .int p0), (2, .int p1)]) hx hb dX12_checkNeed_176 hl (by decide) rfl (fun ls hl => ?_)
                    obtain ⟨z104, ez104⟩ : ∃ y : Int32, y = y26 + 1 := ⟨_, rfl⟩
                    have hz104 : z104.toInt = y26.toInt + 1 := i_add ez104 rfl (by decide) (by (first | exact om_ef5c713ba60b rgz8.2 klp28_0.1 f89 | omega))
                    refine lv_iinc (v := z104) (lv' := [(8, .int z104), (7, .int 0), (9, .int (V 22 (Int32.toNatClampNeg z96))), (6, .int y20), (5, .int y16), (4, .int z8), (3, .int z6), (0, .ref (ad 0)), (1, .int p0), (2, .int p1)]) hx hb dX12_checkNeed_178 hl (k := 2) rfl (by rw [ez104]; rfl) (by decide) rfl (fun ls hl => ?_)
                    refine lv_goto (tgt := 97) hx hb dX12_checkNeed_181 (by decide) ?_
                    have r105 : Int32.toInt 0 = 0 := by decide
                    exact ihlp28 z104 0 H locs ls (by first | exact om_66f93e1729e3 rgz8.2 klp28_0.1 f89 hz104 | first | omega | ((try (have i_xJ15_0 := Imp.go xJ15_0 (by omega))); (try (have i_y1 := Imp.go y1 (by omega))); (try (have i_y1 := Imp.go y1 (by omega))); (try (have i_xJ15_0 := Imp.go xJ15_0 (by omega))); omega)) (by decide) (show z104.toInt ≤ z8.toInt from by first | exact om_7fe9249fc074 f89 hz104 | first | omega | ((try (have i_xJ15_0 := Imp.go xJ15_0 (by omega))); (try (have i_y1 := Imp.go y1 (by omega))); (try (have i_y1 := Imp.go y1 (by omega))); (try (have i_xJ15_0 := Imp.go xJ15_0 (by omega))); omega)) (by first | exact om_9e7d2b874257 hn hz104 | first | omega | ((try (have i_xJ15_0 := Imp.go xJ15_0 (by omega))); (try (have i_y1 := Imp.go y1 (by omega))); (try (have i_y1 := Imp.go y1 (by omega))); (try (have i_xJ15_0 := Imp.go xJ15_0 (by omega))); omega)) hP hD hS (lv_sub hl [0, 1, 3, 4, 5, 6, 7, 8, 9] rfl)
                  · skip
                    have f106 : ((V 22 (Int32.toNatClampNeg z96))).toInt ≠ 3 := b_neq rfl (by decide) c102
                    refine lv_iload hx hb dX12_checkNeed_146 (lv_at hl 0 rfl) ?_
                    refine gE_int (g_runS (As := [.int (V 22 (Int32.toNatClampNeg z96))]) (rest := []) (wc := []) (tc := []) hx hb hml hown hg gw_self hP hD hK hS hA hnw hgk [] [] (by decide) rfl rfl (s_longness l D ks H.size (V 22 (Int32.toNatClampNeg z96)) ) w2180 w2181 w172 w2182 hdS_yX12_longness ⟨Nat.le_of_ble_eq_true rfl, Nat.le_of_ble_eq_true rfl⟩ rfl hl.1 rfl (Nat.le_of_ble_eq_true rfl) dX12_checkNeed_148 ⟨Nat.le_of_ble_eq_true rfl, Nat.le_of_ble_eq_true rfl⟩) hP hD hK hS hA (fun z107 u108 H locs w109 hP hD hK hS => ?_)
                    refine lv_aload_n hx hb dX12_checkNeed_151 rfl (lv_at hl 7 rfl) ?_
                    refine va_get (D := D) (ci := 12) (v := .ref (ad 22)) (C := RX12) (T := TX12) (N := 100) hx hb hg inX12 hown hK hP 0 rfl rfl 22 (by decide) (hg _ w1728) (fun _ h9 => h9) rfl dX12_checkNeed_152 ?_
                    refine lv_bipush (v := 24) hx hb dX12_checkNeed_155 (by decide) ?_
                    refine lv_aload_n hx hb dX12_checkNeed_157 rfl (lv_at hl 7 rfl) ?_
                    refine va_get (D := D) (ci := 12) (v := .int (V25 0 11)) (C := RX12) (T := TX12) (N := 100) hx hb hg inX12 hown hK hP 0 rfl rfl 11 (by decide) (hg _ w1717) (fun _ h9 => h9) rfl dX12_checkNeed_158 ?_
                    refine g_top (v := (V 0 11)) ((up2_o hV25 (by decide)).trans (ajV13 0 11 rfl)) ?_
                    refine lv_imul hx hb dX12_checkNeed_161 ?_
                    refine lv_topi (fun z110 ez110 => ?_)
                    have hz110 : z110.toInt = 24 * ((V 0 11)).toInt := i_mul ez110 (by decide) rfl (by (first | exact om_3f8aba7b6ce1 r2.1 r2.2 | omega))
                    refine lv_iload_n hx hb dX12_checkNeed_162 rfl (lv_at hl 8 rfl) ?_
                    refine lv_iadd hx hb dX12_checkNeed_163 ?_
                    refine lv_topi (fun z111 ez111 => ?_)
                    have hz111 : z111.toInt = z110.toInt + p0.toInt := i_add ez111 rfl rfl (by (first | exact om_6c84dfc0d33f rg_p0.1 rg_p0.2 r2.1 r2.2 hz110 | omega))
                    refine va_iald (D := D) (i := z111) hx hb hK hP 15 14 rfl rfl (i_in (a := z111.toInt) rfl (by first | exact om_cf341bf82a51 rg_p0.1 rg_p0.2 r2.1 r2.2 hz110 hz111 | first | omega | ((try (have i_xJ15_0 := Imp.go xJ15_0 (by omega))); (try (have i_y1 := Imp.go y1 (by omega))); (try (have i_y1 := Imp.go y1 (by omega))); (try (have i_xJ15_0 := Imp.go xJ15_0 (by omega))); omega))) dX12_checkNeed_164 ?_
                    refine g_top (v := (V 22 (Int32.toNatClampNeg z111))) ((up2_o hV25 (by decide)).trans (ajV13 22 (Int32.toNatClampNeg z111) rfl)) ?_
                    refine gE_int (g_runS (As := [.int (V 22 (Int32.toNatClampNeg z111))]) (rest := [.int z107]) (wc := []) (tc := []) hx hb hml hown hg gw_self hP hD hK hS hA hnw hgk [] [] (by decide) rfl rfl (s_longness l D ks H.size (V 22 (Int32.toNatClampNeg z111)) ) w2180 w2181 w172 w2182 hdS_yX12_longness ⟨Nat.le_of_ble_eq_true rfl, Nat.le_of_ble_eq_true rfl⟩ rfl hl.1 rfl (Nat.le_of_ble_eq_true rfl) dX12_checkNeed_165 ⟨Nat.le_of_ble_eq_true rfl, Nat.le_of_ble_eq_true rfl⟩) hP hD hK hS hA (fun z112 u113 H locs w114 hP hD hK hS => ?_)
                    refine lv_icmp_ge (tgt := 175) hx hb dX12_checkNeed_168 (by decide) (fun c115 => ?_) (fun c115 => ?_)
                    · skip
                      have f116 : z112.toInt ≤ z107.toInt := b_le rfl rfl c115
                      refine lv_iconst (v := 0) hx hb dX12_checkNeed_175 (by decide) ?_
                      refine lv_istore (lv' := [(7, .int 0), (9, .int (V 22 (Int32.toNatClampNeg z96))), (8, .int y26), (6, .int y20), (5, .int y16), (4, .int z8), (3, .int z6), (0, .ref (ad 0)), (1, .int p0), (2, .int p1)]) hx hb dX12_checkNeed_176 hl (by decide) rfl (fun ls hl => ?_)
                      obtain ⟨z117, ez117⟩ : ∃ y : Int32, y = y26 + 1 := ⟨_, rfl⟩
                      have hz117 : z117.toInt = y26.toInt + 1 := i_add ez117 rfl (by decide) (by (first | exact om_ef5c713ba60b rgz8.2 klp28_0.1 f89 | omega))
                      refine lv_iinc (v := z117) (lv' := [(8, .int z117), (7, .int 0), (9, .int (V 22 (Int32.toNatClampNeg z96))), (6, .int y20), (5, .int y16), (4, .int z8), (3, .int z6), (0, .ref (ad 0)), (1, .int p0), (2, .int p1)]) hx hb dX12_checkNeed_178 hl (k := 2) rfl (by rw [ez117]; rfl) (by decide) rfl (fun ls hl => ?_)
                      refine lv_goto (tgt := 97) hx hb dX12_checkNeed_181 (by decide) ?_
                      have r118 : Int32.toInt 0 = 0 := by decide
                      exact ihlp28 z117 0 H locs ls (by first | exact om_66f93e1729e3 rgz8.2 klp28_0.1 f89 hz117 | first | omega | ((try (have i_xJ15_0 := Imp.go xJ15_0 (by omega))); (try (have i_y1 := Imp.go y1 (by omega))); (try (have i_y1 := Imp.go y1 (by omega))); (try (have i_xJ15_0 := Imp.go xJ15_0 (by omega))); omega)) (by decide) (show z117.toInt ≤ z8.toInt from by first | exact om_7fe9249fc074 f89 hz117 | first | omega | ((try (have i_xJ15_0 := Imp.go xJ15_0 (by omega))); (try (have i_y1 := Imp.go y1 (by omega))); (try (have i_y1 := Imp.go y1 (by omega))); (try (have i_xJ15_0 := Imp.go xJ15_0 (by omega))); omega)) (by first | exact om_9e7d2b874257 hn hz117 | first | omega | ((try (have i_xJ15_0 := Imp.go xJ15_0 (by omega))); (try (have i_y1 := Imp.go y1 (by omega))); (try (have i_y1 := Imp.go y1 (by omega))); (try (have i_xJ15_0 := Imp.go xJ15_0 (by omega))); omega)) hP hD hS (lv_sub hl [0, 1, 3, 4, 5, 6, 7, 8, 9] rfl)
                    · skip
                      have f119 : z107.toInt < z112.toInt := b_nle rfl rfl c115
                      refine lv_iconst (v := 1) hx hb dX12_checkNeed_171 (by decide) ?_
                      refine lv_goto (tgt := 176) hx hb dX12_checkNeed_172 (by decide) ?_
                      refine lv_istore (lv' := [(7, .int 1), (9, .int (V 22 (Int32.toNatClampNeg z96))), (8, .int y26), (6, .int y20), (5, .int y16), (4, .int z8), (3, .int z6), (0, .ref (ad 0)), (1, .int p0), (2, .int p1)]) hx hb dX12_checkNeed_176 hl (by decide) rfl (fun ls hl => ?_)
                      obtain ⟨z120, ez120⟩ : ∃ y : Int32, y = y26 + 1 := ⟨_, rfl⟩
                      have hz120 : z120.toInt = y26.toInt + 1 := i_add ez120 rfl (by decide) (by (first | exact om_ef5c713ba60b rgz8.2 klp28_0.1 f89 | omega))
                      refine lv_iinc (v := z120) (lv' := [(8, .int z120), (7, .int 1), (9, .int (V 22 (Int32.toNatClampNeg z96))), (6, .int y20), (5, .int y16), (4, .int z8), (3, .int z6), (0, .ref (ad 0)), (1, .int p0), (2, .int p1)]) hx hb dX12_checkNeed_178 hl (k := 2) rfl (by rw [ez120]; rfl) (by decide) rfl (fun ls hl => ?_)
                      refine lv_goto (tgt := 97) hx hb dX12_checkNeed_181 (by decide) ?_
                      have r121 : Int32.toInt 1 = 1 := by decide
                      exact ihlp28 z120 1 H locs ls (by first | exact om_66f93e1729e3 rgz8.2 klp28_0.1 f89 hz120 | first | omega | ((try (have i_xJ15_0 := Imp.go xJ15_0 (by omega))); (try (have i_y1 := Imp.go y1 (by omega))); (try (have i_y1 := Imp.go y1 (by omega))); (try (have i_xJ15_0 := Imp.go xJ15_0 (by omega))); omega)) (by decide) (show z120.toInt ≤ z8.toInt from by first | exact om_7fe9249fc074 f89 hz120 | first | omega | ((try (have i_xJ15_0 := Imp.go xJ15_0 (by omega))); (try (have i_y1 := Imp.go y1 (by omega))); (try (have i_y1 := Imp.go y1 (by omega))); (try (have i_xJ15_0 := Imp.go xJ15_0 (by omega))); omega)) (by first | exact om_9e7d2b874257 hn hz120 | first | omega | ((try (have i_xJ15_0 := Imp.go xJ15_0 (by omega))); (try (have i_y1 := Imp.go y1 (by omega))); (try (have i_y1 := Imp.go y1 (by omega))); (try (have i_xJ15_0 := Imp.go xJ15_0 (by omega))); omega)) hP hD hS (lv_sub hl [0, 1, 3, 4, 5, 6, 7, 8, 9] rfl)
        have r122 : Int32.toInt 0 = 0 := by decide
        exact lp28 ((z8.toInt - (Int32.toInt 0) + 1 : Int).toNat) 0 0 H locs ls (by decide) (by decide) (show (Int32.toInt 0) ≤ z8.toInt from by first | exact om_6f9bb8cf3bec rgz8.1 r122 | first | omega | ((try (have i_xJ15_0 := Imp.go xJ15_0 (by omega))); (try (have i_y1 := Imp.go y1 (by omega))); (try (have i_y1 := Imp.go y1 (by omega))); (try (have i_xJ15_0 := Imp.go xJ15_0 (by omega))); omega)) (by first | exact om_7441a7786481 | first | omega | ((try (have i_xJ15_0 := Imp.go xJ15_0 (by omega))); (try (have i_y1 := Imp.go y1 (by omega))); (try (have i_y1 := Imp.go y1 (by omega))); (try (have i_xJ15_0 := Imp.go xJ15_0 (by omega))); omega)) hP hD hS (lv_sub hl [0, 1, 2, 3, 4, 5, 6, 7, 8] rfl)
      refine lv_if_ne (tgt := 85) hx hb dX12_checkNeed_77 (by decide) (fun c123 => ?_) (fun c123 => ?_)
      · skip
        have f124 : y16.toInt ≠ 0 := b_neq rfl (by decide) c123
        refine lv_iconst (v := 1) hx hb dX12_checkNeed_85 (by decide) ?_
        refine lv_goto (tgt := 90) hx hb dX12_checkNeed_86 (by decide) ?_
        have r125 : Int32.toInt 1 = 1 := by decide
        exact J23 1 H locs ls (by decide) hP hD hS (lv_sub hl [0, 1, 2, 3, 4, 5, 6] rfl)
      · skip
        have f126 : y16.toInt = 0 := b_eq rfl (by decide) c123
        refine lv_iload hx hb dX12_checkNeed_80 (lv_at hl 0 rfl) ?_
        refine lv_if_eq (tgt := 89) hx hb dX12_checkNeed_82 (by decide) (fun c127 => ?_) (fun c127 => ?_)
        · skip
          have f128 : y20.toInt = 0 := b_eq rfl (by decide) c127
          refine lv_iconst (v := 0) hx hb dX12_checkNeed_89 (by decide) ?_
          have r129 : Int32.toInt 0 = 0 := by decide
          exact J23 0 H locs ls (by decide) hP hD hS (lv_sub hl [0, 1, 2, 3, 4, 5, 6] rfl)
        · skip
          have f130 : y20.toInt ≠ 0 := b_neq rfl (by decide) c127
          refine lv_iconst (v := 1) hx hb dX12_checkNeed_85 (by decide) ?_
          refine lv_goto (tgt := 90) hx hb dX12_checkNeed_86 (by decide) ?_
          have r131 : Int32.toInt 1 = 1 := by decide
          exact J23 1 H locs ls (by decide) hP hD hS (lv_sub hl [0, 1, 2, 3, 4, 5, 6] rfl)
    refine lv_icmp_le (tgt := 62) hx hb dX12_checkNeed_46 (by decide) (fun c132 => ?_) (fun c132 => ?_)
    · skip
      have f133 : z8.toInt ≤ 1 := b_le rfl (by decide) c132
      refine lv_iconst (v := 0) hx hb dX12_checkNeed_62 (by decide) ?_
      have r134 : Int32.toInt 0 = 0 := by decide
      exact J19 0 H locs ls (by decide) hP hD hS (lv_sub hl [0, 1, 2, 3, 4, 5] rfl)
    · skip
      have f135 : 1 < z8.toInt := b_nle rfl (by decide) c132
      refine lv_aload_n hx hb dX12_checkNeed_49 rfl (lv_at hl 3 rfl) ?_
      refine va_get (D := D) (ci := 12) (v := .ref (ad 30)) (C := RX12) (T := TX12) (N := 100) hx hb hg inX12 hown hK hP 0 rfl rfl 30 (by decide) (hg _ w1736) (fun _ h9 => h9) rfl dX12_checkNeed_50 ?_
      refine lv_iload_n hx hb dX12_checkNeed_53 rfl (lv_at hl 2 rfl) ?_
      refine va_zald (D := D) (i := z6) hx hb hK hP 23 22 rfl rfl (i_in (a := z6.toInt) rfl (by first | exact om_fbf295219f60 rg_p0.1 rg_p0.2 rg_p1.1 rg_p1.2 r2.1 r2.2 hz3 hz4 hz5 hz6 | first | omega | ((try (have i_xJ15_0 := Imp.go xJ15_0 (by omega))); (try (have i_y1 := Imp.go y1 (by omega))); (try (have i_y1 := Imp.go y1 (by omega))); (try (have i_xJ15_0 := Imp.go xJ15_0 (by omega))); omega))) dX12_checkNeed_54 ?_
      refine g_top (v := (V 30 (Int32.toNatClampNeg z6))) (ajV13 30 (Int32.toNatClampNeg z6) rfl) ?_
      refine lv_if_ne (tgt := 62) hx hb dX12_checkNeed_55 (by decide) (fun c136 => ?_) (fun c136 => ?_)
      · skip
        have f137 : ((V 30 (Int32.toNatClampNeg z6))).toInt ≠ 0 := b_neq rfl (by decide) c136
        refine lv_iconst (v := 0) hx hb dX12_checkNeed_62 (by decide) ?_
        have r138 : Int32.toInt 0 = 0 := by decide
        exact J19 0 H locs ls (by decide) hP hD hS (lv_sub hl [0, 1, 2, 3, 4, 5] rfl)
      · skip
        have f139 : ((V 30 (Int32.toNatClampNeg z6))).toInt = 0 := b_eq rfl (by decide) c136
        refine lv_iconst (v := 1) hx hb dX12_checkNeed_58 (by decide) ?_
        refine lv_goto (tgt := 63) hx hb dX12_checkNeed_59 (by decide) ?_
        have r140 : Int32.toInt 1 = 1 := by decide
        exact J19 1 H locs ls (by decide) hP hD hS (lv_sub hl [0, 1, 2, 3, 4, 5] rfl)
  refine lv_if_ne (tgt := 40) hx hb dX12_checkNeed_24 (by decide) (fun c141 => ?_) (fun c141 => ?_)
  · skip
    have f142 : z8.toInt ≠ 0 := b_neq rfl (by decide) c141
    refine lv_iconst (v := 0) hx hb dX12_checkNeed_40 (by decide) ?_
    have r143 : Int32.toInt 0 = 0 := by decide
    have pq144 : (V13 30 (Int32.toNatClampNeg z6)).toInt = ((V 30 (Int32.toNatClampNeg z6))).toInt := congrArg Int32.toInt (ajV13 30 (Int32.toNatClampNeg z6) rfl)
    have r145 : 0 ≤ ((V 30 (Int32.toNatClampNeg z6))).toInt ∧ ((V 30 (Int32.toNatClampNeg z6))).toInt ≤ 1 := hMV 30 (Int32.toNatClampNeg z6)
    exact J15 0 H locs ls (by decide) (Imp.mk (fun _ => (show 1 ≤ z8.toInt ∨ 1 ≤ (V13 30 (Int32.toNatClampNeg z6)).toInt from by first | exact om_10b80969ca05 rgz8.1 f142 | first | omega | ((try (have i_y1 := Imp.go y1 (by omega))); omega)))) hP hD hS (lv_sub hl [0, 1, 2, 3, 4] rfl)
  · skip
    have f146 : z8.toInt = 0 := b_eq rfl (by decide) c141
    refine lv_aload_n hx hb dX12_checkNeed_27 rfl (lv_at hl 2 rfl) ?_
    refine va_get (D := D) (ci := 12) (v := .ref (ad 30)) (C := RX12) (T := TX12) (N := 100) hx hb hg inX12 hown hK hP 0 rfl rfl 30 (by decide) (hg _ w1736) (fun _ h9 => h9) rfl dX12_checkNeed_28 ?_
    refine lv_iload_n hx hb dX12_checkNeed_31 rfl (lv_at hl 1 rfl) ?_
    refine va_zald (D := D) (i := z6) hx hb hK hP 23 22 rfl rfl (i_in (a := z6.toInt) rfl (by first | exact om_fbf295219f60 rg_p0.1 rg_p0.2 rg_p1.1 rg_p1.2 r2.1 r2.2 hz3 hz4 hz5 hz6 | first | omega | ((try (have i_y1 := Imp.go y1 (by omega))); omega))) dX12_checkNeed_32 ?_
    refine g_top (v := (V 30 (Int32.toNatClampNeg z6))) (ajV13 30 (Int32.toNatClampNeg z6) rfl) ?_
    have r147 : 0 ≤ ((V 30 (Int32.toNatClampNeg z6))).toInt ∧ ((V 30 (Int32.toNatClampNeg z6))).toInt ≤ 1 := hMV 30 (Int32.toNatClampNeg z6)
    refine lv_if_ne (tgt := 40) hx hb dX12_checkNeed_33 (by decide) (fun c148 => ?_) (fun c148 => ?_)
    · skip
      have f149 : ((V 30 (Int32.toNatClampNeg z6))).toInt ≠ 0 := b_neq rfl (by decide) c148
      refine lv_iconst (v := 0) hx hb dX12_checkNeed_40 (by decide) ?_
      have r150 : Int32.toInt 0 = 0 := by decide
      have pq151 : (V13 30 (Int32.toNatClampNeg z6)).toInt = ((V 30 (Int32.toNatClampNeg z6))).toInt := congrArg Int32.toInt (ajV13 30 (Int32.toNatClampNeg z6) rfl)
      exact J15 0 H locs ls (by decide) (Imp.mk (fun _ => (show 1 ≤ z8.toInt ∨ 1 ≤ (V13 30 (Int32.toNatClampNeg z6)).toInt from by first | exact om_bdf7c36403e8 r147.1 f149 pq151 | first | omega | ((try (have i_y1 := Imp.go y1 (by omega))); omega)))) hP hD hS (lv_sub hl [0, 1, 2, 3, 4] rfl)
    · skip
      have f152 : ((V 30 (Int32.toNatClampNeg z6))).toInt = 0 := b_eq rfl (by decide) c148
      refine lv_iconst (v := 1) hx hb dX12_checkNeed_36 (by decide) ?_
      refine lv_goto (tgt := 41) hx hb dX12_checkNeed_37 (by decide) ?_
      have r153 : Int32.toInt 1 = 1 := by decide
      have pq154 : (V13 30 (Int32.toNatClampNeg z6)).toInt = ((V 30 (Int32.toNatClampNeg z6))).toInt := congrArg Int32.toInt (ajV13 30 (Int32.toNatClampNeg z6) rfl)
      exact J15 1 H locs ls (by decide) (Imp.mk (fun hp => absurd hp (by decide))) hP hD hS (lv_sub hl [0, 1, 2, 3, 4] rfl)
end
section
theorem w1793 : Cond.fieldLink RX12 216 "WiringHouseModel" "visit" "[I" ∈ GW := gw_k tk9_7 198 (by decide +kernel) rfl
theorem w2194 : Cond.code yX12_isCandidate cX12_isCandidate 6 (some .boolean) ∈ GW := gw_k tk9_9 119 (rfl) rfl
theorem w2191 : Cond.methodLink RX12 465 yX12_isCandidate ∈ GW := gw_k tk9_9 116 (by decide +kernel) rfl
theorem w2193 : Cond.instanceMethod yX12_isCandidate ∈ GW := gw_k tk9_9 118 (by decide +kernel) rfl
theorem w123 : Cond.selects RX12 yX12_isCandidate yX12_isCandidate ∈ GW := gw_mem 123 (by decide +kernel) rfl
theorem hdV_yX12_isCandidate : yX12_isCandidate.cls = RX12 ∧ yX12_isCandidate.cls ≠ "java/lang/invoke/MethodHandle" ∧ yX12_isCandidate.cls ≠ "java/lang/invoke/VarHandle" ∧ (parseMethodDescriptor yX12_isCandidate.desc).map (fun d => d.parameters.length) = some 2 := by decide +kernel
theorem w2190 : Cond.code yX12_visits cX12_visits 5 none ∈ GW := gw_k tk9_9 115 (rfl) rfl
theorem w2187 : Cond.methodLink RX12 452 yX12_visits ∈ GW := gw_k tk9_9 112 (by decide +kernel) rfl
theorem w2189 : Cond.instanceMethod yX12_visits ∈ GW := gw_k tk9_9 114 (by decide +kernel) rfl
theorem w122 : Cond.selects RX12 yX12_visits yX12_visits ∈ GW := gw_mem 122 (by decide +kernel) rfl
theorem hdV_yX12_visits : yX12_visits.cls = RX12 ∧ yX12_visits.cls ≠ "java/lang/invoke/MethodHandle" ∧ yX12_visits.cls ≠ "java/lang/invoke/VarHandle" ∧ (parseMethodDescriptor yX12_visits.desc).map (fun d => d.parameters.length) = some 1 := by decide +kernel
theorem w2198 : Cond.code yX12_addCycle cX12_addCycle 4 none ∈ GW := gw_k tk9_9 123 (rfl) rfl
theorem w2195 : Cond.methodLink RX12 468 yX12_addCycle ∈ GW := gw_k tk9_9 120 (by decide +kernel) rfl
theorem w2197 : Cond.instanceMethod yX12_addCycle ∈ GW := gw_k tk9_9 122 (by decide +kernel) rfl
theorem w124 : Cond.selects RX12 yX12_addCycle yX12_addCycle ∈ GW := gw_mem 124 (by decide +kernel) rfl
theorem hdV_yX12_addCycle : yX12_addCycle.cls = RX12 ∧ yX12_addCycle.cls ≠ "java/lang/invoke/MethodHandle" ∧ yX12_addCycle.cls ≠ "java/lang/invoke/VarHandle" ∧ (parseMethodDescriptor yX12_addCycle.desc).map (fun d => d.parameters.length) = some 1 := by decide +kernel
theorem dk9_dX12_visits_0_0 : dOk cX12_visits [(0, .aload_n 0, 1), (1, .getfield 216, 3), (4, .iload_n 1, 1), (5, .iconst 1, 1), (6, .iastore, 1), (7, .aload_n 0, 1), (8, .getfield 219, 3), (11, .aload_n 0, 1), (12, .getfield 449, 3), (15, .iload_n 1, 1), (16, .iastore, 1), (17, .aload_n 0, 1), (18, .dup, 1), (19, .getfield 449, 3), (22, .iconst 1, 1), (23, .iadd, 1), (24, .putfield 449, 3), (27, .iconst 0, 1), (28, .istore_n 2, 1), (29, .iload_n 2, 1), (30, .aload_n 0, 1), (31, .getfield 86, 3), (34, .bipush 24, 2), (36, .aload_n 0, 1)] = true ∧ dOk cX12_visits [(37, .getfield 286, 3), (40, .imul, 1), (41, .iload_n 1, 1), (42, .iadd, 1), (43, .iaload, 1), (44, .if_icmp .ge 122, 3), (166, .aload_n 0, 1), (167, .dup, 1), (168, .getfield 449, 3), (171, .iconst 1, 1), (172, .isub, 1), (173, .putfield 449, 3), (176, .aload_n 0, 1), (177, .getfield 216, 3), (180, .iload_n 1, 1), (181, .iconst 2, 1), (182, .iastore, 1), (183, .return_, 1), (47, .bipush 8, 2), (49, .bipush 24, 2), (51, .aload_n 0, 1), (52, .getfield 286, 3), (55, .imul, 1), (56, .iload_n 1, 1)] = true ∧ dOk cX12_visits [(57, .iadd, 1), (58, .imul, 1), (59, .iload_n 2, 1), (60, .iadd, 1), (61, .istore_n 3, 1), (62, .aload_n 0, 1), (63, .getfield 92, 3), (66, .iload_n 3, 1), (67, .baload, 1), (68, .ifCond .ne 92, 3), (160, .iinc 2 1, 3), (163, .goto (-134), 3), (71, .aload_n 0, 1), (72, .getfield 213, 3), (75, .bipush 8, 2), (77, .iload_n 1, 1), (78, .imul, 1), (79, .iload_n 2, 1), (80, .iadd, 1), (81, .baload, 1), (82, .ifCond .eq 6, 3), (88, .iconst 0, 1), (89, .istore 4, 2), (91, .iload 4, 2)] = true ∧ dOk cX12_visits [(93, .aload_n 0, 1), (94, .getfield 62, 3), (97, .aload_n 0, 1), (98, .getfield 286, 3), (101, .iaload, 1), (102, .if_icmp .ge 58, 3), (105, .aload_n 0, 1), (106, .iload_n 3, 1), (107, .iload 4, 2), (109, .invokevirtual 465, 3), (112, .ifCond .ne 6, 3), (118, .aload_n 0, 1), (119, .getfield 216, 3), (122, .iload 4, 2), (124, .iaload, 1), (125, .iconst 1, 1), (126, .if_icmp .ne 12, 3), (138, .aload_n 0, 1), (139, .getfield 216, 3), (142, .iload 4, 2), (144, .iaload, 1), (145, .ifCond .ne 9, 3), (154, .iinc 4 1, 3), (157, .goto (-66), 3)] = true ∧ dOk cX12_visits [(148, .aload_n 0, 1), (149, .iload 4, 2), (151, .invokevirtual 452, 3), (129, .aload_n 0, 1), (130, .iload 4, 2), (132, .invokevirtual 468, 3), (135, .goto 19, 3), (115, .goto 39, 3), (85, .goto 75, 3)] = true := by decide +kernel
theorem dX12_visits_0 : decode cX12_visits 0 = .ok (.aload_n 0, 1) := dr9 dk9_dX12_visits_0_0.1 0 (0, .aload_n 0, 1) rfl
theorem dX12_visits_1 : decode cX12_visits 1 = .ok (.getfield 216, 3) := dr9 dk9_dX12_visits_0_0.1 1 (1, .getfield 216, 3) rfl
theorem dX12_visits_4 : decode cX12_visits 4 = .ok (.iload_n 1, 1) := dr9 dk9_dX12_visits_0_0.1 2 (4, .iload_n 1, 1) rfl
theorem dX12_visits_5 : decode cX12_visits 5 = .ok (.iconst 1, 1) := dr9 dk9_dX12_visits_0_0.1 3 (5, .iconst 1, 1) rfl
theorem dX12_visits_6 : decode cX12_visits 6 = .ok (.iastore, 1) := dr9 dk9_dX12_visits_0_0.1 4 (6, .iastore, 1) rfl
theorem dX12_visits_7 : decode cX12_visits 7 = .ok (.aload_n 0, 1) := dr9 dk9_dX12_visits_0_0.1 5 (7, .aload_n 0, 1) rfl
theorem dX12_visits_8 : decode cX12_visits 8 = .ok (.getfield 219, 3) := dr9 dk9_dX12_visits_0_0.1 6 (8, .getfield 219, 3) rfl
theorem dX12_visits_11 : decode cX12_visits 11 = .ok (.aload_n 0, 1) := dr9 dk9_dX12_visits_0_0.1 7 (11, .aload_n 0, 1) rfl
theorem dX12_visits_12 : decode cX12_visits 12 = .ok (.getfield 449, 3) := dr9 dk9_dX12_visits_0_0.1 8 (12, .getfield 449, 3) rfl
theorem dX12_visits_15 : decode cX12_visits 15 = .ok (.iload_n 1, 1) := dr9 dk9_dX12_visits_0_0.1 9 (15, .iload_n 1, 1) rfl
theorem dX12_visits_16 : decode cX12_visits 16 = .ok (.iastore, 1) := dr9 dk9_dX12_visits_0_0.1 10 (16, .iastore, 1) rfl
theorem dX12_visits_17 : decode cX12_visits 17 = .ok (.aload_n 0, 1) := dr9 dk9_dX12_visits_0_0.1 11 (17, .aload_n 0, 1) rfl
theorem dX12_visits_18 : decode cX12_visits 18 = .ok (.dup, 1) := dr9 dk9_dX12_visits_0_0.1 12 (18, .dup, 1) rfl
theorem dX12_visits_19 : decode cX12_visits 19 = .ok (.getfield 449, 3) := dr9 dk9_dX12_visits_0_0.1 13 (19, .getfield 449, 3) rfl
theorem dX12_visits_22 : decode cX12_visits 22 = .ok (.iconst 1, 1) := dr9 dk9_dX12_visits_0_0.1 14 (22, .iconst 1, 1) rfl
theorem dX12_visits_23 : decode cX12_visits 23 = .ok (.iadd, 1) := dr9 dk9_dX12_visits_0_0.1 15 (23, .iadd, 1) rfl
theorem dX12_visits_24 : decode cX12_visits 24 = .ok (.putfield 449, 3) := dr9 dk9_dX12_visits_0_0.1 16 (24, .putfield 449, 3) rfl
theorem dX12_visits_27 : decode cX12_visits 27 = .ok (.iconst 0, 1) := dr9 dk9_dX12_visits_0_0.1 17 (27, .iconst 0, 1) rfl
theorem dX12_visits_28 : decode cX12_visits 28 = .ok (.istore_n 2, 1) := dr9 dk9_dX12_visits_0_0.1 18 (28, .istore_n 2, 1) rfl
theorem dX12_visits_29 : decode cX12_visits 29 = .ok (.iload_n 2, 1) := dr9 dk9_dX12_visits_0_0.1 19 (29, .iload_n 2, 1) rfl
theorem dX12_visits_30 : decode cX12_visits 30 = .ok (.aload_n 0, 1) := dr9 dk9_dX12_visits_0_0.1 20 (30, .aload_n 0, 1) rfl
theorem dX12_visits_31 : decode cX12_visits 31 = .ok (.getfield 86, 3) := dr9 dk9_dX12_visits_0_0.1 21 (31, .getfield 86, 3) rfl
theorem dX12_visits_34 : decode cX12_visits 34 = .ok (.bipush 24, 2) := dr9 dk9_dX12_visits_0_0.1 22 (34, .bipush 24, 2) rfl
theorem dX12_visits_36 : decode cX12_visits 36 = .ok (.aload_n 0, 1) := dr9 dk9_dX12_visits_0_0.1 23 (36, .aload_n 0, 1) rfl
theorem dX12_visits_37 : decode cX12_visits 37 = .ok (.getfield 286, 3) := dr9 dk9_dX12_visits_0_0.2.1 0 (37, .getfield 286, 3) rfl
theorem dX12_visits_40 : decode cX12_visits 40 = .ok (.imul, 1) := dr9 dk9_dX12_visits_0_0.2.1 1 (40, .imul, 1) rfl
theorem dX12_visits_41 : decode cX12_visits 41 = .ok (.iload_n 1, 1) := dr9 dk9_dX12_visits_0_0.2.1 2 (41, .iload_n 1, 1) rfl
theorem dX12_visits_42 : decode cX12_visits 42 = .ok (.iadd, 1) := dr9 dk9_dX12_visits_0_0.2.1 3 (42, .iadd, 1) rfl
theorem dX12_visits_43 : decode cX12_visits 43 = .ok (.iaload, 1) := dr9 dk9_dX12_visits_0_0.2.1 4 (43, .iaload, 1) rfl
theorem dX12_visits_44 : decode cX12_visits 44 = .ok (.if_icmp .ge 122, 3) := dr9 dk9_dX12_visits_0_0.2.1 5 (44, .if_icmp .ge 122, 3) rfl
theorem dX12_visits_166 : decode cX12_visits 166 = .ok (.aload_n 0, 1) := dr9 dk9_dX12_visits_0_0.2.1 6 (166, .aload_n 0, 1) rfl
theorem dX12_visits_167 : decode cX12_visits 167 = .ok (.dup, 1) := dr9 dk9_dX12_visits_0_0.2.1 7 (167, .dup, 1) rfl
theorem dX12_visits_168 : decode cX12_visits 168 = .ok (.getfield 449, 3) := dr9 dk9_dX12_visits_0_0.2.1 8 (168, .getfield 449, 3) rfl
theorem dX12_visits_171 : decode cX12_visits 171 = .ok (.iconst 1, 1) := dr9 dk9_dX12_visits_0_0.2.1 9 (171, .iconst 1, 1) rfl
theorem dX12_visits_172 : decode cX12_visits 172 = .ok (.isub, 1) := dr9 dk9_dX12_visits_0_0.2.1 10 (172, .isub, 1) rfl
theorem dX12_visits_173 : decode cX12_visits 173 = .ok (.putfield 449, 3) := dr9 dk9_dX12_visits_0_0.2.1 11 (173, .putfield 449, 3) rfl
theorem dX12_visits_176 : decode cX12_visits 176 = .ok (.aload_n 0, 1) := dr9 dk9_dX12_visits_0_0.2.1 12 (176, .aload_n 0, 1) rfl
theorem dX12_visits_177 : decode cX12_visits 177 = .ok (.getfield 216, 3) := dr9 dk9_dX12_visits_0_0.2.1 13 (177, .getfield 216, 3) rfl
theorem dX12_visits_180 : decode cX12_visits 180 = .ok (.iload_n 1, 1) := dr9 dk9_dX12_visits_0_0.2.1 14 (180, .iload_n 1, 1) rfl
theorem dX12_visits_181 : decode cX12_visits 181 = .ok (.iconst 2, 1) := dr9 dk9_dX12_visits_0_0.2.1 15 (181, .iconst 2, 1) rfl
theorem dX12_visits_182 : decode cX12_visits 182 = .ok (.iastore, 1) := dr9 dk9_dX12_visits_0_0.2.1 16 (182, .iastore, 1) rfl
theorem dX12_visits_183 : decode cX12_visits 183 = .ok (.return_, 1) := dr9 dk9_dX12_visits_0_0.2.1 17 (183, .return_, 1) rfl
theorem dX12_visits_47 : decode cX12_visits 47 = .ok (.bipush 8, 2) := dr9 dk9_dX12_visits_0_0.2.1 18 (47, .bipush 8, 2) rfl
theorem dX12_visits_49 : decode cX12_visits 49 = .ok (.bipush 24, 2) := dr9 dk9_dX12_visits_0_0.2.1 19 (49, .bipush 24, 2) rfl
theorem dX12_visits_51 : decode cX12_visits 51 = .ok (.aload_n 0, 1) := dr9 dk9_dX12_visits_0_0.2.1 20 (51, .aload_n 0, 1) rfl
theorem dX12_visits_52 : decode cX12_visits 52 = .ok (.getfield 286, 3) := dr9 dk9_dX12_visits_0_0.2.1 21 (52, .getfield 286, 3) rfl
theorem dX12_visits_55 : decode cX12_visits 55 = .ok (.imul, 1) := dr9 dk9_dX12_visits_0_0.2.1 22 (55, .imul, 1) rfl
theorem dX12_visits_56 : decode cX12_visits 56 = .ok (.iload_n 1, 1) := dr9 dk9_dX12_visits_0_0.2.1 23 (56, .iload_n 1, 1) rfl
theorem dX12_visits_57 : decode cX12_visits 57 = .ok (.iadd, 1) := dr9 dk9_dX12_visits_0_0.2.2.1 0 (57, .iadd, 1) rfl
theorem dX12_visits_58 : decode cX12_visits 58 = .ok (.imul, 1) := dr9 dk9_dX12_visits_0_0.2.2.1 1 (58, .imul, 1) rfl
theorem dX12_visits_59 : decode cX12_visits 59 = .ok (.iload_n 2, 1) := dr9 dk9_dX12_visits_0_0.2.2.1 2 (59, .iload_n 2, 1) rfl
theorem dX12_visits_60 : decode cX12_visits 60 = .ok (.iadd, 1) := dr9 dk9_dX12_visits_0_0.2.2.1 3 (60, .iadd, 1) rfl
theorem dX12_visits_61 : decode cX12_visits 61 = .ok (.istore_n 3, 1) := dr9 dk9_dX12_visits_0_0.2.2.1 4 (61, .istore_n 3, 1) rfl
theorem dX12_visits_62 : decode cX12_visits 62 = .ok (.aload_n 0, 1) := dr9 dk9_dX12_visits_0_0.2.2.1 5 (62, .aload_n 0, 1) rfl
theorem dX12_visits_63 : decode cX12_visits 63 = .ok (.getfield 92, 3) := dr9 dk9_dX12_visits_0_0.2.2.1 6 (63, .getfield 92, 3) rfl
theorem dX12_visits_66 : decode cX12_visits 66 = .ok (.iload_n 3, 1) := dr9 dk9_dX12_visits_0_0.2.2.1 7 (66, .iload_n 3, 1) rfl
theorem dX12_visits_67 : decode cX12_visits 67 = .ok (.baload, 1) := dr9 dk9_dX12_visits_0_0.2.2.1 8 (67, .baload, 1) rfl
theorem dX12_visits_68 : decode cX12_visits 68 = .ok (.ifCond .ne 92, 3) := dr9 dk9_dX12_visits_0_0.2.2.1 9 (68, .ifCond .ne 92, 3) rfl
theorem dX12_visits_160 : decode cX12_visits 160 = .ok (.iinc 2 1, 3) := dr9 dk9_dX12_visits_0_0.2.2.1 10 (160, .iinc 2 1, 3) rfl
theorem dX12_visits_163 : decode cX12_visits 163 = .ok (.goto (-134), 3) := dr9 dk9_dX12_visits_0_0.2.2.1 11 (163, .goto (-134), 3) rfl
theorem dX12_visits_71 : decode cX12_visits 71 = .ok (.aload_n 0, 1) := dr9 dk9_dX12_visits_0_0.2.2.1 12 (71, .aload_n 0, 1) rfl
theorem dX12_visits_72 : decode cX12_visits 72 = .ok (.getfield 213, 3) := dr9 dk9_dX12_visits_0_0.2.2.1 13 (72, .getfield 213, 3) rfl
theorem dX12_visits_75 : decode cX12_visits 75 = .ok (.bipush 8, 2) := dr9 dk9_dX12_visits_0_0.2.2.1 14 (75, .bipush 8, 2) rfl
theorem dX12_visits_77 : decode cX12_visits 77 = .ok (.iload_n 1, 1) := dr9 dk9_dX12_visits_0_0.2.2.1 15 (77, .iload_n 1, 1) rfl
theorem dX12_visits_78 : decode cX12_visits 78 = .ok (.imul, 1) := dr9 dk9_dX12_visits_0_0.2.2.1 16 (78, .imul, 1) rfl
theorem dX12_visits_79 : decode cX12_visits 79 = .ok (.iload_n 2, 1) := dr9 dk9_dX12_visits_0_0.2.2.1 17 (79, .iload_n 2, 1) rfl
theorem dX12_visits_80 : decode cX12_visits 80 = .ok (.iadd, 1) := dr9 dk9_dX12_visits_0_0.2.2.1 18 (80, .iadd, 1) rfl
theorem dX12_visits_81 : decode cX12_visits 81 = .ok (.baload, 1) := dr9 dk9_dX12_visits_0_0.2.2.1 19 (81, .baload, 1) rfl
theorem dX12_visits_82 : decode cX12_visits 82 = .ok (.ifCond .eq 6, 3) := dr9 dk9_dX12_visits_0_0.2.2.1 20 (82, .ifCond .eq 6, 3) rfl
theorem dX12_visits_88 : decode cX12_visits 88 = .ok (.iconst 0, 1) := dr9 dk9_dX12_visits_0_0.2.2.1 21 (88, .iconst 0, 1) rfl
theorem dX12_visits_89 : decode cX12_visits 89 = .ok (.istore 4, 2) := dr9 dk9_dX12_visits_0_0.2.2.1 22 (89, .istore 4, 2) rfl
theorem dX12_visits_91 : decode cX12_visits 91 = .ok (.iload 4, 2) := dr9 dk9_dX12_visits_0_0.2.2.1 23 (91, .iload 4, 2) rfl
theorem dX12_visits_93 : decode cX12_visits 93 = .ok (.aload_n 0, 1) := dr9 dk9_dX12_visits_0_0.2.2.2.1 0 (93, .aload_n 0, 1) rfl
theorem dX12_visits_94 : decode cX12_visits 94 = .ok (.getfield 62, 3) := dr9 dk9_dX12_visits_0_0.2.2.2.1 1 (94, .getfield 62, 3) rfl
theorem dX12_visits_97 : decode cX12_visits 97 = .ok (.aload_n 0, 1) := dr9 dk9_dX12_visits_0_0.2.2.2.1 2 (97, .aload_n 0, 1) rfl
theorem dX12_visits_98 : decode cX12_visits 98 = .ok (.getfield 286, 3) := dr9 dk9_dX12_visits_0_0.2.2.2.1 3 (98, .getfield 286, 3) rfl
theorem dX12_visits_101 : decode cX12_visits 101 = .ok (.iaload, 1) := dr9 dk9_dX12_visits_0_0.2.2.2.1 4 (101, .iaload, 1) rfl
theorem dX12_visits_102 : decode cX12_visits 102 = .ok (.if_icmp .ge 58, 3) := dr9 dk9_dX12_visits_0_0.2.2.2.1 5 (102, .if_icmp .ge 58, 3) rfl
theorem dX12_visits_105 : decode cX12_visits 105 = .ok (.aload_n 0, 1) := dr9 dk9_dX12_visits_0_0.2.2.2.1 6 (105, .aload_n 0, 1) rfl
theorem dX12_visits_106 : decode cX12_visits 106 = .ok (.iload_n 3, 1) := dr9 dk9_dX12_visits_0_0.2.2.2.1 7 (106, .iload_n 3, 1) rfl
theorem dX12_visits_107 : decode cX12_visits 107 = .ok (.iload 4, 2) := dr9 dk9_dX12_visits_0_0.2.2.2.1 8 (107, .iload 4, 2) rfl
theorem dX12_visits_109 : decode cX12_visits 109 = .ok (.invokevirtual 465, 3) := dr9 dk9_dX12_visits_0_0.2.2.2.1 9 (109, .invokevirtual 465, 3) rfl
theorem dX12_visits_112 : decode cX12_visits 112 = .ok (.ifCond .ne 6, 3) := dr9 dk9_dX12_visits_0_0.2.2.2.1 10 (112, .ifCond .ne 6, 3) rfl
theorem dX12_visits_118 : decode cX12_visits 118 = .ok (.aload_n 0, 1) := dr9 dk9_dX12_visits_0_0.2.2.2.1 11 (118, .aload_n 0, 1) rfl
theorem dX12_visits_119 : decode cX12_visits 119 = .ok (.getfield 216, 3) := dr9 dk9_dX12_visits_0_0.2.2.2.1 12 (119, .getfield 216, 3) rfl
theorem dX12_visits_122 : decode cX12_visits 122 = .ok (.iload 4, 2) := dr9 dk9_dX12_visits_0_0.2.2.2.1 13 (122, .iload 4, 2) rfl
theorem dX12_visits_124 : decode cX12_visits 124 = .ok (.iaload, 1) := dr9 dk9_dX12_visits_0_0.2.2.2.1 14 (124, .iaload, 1) rfl
theorem dX12_visits_125 : decode cX12_visits 125 = .ok (.iconst 1, 1) := dr9 dk9_dX12_visits_0_0.2.2.2.1 15 (125, .iconst 1, 1) rfl
theorem dX12_visits_126 : decode cX12_visits 126 = .ok (.if_icmp .ne 12, 3) := dr9 dk9_dX12_visits_0_0.2.2.2.1 16 (126, .if_icmp .ne 12, 3) rfl
theorem dX12_visits_138 : decode cX12_visits 138 = .ok (.aload_n 0, 1) := dr9 dk9_dX12_visits_0_0.2.2.2.1 17 (138, .aload_n 0, 1) rfl
theorem dX12_visits_139 : decode cX12_visits 139 = .ok (.getfield 216, 3) := dr9 dk9_dX12_visits_0_0.2.2.2.1 18 (139, .getfield 216, 3) rfl
theorem dX12_visits_142 : decode cX12_visits 142 = .ok (.iload 4, 2) := dr9 dk9_dX12_visits_0_0.2.2.2.1 19 (142, .iload 4, 2) rfl
theorem dX12_visits_144 : decode cX12_visits 144 = .ok (.iaload, 1) := dr9 dk9_dX12_visits_0_0.2.2.2.1 20 (144, .iaload, 1) rfl
theorem dX12_visits_145 : decode cX12_visits 145 = .ok (.ifCond .ne 9, 3) := dr9 dk9_dX12_visits_0_0.2.2.2.1 21 (145, .ifCond .ne 9, 3) rfl
theorem dX12_visits_154 : decode cX12_visits 154 = .ok (.iinc 4 1, 3) := dr9 dk9_dX12_visits_0_0.2.2.2.1 22 (154, .iinc 4 1, 3) rfl
theorem dX12_visits_157 : decode cX12_visits 157 = .ok (.goto (-66), 3) := dr9 dk9_dX12_visits_0_0.2.2.2.1 23 (157, .goto (-66), 3) rfl
theorem dX12_visits_148 : decode cX12_visits 148 = .ok (.aload_n 0, 1) := dr9 dk9_dX12_visits_0_0.2.2.2.2 0 (148, .aload_n 0, 1) rfl
theorem dX12_visits_149 : decode cX12_visits 149 = .ok (.iload 4, 2) := dr9 dk9_dX12_visits_0_0.2.2.2.2 1 (149, .iload 4, 2) rfl
theorem dX12_visits_151 : decode cX12_visits 151 = .ok (.invokevirtual 452, 3) := dr9 dk9_dX12_visits_0_0.2.2.2.2 2 (151, .invokevirtual 452, 3) rfl
theorem dX12_visits_129 : decode cX12_visits 129 = .ok (.aload_n 0, 1) := dr9 dk9_dX12_visits_0_0.2.2.2.2 3 (129, .aload_n 0, 1) rfl
theorem dX12_visits_130 : decode cX12_visits 130 = .ok (.iload 4, 2) := dr9 dk9_dX12_visits_0_0.2.2.2.2 4 (130, .iload 4, 2) rfl
theorem dX12_visits_132 : decode cX12_visits 132 = .ok (.invokevirtual 468, 3) := dr9 dk9_dX12_visits_0_0.2.2.2.2 5 (132, .invokevirtual 468, 3) rfl
theorem dX12_visits_135 : decode cX12_visits 135 = .ok (.goto 19, 3) := dr9 dk9_dX12_visits_0_0.2.2.2.2 6 (135, .goto 19, 3) rfl
theorem dX12_visits_115 : decode cX12_visits 115 = .ok (.goto 39, 3) := dr9 dk9_dX12_visits_0_0.2.2.2.2 7 (115, .goto 39, 3) rfl
theorem dX12_visits_85 : decode cX12_visits 85 = .ok (.goto 75, 3) := dr9 dk9_dX12_visits_0_0.2.2.2.2 8 (85, .goto 75, 3) rfl
abbrev q_s_visits (D : va_G) (ks : KS) (ad : Nat → Nat) (kk : Nat → ClassId) (V : Vf) (L : Lf) (p0 : Int32) (FM : Int) (A : Nat → Prop) : Array Value → State → Outcome → State → Prop := va_Qv (fun (u : Vf × Lf) => rgd bM u.1 ∧ agr [(0, 81), (0, 89)] [80, 82, 83, 84, 85, 87, 88] V u.1 ∧ u.2 = L ∧ ((u.1 0 89).toInt = (V 0 89).toInt) ∧ ((cz u.1 24 : Int) + 1 ≤ (cz V 24 : Int)) ∧ ((u.1 0 81).toInt + 192 * (cz u.1 24 : Int) ≤ FM) ∧ ((V 0 81).toInt ≤ (u.1 0 81).toInt) ∧ (visP V u.1) ∧ (c0k V u.1)) (fun u t => gq D A (mw ad kk ks.1 u.1 u.2) (mty kk) t) A
def K_s_visits (l : Launch) (D : va_G) (ks : KS) (dd : Nat) : Prop := ∀ (sz : Nat) (ad : Nat → Nat) (kk : Nat → ClassId) (V : Vf) (L : Lf) (p0 : Int32) (FM : Int) (hMV : rgd bM V) (rg_p0 : 0 ≤ p0.toInt ∧ p0.toInt ≤ 23) (v1 : (cz V 24 : Int) ≤ (dd : Int)) (v2 : (V 0 89).toInt + (cz V 24 : Int) ≤ 24) (v3 : (V 87 (Int32.toNatClampNeg p0)).toInt = 0) (v4 : WY V) (v5 : (V 0 81).toInt + 192 * (cz V 24 : Int) ≤ FM) (v7 : FM ≤ 999000) (v6 : p0.toInt < (V 19 (nwh V)).toInt) (tb : TB V) , Met l yX12_visits (Cond.code yX12_visits cX12_visits 5 none :: GW) (rK 8 260 dd) (va_Pc [.ref (ad 0), .int p0] (gp D ks (mw ad kk ks.1 V L) (mty kk) sz)) (q_s_visits D ks ad kk V L p0 FM (va_A (mw ad kk ks.1 V L) sz)) 0 0 (va_A (mw ad kk ks.1 V L) sz)
set_option maxHeartbeats 4000000 in
set_option maxRecDepth 100000 in
theorem s_visits {l : Launch} {D : va_G} {ks : KS} {dd : Nat} (hk_s_visits : ∀ d9, dd = d9 + 1 → K_s_visits l D ks d9) : K_s_visits l D ks dd := by
  intro sz ad kk V L p0 FM hMV rg_p0 v1 v2 v3 v4 v5 v7 v6 tb
  refine g_met (q_s_visits D ks ad kk V L p0 FM) (by decide) (Nat.le_of_ble_eq_true rfl) ?_
  intro p e s m below meth c A ls H locs hx hb hr hml hown hg hlocks hin hnw hgk hP hK hD hS hA hl
  have hown : s.vm.findClass RX12 = some m.cls := hown
  have hl : lv_has ls 5 [(0, .ref (ad 0)), (1, .int p0)] := hl
  have hP : va_P D vwCl (mw ad kk ks.1 V L) H := hP
  have hD : va_D A (mw ad kk ks.1 V L) := hD
  have hK : va_K D vwCl (mty kk) s := hK
  have agV : agr [(0, 81), (0, 89)] [80, 82, 83, 84, 85, 87, 88] V V := agr.rf
  have r1 : 0 ≤ ((V 0 89)).toInt ∧ ((V 0 89)).toInt ≤ 24 := hMV 0 89
  have r2 : 0 ≤ ((V 87 (Int32.toNatClampNeg p0))).toInt ∧ ((V 87 (Int32.toNatClampNeg p0))).toInt ≤ 2 := hMV 87 (Int32.toNatClampNeg p0)
  have r3 : 0 ≤ ((V 0 81)).toInt ∧ ((V 0 81)).toInt ≤ 1000000 := hMV 0 81
  have v6b : p0.toInt < (V 19 (Int32.toNatClampNeg (V 0 11))).toInt := v6
  have v6c : p0.toInt < (V 19 (nwh V)).toInt := v6
  have czl := cz_le V 24
  have czp := cz_pos (V := V) (k := Int32.toNatClampNeg p0) (n := 24) (by have h9 := i_clamp (x := p0) rfl (by (first | exact om_eafa9039069c rg_p0.1 | omega)); omega) v3
  refine lv_aload_n hx hb dX12_visits_0 rfl (lv_at hl 0 rfl) ?_
  refine va_get (D := D) (ci := 12) (v := .ref (ad 87)) (C := RX12) (T := TX12) (N := 100) hx hb hg inX12 hown hK hP 0 rfl rfl 87 (by decide) (hg _ w1793) (fun _ h9 => h9) rfl dX12_visits_1 ?_
  refine lv_iload_n hx hb dX12_visits_4 rfl (lv_at hl 1 rfl) ?_
  refine lv_iconst (v := 1) hx hb dX12_visits_5 (by decide) ?_
  refine va_iast (D := D) (i := p0) (x := 1) hx hb hK hP hD hS 63 62 rfl rfl (i_in (a := p0.toInt) rfl (by first | exact om_dbb25e99819b rg_p0.1 rg_p0.2 | first | omega | ((try (have i_tb := Imp.go tb (by omega))); (try (have i_v6 := Imp.go v6 (by omega))); (try (have i_v4 := Imp.go v4 (by omega))); (try (have i_v4 := Imp.go v4 (by omega))); (try (have i_v6 := Imp.go v6 (by omega))); (try (have i_tb := Imp.go tb (by omega))); omega))) dX12_visits_6 (fun H locs hP hD hS => ?_)
  obtain ⟨V4, hV4⟩ : ∃ z, z = up2 V 87 (Int32.toNatClampNeg p0) 1 := ⟨_, rfl⟩
  have hP : va_P D vwCl (mw ad kk ks.1 V4 L) H := by rw [hV4]; exact hP
  have hD : va_D A (mw ad kk ks.1 V4 L) := by rw [hV4]; exact hD
  have hMV4 : rgd bM V4 := hMV.put hV4 (show 0 ≤ Int32.toInt 1 ∧ Int32.toInt 1 ≤ 2 from by decide)
  have agV4 : agr [(0, 81), (0, 89)] [80, 82, 83, 84, 85, 87, 88] V V4 := agV.up hV4 rfl
  refine lv_aload_n hx hb dX12_visits_7 rfl (lv_at hl 0 rfl) ?_
  refine va_get (D := D) (ci := 12) (v := .ref (ad 88)) (C := RX12) (T := TX12) (N := 100) hx hb hg inX12 hown hK hP 0 rfl rfl 88 (by decide) (hg _ w1794) (fun _ h9 => h9) rfl dX12_visits_8 ?_
  refine lv_aload_n hx hb dX12_visits_11 rfl (lv_at hl 0 rfl) ?_
  refine va_get (D := D) (ci := 12) (v := .int (V4 0 89)) (C := RX12) (T := TX12) (N := 100) hx hb hg inX12 hown hK hP 0 rfl rfl 89 (by decide) (hg _ w1795) (fun _ h9 => h9) rfl dX12_visits_12 ?_
  refine g_top (v := (V 0 89)) (up2_o hV4 (by decide)) ?_
  refine lv_iload_n hx hb dX12_visits_15 rfl (lv_at hl 1 rfl) ?_
  refine va_iast (D := D) (i := (V 0 89)) (x := p0) hx hb hK hP hD hS 64 63 rfl rfl (i_in (a := ((V 0 89)).toInt) rfl (by first | exact om_f5912bdc5b76 v2 r1.1 czp | first | omega | ((try (have i_tb := Imp.go tb (by omega))); (try (have i_v6 := Imp.go v6 (by omega))); (try (have i_v4 := Imp.go v4 (by omega))); (try (have i_v4 := Imp.go v4 (by omega))); (try (have i_v6 := Imp.go v6 (by omega))); (try (have i_tb := Imp.go tb (by omega))); omega))) dX12_visits_16 (fun H locs hP hD hS => ?_)
  obtain ⟨V5, hV5⟩ : ∃ z, z = up2 V4 88 (Int32.toNatClampNeg (V 0 89)) p0 := ⟨_, rfl⟩
  have hP : va_P D vwCl (mw ad kk ks.1 V5 L) H := by rw [hV5]; exact hP
  have hD : va_D A (mw ad kk ks.1 V5 L) := by rw [hV5]; exact hD
  have hMV5 : rgd bM V5 := hMV4.put hV5 (show 0 ≤ p0.toInt ∧ p0.toInt ≤ 23 from by first | exact om_d3435e1acec6 rg_p0.1 rg_p0.2 | first | omega | ((try (have i_tb := Imp.go tb (by omega))); (try (have i_v6 := Imp.go v6 (by omega))); (try (have i_v4 := Imp.go v4 (by omega))); (try (have i_v4 := Imp.go v4 (by omega))); (try (have i_v6 := Imp.go v6 (by omega))); (try (have i_tb := Imp.go tb (by omega))); omega))
  have agV5 : agr [(0, 81), (0, 89)] [80, 82, 83, 84, 85, 87, 88] V V5 := agV4.up hV5 rfl
  refine lv_aload_n hx hb dX12_visits_17 rfl (lv_at hl 0 rfl) ?_
  refine lv_dup hx hb dX12_visits_18 rfl ?_
  refine va_get (D := D) (ci := 12) (v := .int (V5 0 89)) (C := RX12) (T := TX12) (N := 100) hx hb hg inX12 hown hK hP 0 rfl rfl 89 (by decide) (hg _ w1795) (fun _ h9 => h9) rfl dX12_visits_19 ?_
  refine g_top (v := (V 0 89)) ((up2_o hV5 (by decide)).trans (up2_o hV4 (by decide))) ?_
  refine lv_iconst (v := 1) hx hb dX12_visits_22 (by decide) ?_
  refine lv_iadd hx hb dX12_visits_23 ?_
  refine lv_topi (fun z6 ez6 => ?_)
  have hz6 : z6.toInt = ((V 0 89)).toInt + 1 := i_add ez6 rfl (by decide) (by (first | exact om_e66fa98a5d27 r1.1 r1.2 | omega))
  refine va_put (D := D) (ci := 12) (v := .int z6) (ty := tyX12 89) (C := RX12) (T := TX12) (N := 100) hx hb hg inX12 tyX12 tyX12_ok nmX12 hown hK hP hD hS 0 rfl rfl 89 (by decide) (hg _ w1795) (fun _ h9 => h9) rfl (tyX12_ok 89 (by decide)) rfl rfl (Nat.le_of_ble_eq_true rfl) dX12_visits_24 (fun H locs hP hD hS => ?_)
  obtain ⟨V7, hV7⟩ : ∃ z, z = up2 V5 0 89 z6 := ⟨_, rfl⟩
  have hP : va_P D vwCl (mw ad kk ks.1 V7 L) H := by rw [hV7]; exact hP
  have hD : va_D A (mw ad kk ks.1 V7 L) := by rw [hV7]; exact hD
  have hMV7 : rgd bM V7 := hMV5.put hV7 (show 0 ≤ z6.toInt ∧ z6.toInt ≤ 24 from by first | exact om_5aa64c556f18 v2 r1.1 czp hz6 | first | omega | ((try (have i_tb := Imp.go tb (by omega))); (try (have i_v6 := Imp.go v6 (by omega))); (try (have i_v4 := Imp.go v4 (by omega))); (try (have i_v4 := Imp.go v4 (by omega))); (try (have i_v6 := Imp.go v6 (by omega))); (try (have i_tb := Imp.go tb (by omega))); omega))
  have agV7 : agr [(0, 81), (0, 89)] [80, 82, 83, 84, 85, 87, 88] V V7 := agV5.up hV7 rfl
  refine lv_iconst (v := 0) hx hb dX12_visits_27 (by decide) ?_
  refine lv_istore_n (lv' := [(2, .int 0), (0, .ref (ad 0)), (1, .int p0)]) hx hb dX12_visits_28 rfl hl (by decide) rfl (fun ls hl => ?_)
  have lp10 : ∀ (fulp10 : Nat) (y8 : Int32) (V9 : Vf) (H : Heap) (locs : List Loc) (ls : Array Slot), 0 ≤ y8.toInt ∧ y8.toInt ≤ 8 → (V9 0 89).toInt = (V 0 89).toInt + 1 → (cz V9 24 : Int) + 1 ≤ (cz V 24 : Int) → (V9 0 81).toInt + 192 * (cz V9 24 : Int) + 192 ≤ FM + 24 * y8.toInt → (V 0 81).toInt ≤ (V9 0 81).toInt → visI V V9 (Int32.toNatClampNeg p0) → c0k V V9 → 8 - y8.toInt < (fulp10 : Int) → agr [(0, 81), (0, 89)] [80, 82, 83, 84, 85, 87, 88] V7 V9 → rgd bM V9 → va_P D vwCl (mw ad kk ks.1 V9 L) H → va_D A (mw ad kk ks.1 V9 L) → va_S A s.heap H locs → lv_has ls 5 [(2, .int y8), (0, .ref (ad 0)), (1, .int p0)] → W p l e (rK 8 260 dd) s m ([.ref (ad 0), .int p0] : List Value).toArray below meth c H locs 0 0 (MQ below (q_s_visits D ks ad kk V L p0 FM A) ([.ref (ad 0), .int p0] : List Value).toArray s 0 0 A) (F0 m 29 ls []) := by
    intro fulp10
    induction fulp10 with
    | zero =>
      intro y8 V9 H locs ls klp10_0 xlp10_0 xlp10_1 xlp10_2 xlp10_3 xlp10_4 xlp10_5 hn ajV9 hMV9 hP hD hS hl
      exfalso; (first | exact om_e2d570575604 klp10_0.2 hn | omega)
    | succ fulp10 ihlp10 =>
      intro y8 V9 H locs ls klp10_0 xlp10_0 xlp10_1 xlp10_2 xlp10_3 xlp10_4 xlp10_5 hn ajV9 hMV9 hP hD hS hl
      have agV9 : agr [(0, 81), (0, 89)] [80, 82, 83, 84, 85, 87, 88] V V9 := agV7.tr ajV9 (by decide) (by decide)
      have r11 : 0 ≤ ((V9 0 89)).toInt ∧ ((V9 0 89)).toInt ≤ 24 := hMV9 0 89
      have r12 : 0 ≤ ((V9 0 81)).toInt ∧ ((V9 0 81)).toInt ≤ 1000000 := hMV9 0 81
      refine lv_iload_n hx hb dX12_visits_29 rfl (lv_at hl 0 rfl) ?_
      refine lv_aload_n hx hb dX12_visits_30 rfl (lv_at hl 1 rfl) ?_
      refine va_get (D := D) (ci := 12) (v := .ref (ad 27)) (C := RX12) (T := TX12) (N := 100) hx hb hg inX12 hown hK hP 0 rfl rfl 27 (by decide) (hg _ w1733) (fun _ h9 => h9) rfl dX12_visits_31 ?_
      refine lv_bipush (v := 24) hx hb dX12_visits_34 (by decide) ?_
      refine lv_aload_n hx hb dX12_visits_36 rfl (lv_at hl 1 rfl) ?_
      refine va_get (D := D) (ci := 12) (v := .int (V9 0 11)) (C := RX12) (T := TX12) (N := 100) hx hb hg inX12 hown hK hP 0 rfl rfl 11 (by decide) (hg _ w1717) (fun _ h9 => h9) rfl dX12_visits_37 ?_
      refine g_top (v := (V 0 11)) ((ajV9 0 11 rfl).trans ((up2_k hV7 (by decide)).trans ((up2_o hV5 (by decide)).trans (up2_o hV4 (by decide))))) ?_
      have r13 : 0 ≤ ((V 0 11)).toInt ∧ ((V 0 11)).toInt ≤ 1 := hMV 0 11
      refine lv_imul hx hb dX12_visits_40 ?_
      refine lv_topi (fun z14 ez14 => ?_)
      have hz14 : z14.toInt = 24 * ((V 0 11)).toInt := i_mul ez14 (by decide) rfl (by (first | exact om_3f8aba7b6ce1 r13.1 r13.2 | omega))
      refine lv_iload_n hx hb dX12_visits_41 rfl (lv_at hl 2 rfl) ?_
      refine lv_iadd hx hb dX12_visits_42 ?_
      refine lv_topi (fun z15 ez15 => ?_)
      have hz15 : z15.toInt = z14.toInt + p0.toInt := i_add ez15 rfl rfl (by (first | exact om_6c84dfc0d33f rg_p0.1 rg_p0.2 r13.1 r13.2 hz14 | omega))
      refine va_iald (D := D) (i := z15) hx hb hK hP 20 19 rfl rfl (i_in (a := z15.toInt) rfl (by first | exact om_cf341bf82a51 rg_p0.1 rg_p0.2 r13.1 r13.2 hz14 hz15 | first | omega | ((try (have i_tb := Imp.go tb (by omega))); (try (have i_v6 := Imp.go v6 (by omega))); (try (have i_v4 := Imp.go v4 (by omega))); (try (have i_v4 := Imp.go v4 (by omega))); (try (have i_v6 := Imp.go v6 (by omega))); (try (have i_tb := Imp.go tb (by omega))); omega))) dX12_visits_43 ?_
      refine g_top (v := (V 27 (Int32.toNatClampNeg z15))) ((ajV9 27 (Int32.toNatClampNeg z15) rfl).trans ((up2_o hV7 (by decide)).trans ((up2_o hV5 (by decide)).trans (up2_o hV4 (by decide))))) ?_
      have r16 : 0 ≤ ((V 27 (Int32.toNatClampNeg z15))).toInt ∧ ((V 27 (Int32.toNatClampNeg z15))).toInt ≤ 8 := hMV 27 (Int32.toNatClampNeg z15)
      refine lv_icmp_ge (tgt := 166) hx hb dX12_visits_44 (by decide) (fun c17 => ?_) (fun c17 => ?_)
      · skip
        have f18 : ((V 27 (Int32.toNatClampNeg z15))).toInt ≤ y8.toInt := b_le rfl rfl c17
        refine lv_aload_n hx hb dX12_visits_166 rfl (lv_at hl 1 rfl) ?_
        refine lv_dup hx hb dX12_visits_167 rfl ?_
        refine va_get (D := D) (ci := 12) (v := .int (V9 0 89)) (C := RX12) (T := TX12) (N := 100) hx hb hg inX12 hown hK hP 0 rfl rfl 89 (by decide) (hg _ w1795) (fun _ h9 => h9) rfl dX12_visits_168 ?_
        refine lv_iconst (v := 1) hx hb dX12_visits_171 (by decide) ?_
        refine lv_isub hx hb dX12_visits_172 ?_
        refine lv_topi (fun z19 ez19 => ?_)
        have hz19 : z19.toInt = ((V9 0 89)).toInt - 1 := i_sub ez19 rfl (by decide) (by (first | exact om_6e1157ec7ad9 v2 r1.1 xlp10_0 xlp10_1 | omega))
        refine va_put (D := D) (ci := 12) (v := .int z19) (ty := tyX12 89) (C := RX12) (T := TX12) (N := 100) hx hb hg inX12 tyX12 tyX12_ok nmX12 hown hK hP hD hS 0 rfl rfl 89 (by decide) (hg _ w1795) (fun _ h9 => h9) rfl (tyX12_ok 89 (by decide)) rfl rfl (Nat.le_of_ble_eq_true rfl) dX12_visits_173 (fun H locs hP hD hS => ?_)
        obtain ⟨V20, hV20⟩ : ∃ z, z = up2 V9 0 89 z19 := ⟨_, rfl⟩
        have hP : va_P D vwCl (mw ad kk ks.1 V20 L) H := by rw [hV20]; exact hP
        have hD : va_D A (mw ad kk ks.1 V20 L) := by rw [hV20]; exact hD
        have hMV20 : rgd bM V20 := hMV9.put hV20 (show 0 ≤ z19.toInt ∧ z19.toInt ≤ 24 from by first | exact om_d876c47cf84f v2 r1.1 xlp10_0 xlp10_1 hz19 | first | omega | ((try (have i_tb := Imp.go tb (by omega))); (try (have i_v6 := Imp.go v6 (by omega))); (try (have i_v4 := Imp.go v4 (by omega))); (try (have i_v4 := Imp.go v4 (by omega))); (try (have i_v6 := Imp.go v6 (by omega))); (try (have i_tb := Imp.go tb (by omega))); omega))
        have agV20 : agr [(0, 81), (0, 89)] [80, 82, 83, 84, 85, 87, 88] V V20 := agV9.up hV20 rfl
        refine lv_aload_n hx hb dX12_visits_176 rfl (lv_at hl 1 rfl) ?_
        refine va_get (D := D) (ci := 12) (v := .ref (ad 87)) (C := RX12) (T := TX12) (N := 100) hx hb hg inX12 hown hK hP 0 rfl rfl 87 (by decide) (hg _ w1793) (fun _ h9 => h9) rfl dX12_visits_177 ?_
        refine lv_iload_n hx hb dX12_visits_180 rfl (lv_at hl 2 rfl) ?_
        refine lv_iconst (v := 2) hx hb dX12_visits_181 (by decide) ?_
        refine va_iast (D := D) (i := p0) (x := 2) hx hb hK hP hD hS 63 62 rfl rfl (i_in (a := p0.toInt) rfl (by first | exact om_dbb25e99819b rg_p0.1 rg_p0.2 | first | omega | ((try (have i_tb := Imp.go tb (by omega))); (try (have i_v6 := Imp.go v6 (by omega))); (try (have i_v4 := Imp.go v4 (by omega))); (try (have i_v4 := Imp.go v4 (by omega))); (try (have i_v6 := Imp.go v6 (by omega))); (try (have i_tb := Imp.go tb (by omega))); omega))) dX12_visits_182 (fun H locs hP hD hS => ?_)
        obtain ⟨V21, hV21⟩ : ∃ z, z = up2 V20 87 (Int32.toNatClampNeg p0) 2 := ⟨_, rfl⟩
        have hP : va_P D vwCl (mw ad kk ks.1 V21 L) H := by rw [hV21]; exact hP
        have hD : va_D A (mw ad kk ks.1 V21 L) := by rw [hV21]; exact hD
        have hMV21 : rgd bM V21 := hMV20.put hV21 (show 0 ≤ Int32.toInt 2 ∧ Int32.toInt 2 ≤ 2 from by decide)
        have agV21 : agr [(0, 81), (0, 89)] [80, 82, 83, 84, 85, 87, 88] V V21 := agV20.up hV21 rfl
        have pq22 : (V21 0 89).toInt = z19.toInt := congrArg Int32.toInt ((up2_o hV21 (by decide)).trans (up2_s hV20))
        have cz23 : cz V20 24 = cz V9 24 := cz_o hV20 (by decide)
        have cz24 : cz V21 24 ≤ cz V20 24 := (cz_put hV21 (by decide) 24).1
        have pq25 : (V21 0 81).toInt = ((V9 0 81)).toInt := congrArg Int32.toInt ((up2_o hV21 (by decide)).trans (up2_k hV20 (by decide)))
        have c026 : c0k V V21 := (c0k.tr (V := V) (W := V20) (X := V21) (c0k.tr (V := V) (W := V9) (X := V20) xlp10_5 (Or.inl (up2_o hV20 (by decide))) agV9 ⟨rfl, fun _ => rfl, fun _ => rfl, fun _ => rfl, fun _ => rfl, fun _ => rfl, fun _ => rfl⟩) (Or.inl (up2_o hV21 (by decide))) agV20 ⟨rfl, fun _ => rfl, fun _ => rfl, fun _ => rfl, fun _ => rfl, fun _ => rfl, fun _ => rfl⟩)
        exact W.vret hx hb hr (fun t ht hW => ⟨⟨(V21, L), rfl, ⟨hMV21, agV21, rfl, (show (V21 0 89).toInt = (V 0 89).toInt from by first | exact om_688aeadf4b2f xlp10_0 hz19 pq22 | first | omega | ((try (have i_tb := Imp.go tb (by omega))); (try (have i_v6 := Imp.go v6 (by omega))); (try (have i_v4 := Imp.go v4 (by omega))); (try (have i_v4 := Imp.go v4 (by omega))); (try (have i_v6 := Imp.go v6 (by omega))); (try (have i_tb := Imp.go tb (by omega))); omega)), (show (cz V21 24 : Int) + 1 ≤ (cz V 24 : Int) from by first | exact om_3dc1647238e7 xlp10_1 cz23 cz24 | first | omega | ((try (have i_tb := Imp.go tb (by omega))); (try (have i_v6 := Imp.go v6 (by omega))); (try (have i_v4 := Imp.go v4 (by omega))); (try (have i_v4 := Imp.go v4 (by omega))); (try (have i_v6 := Imp.go v6 (by omega))); (try (have i_tb := Imp.go tb (by omega))); omega)), (show (V21 0 81).toInt + 192 * (cz V21 24 : Int) ≤ FM from by first | exact om_6fbb89b1a08a klp10_0.2 xlp10_2 cz23 cz24 pq25 | first | omega | ((try (have i_tb := Imp.go tb (by omega))); (try (have i_v6 := Imp.go v6 (by omega))); (try (have i_v4 := Imp.go v4 (by omega))); (try (have i_v4 := Imp.go v4 (by omega))); (try (have i_v6 := Imp.go v6 (by omega))); (try (have i_tb := Imp.go tb (by omega))); omega)), (show (V 0 81).toInt ≤ (V21 0 81).toInt from by first | exact om_a40cdd94799e xlp10_3 pq25 | first | omega | ((try (have i_tb := Imp.go tb (by omega))); (try (have i_v6 := Imp.go v6 (by omega))); (try (have i_v4 := Imp.go v4 (by omega))); (try (have i_v4 := Imp.go v4 (by omega))); (try (have i_v6 := Imp.go v6 (by omega))); (try (have i_tb := Imp.go tb (by omega))); omega)), (visP.fin xlp10_4 hV20 hV21 rfl (by decide)), c026⟩, by rw [ht]; exact hP, va_K.moved hW.alike hK, hD⟩, hS.F ht⟩) hS.2.2 dX12_visits_183
      · skip
        have f27 : y8.toInt < ((V 27 (Int32.toNatClampNeg z15))).toInt := b_nle rfl rfl c17
        refine lv_bipush (v := 8) hx hb dX12_visits_47 (by decide) ?_
        refine lv_bipush (v := 24) hx hb dX12_visits_49 (by decide) ?_
        refine lv_aload_n hx hb dX12_visits_51 rfl (lv_at hl 1 rfl) ?_
        refine va_get (D := D) (ci := 12) (v := .int (V9 0 11)) (C := RX12) (T := TX12) (N := 100) hx hb hg inX12 hown hK hP 0 rfl rfl 11 (by decide) (hg _ w1717) (fun _ h9 => h9) rfl dX12_visits_52 ?_
        refine g_top (v := (V 0 11)) ((ajV9 0 11 rfl).trans ((up2_k hV7 (by decide)).trans ((up2_o hV5 (by decide)).trans (up2_o hV4 (by decide))))) ?_
        refine lv_imul hx hb dX12_visits_55 ?_
        refine lv_topi (fun z28 ez28 => ?_)
        have hz28 : z28.toInt = 24 * ((V 0 11)).toInt := i_mul ez28 (by decide) rfl (by (first | exact om_3f8aba7b6ce1 r13.1 r13.2 | omega))
        refine lv_iload_n hx hb dX12_visits_56 rfl (lv_at hl 2 rfl) ?_
        refine lv_iadd hx hb dX12_visits_57 ?_
        refine lv_topi (fun z29 ez29 => ?_)
        have hz29 : z29.toInt = z28.toInt + p0.toInt := i_add ez29 rfl rfl (by (first | exact om_6c84dfc0d33f rg_p0.1 rg_p0.2 r13.1 r13.2 hz28 | omega))
        refine lv_imul hx hb dX12_visits_58 ?_
        refine lv_topi (fun z30 ez30 => ?_)
        have hz30 : z30.toInt = 8 * z29.toInt := i_mul ez30 (by decide) rfl (by (first | exact om_43f57588f3c1 rg_p0.1 rg_p0.2 r13.1 r13.2 hz28 hz29 | omega))
        refine lv_iload_n hx hb dX12_visits_59 rfl (lv_at hl 0 rfl) ?_
        refine lv_iadd hx hb dX12_visits_60 ?_
        refine lv_topi (fun z31 ez31 => ?_)
        have hz31 : z31.toInt = z30.toInt + y8.toInt := i_add ez31 rfl rfl (by (first | exact om_38bc6d147a26 rg_p0.1 rg_p0.2 klp10_0.1 r13.1 r13.2 r16.2 f27 hz28 hz29 hz30 | omega))
        refine lv_istore_n (lv' := [(3, .int z31), (2, .int y8), (0, .ref (ad 0)), (1, .int p0)]) hx hb dX12_visits_61 rfl hl (by decide) rfl (fun ls hl => ?_)
        have kn : (nwh V : Int) = (V 0 11).toInt := i_clamp (x := V 0 11) rfl (by (first | exact om_eafa9039069c r13.1 | omega))
        have kp0 := i_clamp (x := p0) rfl (by (first | exact om_eafa9039069c rg_p0.1 | omega))
        have kl2 := i_clamp (x := y8) rfl (by (first | exact om_eafa9039069c klp10_0.1 | omega))
        have ki : Int32.toNatClampNeg z15 = 24 * nwh V + Int32.toNatClampNeg p0 := by have h9 := i_clamp (x := z15) rfl (by (first | exact om_11587583f9f8 rg_p0.1 r13.1 hz14 hz15 | omega)); (first | exact om_513b2bd4b43e hz14 hz15 kn kp0 h9 | omega)
        have k3 : Int32.toNatClampNeg z31 = 8 * (24 * nwh V + Int32.toNatClampNeg p0) + Int32.toNatClampNeg y8 := by have h9 := i_clamp (x := z31) rfl (by (first | exact om_0223b868096c rg_p0.1 klp10_0.1 r13.1 hz28 hz29 hz30 hz31 | omega)); (first | exact om_ae2f849a0b98 hz28 hz29 hz30 hz31 kn kp0 kl2 h9 | omega)
        have q27 : (V 27 (24 * nwh V + Int32.toNatClampNeg p0)).toInt = (V 27 (Int32.toNatClampNeg z15)).toInt := by rw [ki]
        have nt : 0 ≤ (V 28 (Int32.toNatClampNeg z31)).toInt := by rw [k3]; exact (((show TBL V (nwh V) _ from tb).1 (Int32.toNatClampNeg p0) (by omega)).2.2.2 (Int32.toNatClampNeg y8) (by omega)).1
        refine lv_aload_n hx hb dX12_visits_62 rfl (lv_at hl 2 rfl) ?_
        refine va_get (D := D) (ci := 12) (v := .ref (ad 29)) (C := RX12) (T := TX12) (N := 100) hx hb hg inX12 hown hK hP 0 rfl rfl 29 (by decide) (hg _ w1735) (fun _ h9 => h9) rfl dX12_visits_63 ?_
        refine lv_iload_n hx hb dX12_visits_66 rfl (lv_at hl 0 rfl) ?_
        refine va_zald (D := D) (i := z31) hx hb hK hP 22 21 rfl rfl (i_in (a := z31.toInt) rfl (by first | exact om_c29a07f2e188 rg_p0.1 rg_p0.2 klp10_0.1 r13.1 r13.2 r16.2 f27 hz28 hz29 hz30 hz31 | first | omega | ((try (have i_tb := Imp.go tb (by omega))); (try (have i_v6 := Imp.go v6 (by omega))); (try (have i_v4 := Imp.go v4 (by omega))); (try (have i_v4 := Imp.go v4 (by omega))); (try (have i_v6 := Imp.go v6 (by omega))); (try (have i_tb := Imp.go tb (by omega))); omega))) dX12_visits_67 ?_
        refine g_top (v := (V 29 (Int32.toNatClampNeg z31))) ((ajV9 29 (Int32.toNatClampNeg z31) rfl).trans ((up2_o hV7 (by decide)).trans ((up2_o hV5 (by decide)).trans (up2_o hV4 (by decide))))) ?_
        have r32 : 0 ≤ ((V 29 (Int32.toNatClampNeg z31))).toInt ∧ ((V 29 (Int32.toNatClampNeg z31))).toInt ≤ 1 := hMV 29 (Int32.toNatClampNeg z31)
        refine lv_if_ne (tgt := 160) hx hb dX12_visits_68 (by decide) (fun c33 => ?_) (fun c33 => ?_)
        · skip
          have f34 : ((V 29 (Int32.toNatClampNeg z31))).toInt ≠ 0 := b_neq rfl (by decide) c33
          obtain ⟨z35, ez35⟩ : ∃ y : Int32, y = y8 + 1 := ⟨_, rfl⟩
          have hz35 : z35.toInt = y8.toInt + 1 := i_add ez35 rfl (by decide) (by (first | exact om_56ff1e099a1d klp10_0.1 r16.2 f27 | omega))
          refine lv_iinc (v := z35) (lv' := [(2, .int z35), (3, .int z31), (0, .ref (ad 0)), (1, .int p0)]) hx hb dX12_visits_160 hl (k := 1) rfl (by rw [ez35]; rfl) (by decide) rfl (fun ls hl => ?_)
          refine lv_goto (tgt := 29) hx hb dX12_visits_163 (by decide) ?_
          have c036 : c0k V V9 := xlp10_5
          exact ihlp10 z35 V9 H locs ls (by first | exact om_7c19206264d1 klp10_0.1 r16.2 f27 hz35 | first | omega | ((try (have i_tb := Imp.go tb (by omega))); (try (have i_v6 := Imp.go v6 (by omega))); (try (have i_v4 := Imp.go v4 (by omega))); (try (have i_v4 := Imp.go v4 (by omega))); (try (have i_v6 := Imp.go v6 (by omega))); (try (have i_tb := Imp.go tb (by omega))); omega)) (show (V9 0 89).toInt = (V 0 89).toInt + 1 from by first | exact om_55c67efb91e5 xlp10_0 | first | omega | ((try (have i_tb := Imp.go tb (by omega))); (try (have i_v6 := Imp.go v6 (by omega))); (try (have i_v4 := Imp.go v4 (by omega))); (try (have i_v4 := Imp.go v4 (by omega))); (try (have i_v6 := Imp.go v6 (by omega))); (try (have i_tb := Imp.go tb (by omega))); omega)) (show (cz V9 24 : Int) + 1 ≤ (cz V 24 : Int) from by first | exact om_3196453e4318 xlp10_1 | first | omega | ((try (have i_tb := Imp.go tb (by omega))); (try (have i_v6 := Imp.go v6 (by omega))); (try (have i_v4 := Imp.go v4 (by omega))); (try (have i_v4 := Imp.go v4 (by omega))); (try (have i_v6 := Imp.go v6 (by omega))); (try (have i_tb := Imp.go tb (by omega))); omega)) (show (V9 0 81).toInt + 192 * (cz V9 24 : Int) + 192 ≤ FM + 24 * z35.toInt from by first | exact om_9b8773cb5ff2 xlp10_2 hz35 | first | omega | ((try (have i_tb := Imp.go tb (by omega))); (try (have i_v6 := Imp.go v6 (by omega))); (try (have i_v4 := Imp.go v4 (by omega))); (try (have i_v4 := Imp.go v4 (by omega))); (try (have i_v6 := Imp.go v6 (by omega))); (try (have i_tb := Imp.go tb (by omega))); omega)) (show (V 0 81).toInt ≤ (V9 0 81).toInt from by first | exact om_f4906d00fa52 xlp10_3 | first | omega | ((try (have i_tb := Imp.go tb (by omega))); (try (have i_v6 := Imp.go v6 (by omega))); (try (have i_v4 := Imp.go v4 (by omega))); (try (have i_v4 := Imp.go v4 (by omega))); (try (have i_v6 := Imp.go v6 (by omega))); (try (have i_tb := Imp.go tb (by omega))); omega)) xlp10_4 c036 (by first | exact om_b0e3ceac5369 hn hz35 | first | omega | ((try (have i_tb := Imp.go tb (by omega))); (try (have i_v6 := Imp.go v6 (by omega))); (try (have i_v4 := Imp.go v4 (by omega))); (try (have i_v4 := Imp.go v4 (by omega))); (try (have i_v6 := Imp.go v6 (by omega))); (try (have i_tb := Imp.go tb (by omega))); omega)) (agr.tr agr.rf ajV9 (by decide) (by decide)) hMV9 hP hD hS (lv_sub hl [0, 2, 3] rfl)
        · skip
          have f37 : ((V 29 (Int32.toNatClampNeg z31))).toInt = 0 := b_eq rfl (by decide) c33
          refine lv_aload_n hx hb dX12_visits_71 rfl (lv_at hl 2 rfl) ?_
          refine va_get (D := D) (ci := 12) (v := .ref (ad 86)) (C := RX12) (T := TX12) (N := 100) hx hb hg inX12 hown hK hP 0 rfl rfl 86 (by decide) (hg _ w1792) (fun _ h9 => h9) rfl dX12_visits_72 ?_
          refine lv_bipush (v := 8) hx hb dX12_visits_75 (by decide) ?_
          refine lv_iload_n hx hb dX12_visits_77 rfl (lv_at hl 3 rfl) ?_
          refine lv_imul hx hb dX12_visits_78 ?_
          refine lv_topi (fun z38 ez38 => ?_)
          have hz38 : z38.toInt = 8 * p0.toInt := i_mul ez38 (by decide) rfl (by (first | exact om_9e4b7225c539 rg_p0.1 rg_p0.2 | omega))
          refine lv_iload_n hx hb dX12_visits_79 rfl (lv_at hl 1 rfl) ?_
          refine lv_iadd hx hb dX12_visits_80 ?_
          refine lv_topi (fun z39 ez39 => ?_)
          have hz39 : z39.toInt = z38.toInt + y8.toInt := i_add ez39 rfl rfl (by (first | exact om_3f4737cdcc85 rg_p0.1 rg_p0.2 klp10_0.1 r16.2 f27 hz38 | omega))
          refine va_zald (D := D) (i := z39) hx hb hK hP 62 61 rfl rfl (i_in (a := z39.toInt) rfl (by first | exact om_a17e8f5b65af rg_p0.1 rg_p0.2 klp10_0.1 r16.2 f27 hz38 hz39 | first | omega | ((try (have i_tb := Imp.go tb (by omega))); (try (have i_v6 := Imp.go v6 (by omega))); (try (have i_v4 := Imp.go v4 (by omega))); (try (have i_v4 := Imp.go v4 (by omega))); (try (have i_v6 := Imp.go v6 (by omega))); (try (have i_tb := Imp.go tb (by omega))); omega))) dX12_visits_81 ?_
          refine g_top (v := (V 86 (Int32.toNatClampNeg z39))) ((ajV9 86 (Int32.toNatClampNeg z39) rfl).trans ((up2_o hV7 (by decide)).trans ((up2_o hV5 (by decide)).trans (up2_o hV4 (by decide))))) ?_
          have r40 : 0 ≤ ((V 86 (Int32.toNatClampNeg z39))).toInt ∧ ((V 86 (Int32.toNatClampNeg z39))).toInt ≤ 1 := hMV 86 (Int32.toNatClampNeg z39)
          refine lv_if_eq (tgt := 88) hx hb dX12_visits_82 (by decide) (fun c41 => ?_) (fun c41 => ?_)
          · skip
            have f42 : ((V 86 (Int32.toNatClampNeg z39))).toInt = 0 := b_eq rfl (by decide) c41
            refine lv_iconst (v := 0) hx hb dX12_visits_88 (by decide) ?_
            refine lv_istore (lv' := [(4, .int 0), (3, .int z31), (2, .int y8), (0, .ref (ad 0)), (1, .int p0)]) hx hb dX12_visits_89 hl (by decide) rfl (fun ls hl => ?_)
            have lp45 : ∀ (fulp45 : Nat) (y43 : Int32) (V44 : Vf) (H : Heap) (locs : List Loc) (ls : Array Slot), 0 ≤ y43.toInt ∧ y43.toInt ≤ 24 → (V44 0 89).toInt = (V 0 89).toInt + 1 → (cz V44 24 : Int) + 1 ≤ (cz V 24 : Int) → (V44 0 81).toInt + 192 * (cz V44 24 : Int) + 192 ≤ FM + 24 * y8.toInt + y43.toInt → (V 0 81).toInt ≤ (V44 0 81).toInt → visI V V44 (Int32.toNatClampNeg p0) → c0k V V44 → 24 - y43.toInt < (fulp45 : Int) → agr [(0, 81), (0, 89)] [80, 82, 83, 84, 85, 87, 88] V9 V44 → rgd bM V44 → va_P D vwCl (mw ad kk ks.1 V44 L) H → va_D A (mw ad kk ks.1 V44 L) → va_S A s.heap H locs → lv_has ls 5 [(4, .int y43), (3, .int z31), (2, .int y8), (0, .ref (ad 0)), (1, .int p0)] → W p l e (rK 8 260 dd) s m ([.ref (ad 0), .int p0] : List Value).toArray below meth c H locs 0 0 (MQ below (q_s_visits D ks ad kk V L p0 FM A) ([.ref (ad 0), .int p0] : List Value).toArray s 0 0 A) (F0 m 91 ls []) := by
              intro fulp45
              induction fulp45 with
              | zero =>
                intro y43 V44 H locs ls klp45_0 xlp45_0 xlp45_1 xlp45_2 xlp45_3 xlp45_4 xlp45_5 hn ajV44 hMV44 hP hD hS hl
                exfalso; (first | exact om_9386ef0df612 klp45_0.2 hn | omega)
              | succ fulp45 ihlp45 =>
                intro y43 V44 H locs ls klp45_0 xlp45_0 xlp45_1 xlp45_2 xlp45_3 xlp45_4 xlp45_5 hn ajV44 hMV44 hP hD hS hl
                have agV44 : agr [(0, 81), (0, 89)] [80, 82, 83, 84, 85, 87, 88] V V44 := agV9.tr ajV44 (by decide) (by decide)
                have r46 : 0 ≤ ((V44 0 89)).toInt ∧ ((V44 0 89)).toInt ≤ 24 := hMV44 0 89
                have r47 : 0 ≤ ((V44 0 81)).toInt ∧ ((V44 0 81)).toInt ≤ 1000000 := hMV44 0 81
                refine lv_iload hx hb dX12_visits_91 (lv_at hl 0 rfl) ?_
                refine lv_aload_n hx hb dX12_visits_93 rfl (lv_at hl 3 rfl) ?_
                refine va_get (D := D) (ci := 12) (v := .ref (ad 19)) (C := RX12) (T := TX12) (N := 100) hx hb hg inX12 hown hK hP 0 rfl rfl 19 (by decide) (hg _ w1725) (fun _ h9 => h9) rfl dX12_visits_94 ?_
                refine lv_aload_n hx hb dX12_visits_97 rfl (lv_at hl 3 rfl) ?_
                refine va_get (D := D) (ci := 12) (v := .int (V44 0 11)) (C := RX12) (T := TX12) (N := 100) hx hb hg inX12 hown hK hP 0 rfl rfl 11 (by decide) (hg _ w1717) (fun _ h9 => h9) rfl dX12_visits_98 ?_
                refine g_top (v := (V 0 11)) ((ajV44 0 11 rfl).trans ((ajV9 0 11 rfl).trans ((up2_k hV7 (by decide)).trans ((up2_o hV5 (by decide)).trans (up2_o hV4 (by decide)))))) ?_
                refine va_iald (D := D) (i := (V 0 11)) hx hb hK hP 12 11 rfl rfl (i_in (a := ((V 0 11)).toInt) rfl (by first | exact om_8367a84723c7 r13.1 r13.2 | first | omega | ((try (have i_tb := Imp.go tb (by omega))); (try (have i_v6 := Imp.go v6 (by omega))); (try (have i_v4 := Imp.go v4 (by omega))); (try (have i_v4 := Imp.go v4 (by omega))); (try (have i_v6 := Imp.go v6 (by omega))); (try (have i_tb := Imp.go tb (by omega))); omega))) dX12_visits_101 ?_
                refine g_top (v := (V 19 (Int32.toNatClampNeg (V 0 11)))) ((ajV44 19 (Int32.toNatClampNeg (V 0 11)) rfl).trans ((ajV9 19 (Int32.toNatClampNeg (V 0 11)) rfl).trans ((up2_o hV7 (by decide)).trans ((up2_o hV5 (by decide)).trans (up2_o hV4 (by decide)))))) ?_
                have r48 : 0 ≤ ((V 19 (Int32.toNatClampNeg (V 0 11)))).toInt ∧ ((V 19 (Int32.toNatClampNeg (V 0 11)))).toInt ≤ 24 := hMV 19 (Int32.toNatClampNeg (V 0 11))
                refine lv_icmp_ge (tgt := 160) hx hb dX12_visits_102 (by decide) (fun c49 => ?_) (fun c49 => ?_)
                · skip
                  have f50 : ((V 19 (Int32.toNatClampNeg (V 0 11)))).toInt ≤ y43.toInt := b_le rfl rfl c49
                  obtain ⟨z51, ez51⟩ : ∃ y : Int32, y = y8 + 1 := ⟨_, rfl⟩
                  have hz51 : z51.toInt = y8.toInt + 1 := i_add ez51 rfl (by decide) (by (first | exact om_56ff1e099a1d klp10_0.1 r16.2 f27 | omega))
                  refine lv_iinc (v := z51) (lv' := [(2, .int z51), (4, .int y43), (3, .int z31), (0, .ref (ad 0)), (1, .int p0)]) hx hb dX12_visits_160 hl (k := 2) rfl (by rw [ez51]; rfl) (by decide) rfl (fun ls hl => ?_)
                  refine lv_goto (tgt := 29) hx hb dX12_visits_163 (by decide) ?_
                  have c052 : c0k V V44 := xlp45_5
                  exact ihlp10 z51 V44 H locs ls (by first | exact om_7c19206264d1 klp10_0.1 r16.2 f27 hz51 | first | omega | ((try (have i_tb := Imp.go tb (by omega))); (try (have i_v6 := Imp.go v6 (by omega))); (try (have i_v4 := Imp.go v4 (by omega))); (try (have i_v4 := Imp.go v4 (by omega))); (try (have i_v6 := Imp.go v6 (by omega))); (try (have i_tb := Imp.go tb (by omega))); omega)) (show (V44 0 89).toInt = (V 0 89).toInt + 1 from by first | exact om_55c67efb91e5 xlp45_0 | first | omega | ((try (have i_tb := Imp.go tb (by omega))); (try (have i_v6 := Imp.go v6 (by omega))); (try (have i_v4 := Imp.go v4 (by omega))); (try (have i_v4 := Imp.go v4 (by omega))); (try (have i_v6 := Imp.go v6 (by omega))); (try (have i_tb := Imp.go tb (by omega))); omega)) (show (cz V44 24 : Int) + 1 ≤ (cz V 24 : Int) from by first | exact om_3196453e4318 xlp45_1 | first | omega | ((try (have i_tb := Imp.go tb (by omega))); (try (have i_v6 := Imp.go v6 (by omega))); (try (have i_v4 := Imp.go v4 (by omega))); (try (have i_v4 := Imp.go v4 (by omega))); (try (have i_v6 := Imp.go v6 (by omega))); (try (have i_tb := Imp.go tb (by omega))); omega)) (show (V44 0 81).toInt + 192 * (cz V44 24 : Int) + 192 ≤ FM + 24 * z51.toInt from by first | exact om_43b23c57d548 klp45_0.2 xlp45_2 hz51 | first | omega | ((try (have i_tb := Imp.go tb (by omega))); (try (have i_v6 := Imp.go v6 (by omega))); (try (have i_v4 := Imp.go v4 (by omega))); (try (have i_v4 := Imp.go v4 (by omega))); (try (have i_v6 := Imp.go v6 (by omega))); (try (have i_tb := Imp.go tb (by omega))); omega)) (show (V 0 81).toInt ≤ (V44 0 81).toInt from by first | exact om_f4906d00fa52 xlp45_3 | first | omega | ((try (have i_tb := Imp.go tb (by omega))); (try (have i_v6 := Imp.go v6 (by omega))); (try (have i_v4 := Imp.go v4 (by omega))); (try (have i_v4 := Imp.go v4 (by omega))); (try (have i_v6 := Imp.go v6 (by omega))); (try (have i_tb := Imp.go tb (by omega))); omega)) xlp45_4 c052 (by first | omega | ((try (have i_tb := Imp.go tb (by omega))); (try (have i_v6 := Imp.go v6 (by omega))); (try (have i_v4 := Imp.go v4 (by omega))); (try (have i_v4 := Imp.go v4 (by omega))); (try (have i_v6 := Imp.go v6 (by omega))); (try (have i_tb := Imp.go tb (by omega))); omega)) (agr.tr (agr.tr agr.rf ajV9 (by decide) (by decide)) ajV44 (by decide) (by decide)) hMV44 hP hD hS (lv_sub hl [0, 3, 4] rfl)
                · skip
                  have f53 : y43.toInt < ((V 19 (Int32.toNatClampNeg (V 0 11)))).toInt := b_nle rfl rfl c49
                  refine lv_aload_n hx hb dX12_visits_105 rfl (lv_at hl 3 rfl) ?_
                  refine lv_iload_n hx hb dX12_visits_106 rfl (lv_at hl 1 rfl) ?_
                  refine lv_iload hx hb dX12_visits_107 (lv_at hl 0 rfl) ?_
                  have pq54 : (V44 28 (Int32.toNatClampNeg z31)).toInt = ((V 28 (Int32.toNatClampNeg z31))).toInt := congrArg Int32.toInt ((ajV44 28 (Int32.toNatClampNeg z31) rfl).trans ((ajV9 28 (Int32.toNatClampNeg z31) rfl).trans ((up2_o hV7 (by decide)).trans ((up2_o hV5 (by decide)).trans (up2_o hV4 (by decide))))))
                  have r55 : (-1) ≤ ((V 28 (Int32.toNatClampNeg z31))).toInt ∧ ((V 28 (Int32.toNatClampNeg z31))).toInt ≤ 23 := hMV 28 (Int32.toNatClampNeg z31)
                  refine gA_int (gA_runV (As := [.int z31, .int y43]) (rest := []) (ci := 12) (q0 := 0) hx hb hml hown hg hP hD hK hS hA hnw hgk (s_isCandidate2 l D ks H.size ad kk V44 L z31 y43 hMV44 (by first | exact om_c1f77f9aa7cd rg_p0.1 rg_p0.2 klp10_0.1 r13.1 r13.2 r16.2 f27 hz28 hz29 hz30 hz31 | first | omega | ((try (have i_tb := Imp.go tb (by omega))); (try (have i_v6 := Imp.go v6 (by omega))); (try (have i_v4 := Imp.go v4 (by omega))); (try (have i_v4 := Imp.go v4 (by omega))); (try (have i_v6 := Imp.go v6 (by omega))); (try (have i_tb := Imp.go tb (by omega))); omega)) (show 0 ≤ (V44 28 (Int32.toNatClampNeg z31)).toInt from by first | exact om_ac0b685ca4ca nt pq54 | first | omega | ((try (have i_tb := Imp.go tb (by omega))); (try (have i_v6 := Imp.go v6 (by omega))); (try (have i_v4 := Imp.go v4 (by omega))); (try (have i_v4 := Imp.go v4 (by omega))); (try (have i_v6 := Imp.go v6 (by omega))); (try (have i_tb := Imp.go tb (by omega))); omega))) w2191 w2193 w123 w172 w2194 rfl rfl hdV_yX12_isCandidate ⟨(by show 3 + 1 ≤ 10 * dd + 8; (first | exact om_9a523fff2738 v1 xlp45_1 | omega)), (by show 8 + (6 + 11) + (69) ≤ 300 * dd + 260; (first | exact om_5e02d6e3ffb0 v1 xlp45_1 | omega))⟩ rfl hl.1 rfl (Nat.le_of_ble_eq_true rfl) dX12_visits_109 ⟨Nat.le_of_ble_eq_true rfl, Nat.le_of_ble_eq_true rfl⟩) hP hD hK hS hA (fun z56 u57 H locs w58 hP hD hK hS => ?_)
                  obtain ⟨V61, L62⟩ := u57
                  obtain ⟨hMV61, ajV61, axL62, rgz56, t59, t60⟩ := w58
                  have axL62 : L = L62 := Eq.symm axL62
                  subst axL62
                  have hP : va_P D vwCl (mw ad kk ks.1 V61 L) H := hP
                  have hD : va_D A (mw ad kk ks.1 V61 L) := hD
                  have hMV61 : rgd bM V61 := hMV61
                  have ajV61 : agr [] [80] V44 V61 := ajV61
                  have agV61 : agr [(0, 81), (0, 89)] [80, 82, 83, 84, 85, 87, 88] V V61 := agV44.tr ajV61 (by decide) (by decide)
                  have rgz56 : 0 ≤ z56.toInt ∧ z56.toInt ≤ 1 := rgz56
                  have t59 : Imp (z56.toInt = 1) (th V44 (Int32.toNatClampNeg y43)) := t59
                  have t60 : c0k V44 V61 := t60
                  refine lv_if_ne (tgt := 118) hx hb dX12_visits_112 (by decide) (fun c63 => ?_) (fun c63 => ?_)
                  · skip
                    have f64 : z56.toInt ≠ 0 := b_neq rfl (by decide) c63
                    refine lv_aload_n hx hb dX12_visits_118 rfl (lv_at hl 3 rfl) ?_
                    refine va_get (D := D) (ci := 12) (v := .ref (ad 87)) (C := RX12) (T := TX12) (N := 100) hx hb hg inX12 hown hK hP 0 rfl rfl 87 (by decide) (hg _ w1793) (fun _ h9 => h9) rfl dX12_visits_119 ?_
                    refine lv_iload hx hb dX12_visits_122 (lv_at hl 0 rfl) ?_
                    refine va_iald (D := D) (i := y43) hx hb hK hP 63 62 rfl rfl (i_in (a := y43.toInt) rfl (by first | exact om_f72f4702fe79 klp45_0.1 r48.2 f53 | first | omega | ((try (have i_tb := Imp.go tb (by omega))); (try (have i_v6 := Imp.go v6 (by omega))); (try (have i_v4 := Imp.go v4 (by omega))); (try (have i_v4 := Imp.go v4 (by omega))); (try (have i_v6 := Imp.go v6 (by omega))); (try (have i_tb := Imp.go tb (by omega))); omega))) dX12_visits_124 ?_
                    refine g_top (v := (V44 87 (Int32.toNatClampNeg y43))) (ajV61 87 (Int32.toNatClampNeg y43) rfl) ?_
                    have r65 : 0 ≤ ((V44 87 (Int32.toNatClampNeg y43))).toInt ∧ ((V44 87 (Int32.toNatClampNeg y43))).toInt ≤ 2 := hMV44 87 (Int32.toNatClampNeg y43)
                    refine lv_iconst (v := 1) hx hb dX12_visits_125 (by decide) ?_
                    refine lv_icmp_ne (tgt := 138) hx hb dX12_visits_126 (by decide) (fun c66 => ?_) (fun c66 => ?_)
                    · skip
                      have f67 : ((V44 87 (Int32.toNatClampNeg y43))).toInt ≠ 1 := b_neq rfl (by decide) c66
                      refine lv_aload_n hx hb dX12_visits_138 rfl (lv_at hl 3 rfl) ?_
                      refine va_get (D := D) (ci := 12) (v := .ref (ad 87)) (C := RX12) (T := TX12) (N := 100) hx hb hg inX12 hown hK hP 0 rfl rfl 87 (by decide) (hg _ w1793) (fun _ h9 => h9) rfl dX12_visits_139 ?_
                      refine lv_iload hx hb dX12_visits_142 (lv_at hl 0 rfl) ?_
                      refine va_iald (D := D) (i := y43) hx hb hK hP 63 62 rfl rfl (i_in (a := y43.toInt) rfl (by first | exact om_f72f4702fe79 klp45_0.1 r48.2 f53 | first | omega | ((try (have i_tb := Imp.go tb (by omega))); (try (have i_v6 := Imp.go v6 (by omega))); (try (have i_v4 := Imp.go v4 (by omega))); (try (have i_v4 := Imp.go v4 (by omega))); (try (have i_v6 := Imp.go v6 (by omega))); (try (have i_tb := Imp.go tb (by omega))); omega))) dX12_visits_144 ?_
                      refine g_top (v := (V44 87 (Int32.toNatClampNeg y43))) (ajV61 87 (Int32.toNatClampNeg y43) rfl) ?_
                      refine lv_if_ne (tgt := 154) hx hb dX12_visits_145 (by decide) (fun c68 => ?_) (fun c68 => ?_)
                      · skip
                        have f69 : ((V44 87 (Int32.toNatClampNeg y43))).toInt ≠ 0 := b_neq rfl (by decide) c68
                        obtain ⟨z70, ez70⟩ : ∃ y : Int32, y = y43 + 1 := ⟨_, rfl⟩
                        have hz70 : z70.toInt = y43.toInt + 1 := i_add ez70 rfl (by decide) (by (first | exact om_d1b22b2ae31e klp45_0.1 r48.2 f53 | omega))
                        refine lv_iinc (v := z70) (lv' := [(4, .int z70), (3, .int z31), (2, .int y8), (0, .ref (ad 0)), (1, .int p0)]) hx hb dX12_visits_154 hl (k := 0) rfl (by rw [ez70]; rfl) (by decide) rfl (fun ls hl => ?_)
                        refine lv_goto (tgt := 91) hx hb dX12_visits_157 (by decide) ?_
                        have pq71 : (V61 0 89).toInt = ((V44 0 89)).toInt := congrArg Int32.toInt (ajV61 0 89 rfl)
                        have cz72 : cz V61 24 = cz V44 24 := cz_ag ajV61 (fun _ => rfl)
                        have pq73 : (V61 0 81).toInt = ((V44 0 81)).toInt := congrArg Int32.toInt (ajV61 0 81 rfl)
                        have c074 : c0k V V61 := (c0k.tr (V := V) (W := V44) (X := V61) xlp45_5 t60 agV44 ⟨rfl, fun _ => rfl, fun _ => rfl, fun _ => rfl, fun _ => rfl, fun _ => rfl, fun _ => rfl⟩)
                        exact ihlp45 z70 V61 H locs ls (by first | exact om_5c2541dbcd85 klp45_0.1 r48.2 f53 hz70 | first | omega | ((try (have i_tb := Imp.go tb (by omega))); (try (have i_v6 := Imp.go v6 (by omega))); (try (have i_v4 := Imp.go v4 (by omega))); (try (have i_v4 := Imp.go v4 (by omega))); (try (have i_v6 := Imp.go v6 (by omega))); (try (have i_tb := Imp.go tb (by omega))); omega)) (show (V61 0 89).toInt = (V 0 89).toInt + 1 from by first | exact om_689eeacb6d53 xlp45_0 pq71 | first | omega | ((try (have i_tb := Imp.go tb (by omega))); (try (have i_v6 := Imp.go v6 (by omega))); (try (have i_v4 := Imp.go v4 (by omega))); (try (have i_v4 := Imp.go v4 (by omega))); (try (have i_v6 := Imp.go v6 (by omega))); (try (have i_tb := Imp.go tb (by omega))); omega)) (show (cz V61 24 : Int) + 1 ≤ (cz V 24 : Int) from by first | exact om_16973c22d95d xlp45_1 cz72 | first | omega | ((try (have i_tb := Imp.go tb (by omega))); (try (have i_v6 := Imp.go v6 (by omega))); (try (have i_v4 := Imp.go v4 (by omega))); (try (have i_v4 := Imp.go v4 (by omega))); (try (have i_v6 := Imp.go v6 (by omega))); (try (have i_tb := Imp.go tb (by omega))); omega)) (show (V61 0 81).toInt + 192 * (cz V61 24 : Int) + 192 ≤ FM + 24 * y8.toInt + z70.toInt from by first | exact om_d2e1df22ebfc xlp45_2 hz70 cz72 pq73 | first | omega | ((try (have i_tb := Imp.go tb (by omega))); (try (have i_v6 := Imp.go v6 (by omega))); (try (have i_v4 := Imp.go v4 (by omega))); (try (have i_v4 := Imp.go v4 (by omega))); (try (have i_v6 := Imp.go v6 (by omega))); (try (have i_tb := Imp.go tb (by omega))); omega)) (show (V 0 81).toInt ≤ (V61 0 81).toInt from by first | exact om_a40cdd94799e xlp45_3 pq73 | first | omega | ((try (have i_tb := Imp.go tb (by omega))); (try (have i_v6 := Imp.go v6 (by omega))); (try (have i_v4 := Imp.go v4 (by omega))); (try (have i_v4 := Imp.go v4 (by omega))); (try (have i_v6 := Imp.go v6 (by omega))); (try (have i_tb := Imp.go tb (by omega))); omega)) (visI.ag xlp45_4 ajV61 (fun _ => rfl) (fun _ => rfl)) c074 (by first | exact om_9592d9319ffa hn hz70 | first | omega | ((try (have i_tb := Imp.go tb (by omega))); (try (have i_v6 := Imp.go v6 (by omega))); (try (have i_v4 := Imp.go v4 (by omega))); (try (have i_v4 := Imp.go v4 (by omega))); (try (have i_v6 := Imp.go v6 (by omega))); (try (have i_tb := Imp.go tb (by omega))); omega)) (agr.tr (agr.tr agr.rf ajV44 (by decide) (by decide)) ajV61 (by decide) (by decide)) hMV61 hP hD hS (lv_sub hl [0, 1, 2, 3, 4] rfl)
                      · skip
                        have f75 : ((V44 87 (Int32.toNatClampNeg y43))).toInt = 0 := b_eq rfl (by decide) c68
                        have pq76 : (V61 0 89).toInt = ((V44 0 89)).toInt := congrArg Int32.toInt (ajV61 0 89 rfl)
                        have wy : WY V61 := WY.I v4 (visI.ag xlp45_4 ajV61 (fun _ => rfl) (fun _ => rfl)) (by (first | exact om_689eeacb6d53 xlp45_0 pq76 | omega)) (by (first | exact om_eafa9039069c r1.1 | omega)) (nwh_ag agV61 ⟨rfl, fun _ => rfl, fun _ => rfl, fun _ => rfl, fun _ => rfl, fun _ => rfl, fun _ => rfl⟩).2
                        have cz77 : cz V61 24 = cz V44 24 := cz_ag ajV61 (fun _ => rfl)
                        have pq78 : (V61 0 81).toInt = ((V44 0 81)).toInt := congrArg Int32.toInt (ajV61 0 81 rfl)
                        obtain ⟨d9, rfl⟩ : ∃ d9, dd = d9 + 1 := ⟨dd - 1, by omega⟩
                        refine lv_aload_n hx hb dX12_visits_148 rfl (lv_at hl 3 rfl) ?_
                        refine lv_iload hx hb dX12_visits_149 (lv_at hl 0 rfl) ?_
                        have pq79 : (V61 87 (Int32.toNatClampNeg y43)).toInt = ((V44 87 (Int32.toNatClampNeg y43))).toInt := congrArg Int32.toInt (ajV61 87 (Int32.toNatClampNeg y43) rfl)
                        refine gA_void (gA_runV (As := [.int y43]) (rest := []) (ci := 12) (q0 := 0) hx hb hml hown hg hP hD hK hS hA hnw hgk ((hk_s_visits d9 rfl) H.size ad kk V61 L y43 (((V61 0 81).toInt + 192 * (cz V61 24 : Int))) hMV61 (by first | omega | ((try (have i_tb := Imp.go tb (by omega))); (try (have i_v6 := Imp.go v6 (by omega))); (try (have i_v4 := Imp.go v4 (by omega))); (try (have i_v4 := Imp.go v4 (by omega))); (try (have i_v6 := Imp.go v6 (by omega))); (try (have i_tb := Imp.go tb (by omega))); omega)) (show (cz V61 24 : Int) ≤ ((d9 : Nat) : Int) from by first | exact om_e86f750e45c0 v1 xlp45_1 cz77 | first | omega | ((try (have i_tb := Imp.go tb (by omega))); (try (have i_v6 := Imp.go v6 (by omega))); (try (have i_v4 := Imp.go v4 (by omega))); (try (have i_v4 := Imp.go v4 (by omega))); (try (have i_v6 := Imp.go v6 (by omega))); (try (have i_tb := Imp.go tb (by omega))); omega)) (show (V61 0 89).toInt + (cz V61 24 : Int) ≤ 24 from by first | exact om_612402a5debc v2 xlp45_0 xlp45_1 pq76 cz77 | first | omega | ((try (have i_tb := Imp.go tb (by omega))); (try (have i_v6 := Imp.go v6 (by omega))); (try (have i_v4 := Imp.go v4 (by omega))); (try (have i_v4 := Imp.go v4 (by omega))); (try (have i_v6 := Imp.go v6 (by omega))); (try (have i_tb := Imp.go tb (by omega))); omega)) (show (V61 87 (Int32.toNatClampNeg y43)).toInt = 0 from by first | exact om_97b844acc88a r65.1 f75 pq79 | first | omega | ((try (have i_tb := Imp.go tb (by omega))); (try (have i_v6 := Imp.go v6 (by omega))); (try (have i_v4 := Imp.go v4 (by omega))); (try (have i_v4 := Imp.go v4 (by omega))); (try (have i_v6 := Imp.go v6 (by omega))); (try (have i_tb := Imp.go tb (by omega))); omega)) wy (show (V61 0 81).toInt + 192 * (cz V61 24 : Int) ≤ (((V61 0 81).toInt + 192 * (cz V61 24 : Int))) from by first | exact om_b0110067cd1f | first | omega | ((try (have i_tb := Imp.go tb (by omega))); (try (have i_v6 := Imp.go v6 (by omega))); (try (have i_v4 := Imp.go v4 (by omega))); (try (have i_v4 := Imp.go v4 (by omega))); (try (have i_v6 := Imp.go v6 (by omega))); (try (have i_tb := Imp.go tb (by omega))); omega)) (show (((V61 0 81).toInt + 192 * (cz V61 24 : Int))) ≤ 999000 from by first | exact om_845b6c2e6137 v7 r16.2 f27 xlp45_2 r48.2 f53 cz77 pq78 | first | omega | ((try (have i_tb := Imp.go tb (by omega))); (try (have i_v6 := Imp.go v6 (by omega))); (try (have i_v4 := Imp.go v4 (by omega))); (try (have i_v4 := Imp.go v4 (by omega))); (try (have i_v6 := Imp.go v6 (by omega))); (try (have i_tb := Imp.go tb (by omega))); omega)) (by rw [(nwh_ag agV61 ⟨rfl, fun _ => rfl, fun _ => rfl, fun _ => rfl, fun _ => rfl, fun _ => rfl, fun _ => rfl⟩).2]; show y43.toInt < (V 19 (Int32.toNatClampNeg (V 0 11))).toInt; first | omega | ((try (have i_tb := Imp.go tb (by omega))); (try (have i_v6 := Imp.go v6 (by omega))); (try (have i_v4 := Imp.go v4 (by omega))); (try (have i_v4 := Imp.go v4 (by omega))); (try (have i_v6 := Imp.go v6 (by omega))); (try (have i_tb := Imp.go tb (by omega))); omega)) (TB.ag tb hMV agV61 rfl (by decide) (by decide))) w2187 w2189 w122 w172 w2190 rfl rfl hdV_yX12_visits ⟨(by show 10 * d9 + 8 + 1 ≤ 10 * (d9 + 1) + 8; (first | exact om_be46aa8b5072 | omega)), (by show 8 + (5 + 11) + (300 * d9 + 260) ≤ 300 * (d9 + 1) + 260; (first | exact om_5923726490ee | omega))⟩ rfl hl.1 rfl (Nat.le_of_ble_eq_true rfl) dX12_visits_151 ⟨Nat.le_of_ble_eq_true rfl, Nat.le_of_ble_eq_true rfl⟩) hP hD hK hS hA (fun u81 H locs w82 hP hD hK hS => ?_)
                        obtain ⟨V89, L90⟩ := u81
                        obtain ⟨hMV89, ajV89, axL90, t83, t84, t85, t86, t87, t88⟩ := w82
                        have axL90 : L = L90 := Eq.symm axL90
                        subst axL90
                        have hP : va_P D vwCl (mw ad kk ks.1 V89 L) H := hP
                        have hD : va_D A (mw ad kk ks.1 V89 L) := hD
                        have hMV89 : rgd bM V89 := hMV89
                        have ajV89 : agr [(0, 81), (0, 89)] [80, 82, 83, 84, 85, 87, 88] V61 V89 := ajV89
                        have agV89 : agr [(0, 81), (0, 89)] [80, 82, 83, 84, 85, 87, 88] V V89 := agV61.tr ajV89 (by decide) (by decide)
                        have t83 : (V89 0 89).toInt = (V61 0 89).toInt := t83
                        have t84 : (cz V89 24 : Int) + 1 ≤ (cz V61 24 : Int) := t84
                        have t85 : (V89 0 81).toInt + 192 * (cz V89 24 : Int) ≤ (((V61 0 81).toInt + 192 * (cz V61 24 : Int))) := t85
                        have t86 : (V61 0 81).toInt ≤ (V89 0 81).toInt := t86
                        have t87 : visP V61 V89 := t87
                        have t88 : c0k V61 V89 := t88
                        have r91 : 0 ≤ ((V89 0 89)).toInt ∧ ((V89 0 89)).toInt ≤ 24 := hMV89 0 89
                        have r92 : 0 ≤ ((V89 0 81)).toInt ∧ ((V89 0 81)).toInt ≤ 1000000 := hMV89 0 81
                        obtain ⟨z93, ez93⟩ : ∃ y : Int32, y = y43 + 1 := ⟨_, rfl⟩
                        have hz93 : z93.toInt = y43.toInt + 1 := i_add ez93 rfl (by decide) (by (first | exact om_d1b22b2ae31e klp45_0.1 r48.2 f53 | omega))
                        refine lv_iinc (v := z93) (lv' := [(4, .int z93), (3, .int z31), (2, .int y8), (0, .ref (ad 0)), (1, .int p0)]) hx hb dX12_visits_154 hl (k := 0) rfl (by rw [ez93]; rfl) (by decide) rfl (fun ls hl => ?_)
                        refine lv_goto (tgt := 91) hx hb dX12_visits_157 (by decide) ?_
                        have c094 : c0k V V89 := (c0k.tr (V := V) (W := V61) (X := V89) (c0k.tr (V := V) (W := V44) (X := V61) xlp45_5 t60 agV44 ⟨rfl, fun _ => rfl, fun _ => rfl, fun _ => rfl, fun _ => rfl, fun _ => rfl, fun _ => rfl⟩) t88 agV61 ⟨rfl, fun _ => rfl, fun _ => rfl, fun _ => rfl, fun _ => rfl, fun _ => rfl, fun _ => rfl⟩)
                        exact ihlp45 z93 V89 H locs ls (by first | exact om_5c2541dbcd85 klp45_0.1 r48.2 f53 hz93 | first | omega | ((try (have i_tb := Imp.go tb (by omega))); (try (have i_v6 := Imp.go v6 (by omega))); (try (have i_v4 := Imp.go v4 (by omega))); (try (have i_v4 := Imp.go v4 (by omega))); (try (have i_v6 := Imp.go v6 (by omega))); (try (have i_tb := Imp.go tb (by omega))); omega)) (show (V89 0 89).toInt = (V 0 89).toInt + 1 from by first | exact om_f75c7fdf50ff xlp45_0 pq76 t83 | first | omega | ((try (have i_tb := Imp.go tb (by omega))); (try (have i_v6 := Imp.go v6 (by omega))); (try (have i_v4 := Imp.go v4 (by omega))); (try (have i_v4 := Imp.go v4 (by omega))); (try (have i_v6 := Imp.go v6 (by omega))); (try (have i_tb := Imp.go tb (by omega))); omega)) (show (cz V89 24 : Int) + 1 ≤ (cz V 24 : Int) from by first | exact om_8afc3d38cc82 xlp45_1 cz77 t84 | first | omega | ((try (have i_tb := Imp.go tb (by omega))); (try (have i_v6 := Imp.go v6 (by omega))); (try (have i_v4 := Imp.go v4 (by omega))); (try (have i_v4 := Imp.go v4 (by omega))); (try (have i_v6 := Imp.go v6 (by omega))); (try (have i_tb := Imp.go tb (by omega))); omega)) (show (V89 0 81).toInt + 192 * (cz V89 24 : Int) + 192 ≤ FM + 24 * y8.toInt + z93.toInt from by first | exact om_c193b4947be9 xlp45_2 cz77 pq78 t85 hz93 | first | omega | ((try (have i_tb := Imp.go tb (by omega))); (try (have i_v6 := Imp.go v6 (by omega))); (try (have i_v4 := Imp.go v4 (by omega))); (try (have i_v4 := Imp.go v4 (by omega))); (try (have i_v6 := Imp.go v6 (by omega))); (try (have i_tb := Imp.go tb (by omega))); omega)) (show (V 0 81).toInt ≤ (V89 0 81).toInt from by first | exact om_860317e29598 xlp45_3 pq78 t86 | first | omega | ((try (have i_tb := Imp.go tb (by omega))); (try (have i_v6 := Imp.go v6 (by omega))); (try (have i_v4 := Imp.go v4 (by omega))); (try (have i_v4 := Imp.go v4 (by omega))); (try (have i_v6 := Imp.go v6 (by omega))); (try (have i_tb := Imp.go tb (by omega))); omega)) (visI.P (visI.ag xlp45_4 ajV61 (fun _ => rfl) (fun _ => rfl)) t87 (by omega)) c094 (by first | exact om_9592d9319ffa hn hz93 | first | omega | ((try (have i_tb := Imp.go tb (by omega))); (try (have i_v6 := Imp.go v6 (by omega))); (try (have i_v4 := Imp.go v4 (by omega))); (try (have i_v4 := Imp.go v4 (by omega))); (try (have i_v6 := Imp.go v6 (by omega))); (try (have i_tb := Imp.go tb (by omega))); omega)) (agr.tr (agr.tr (agr.tr agr.rf ajV44 (by decide) (by decide)) ajV61 (by decide) (by decide)) ajV89 (by decide) (by decide)) hMV89 hP hD hS (lv_sub hl [0, 1, 2, 3, 4] rfl)
                    · skip
                      have f95 : ((V44 87 (Int32.toNatClampNeg y43))).toInt = 1 := b_eq rfl (by decide) c66
                      have pq96 : (V61 0 89).toInt = ((V44 0 89)).toInt := congrArg Int32.toInt (ajV61 0 89 rfl)
                      have wy : WY V61 := WY.I v4 (visI.ag xlp45_4 ajV61 (fun _ => rfl) (fun _ => rfl)) (by (first | exact om_689eeacb6d53 xlp45_0 pq96 | omega)) (by (first | exact om_eafa9039069c r1.1 | omega)) (nwh_ag agV61 ⟨rfl, fun _ => rfl, fun _ => rfl, fun _ => rfl, fun _ => rfl, fun _ => rfl, fun _ => rfl⟩).2
                      have kd := i_clamp (x := y43) rfl (by (first | exact om_eafa9039069c klp45_0.1 | omega))
                      have pq97 : (V61 87 (Int32.toNatClampNeg y43)).toInt = ((V44 87 (Int32.toNatClampNeg y43))).toInt := congrArg Int32.toInt (ajV61 87 (Int32.toNatClampNeg y43) rfl)
                      have e19 := congrArg Int32.toInt (nwh_ag agV61 ⟨rfl, fun _ => rfl, fun _ => rfl, fun _ => rfl, fun _ => rfl, fun _ => rfl, fun _ => rfl⟩).2
                      have e19b : (V 19 (nwh V)).toInt = (V 19 (Int32.toNatClampNeg (V 0 11))).toInt := rfl
                      obtain ⟨jj, hj1, hj2⟩ := wy (Int32.toNatClampNeg y43) (by omega) (by omega)
                      refine lv_aload_n hx hb dX12_visits_129 rfl (lv_at hl 3 rfl) ?_
                      refine lv_iload hx hb dX12_visits_130 (lv_at hl 0 rfl) ?_
                      have pq98 : (V61 0 81).toInt = ((V44 0 81)).toInt := congrArg Int32.toInt (ajV61 0 81 rfl)
                      have pq99 : (V61 88 jj).toInt = ((V44 88 jj)).toInt := congrArg Int32.toInt (ajV61 88 jj rfl)
                      have r100 : 0 ≤ ((V44 88 jj)).toInt ∧ ((V44 88 jj)).toInt ≤ 23 := hMV44 88 jj
                      refine gA_void (gA_runV (As := [.int y43]) (rest := []) (ci := 12) (q0 := 0) hx hb hml hown hg hP hD hK hS hA hnw hgk (s_addCycle l D ks H.size ad kk V61 L y43 (jj) hMV61 (by first | exact om_ac7b8d4d9f10 klp45_0.1 r48.2 f53 | first | omega | ((try (have i_tb := Imp.go tb (by omega))); (try (have i_v6 := Imp.go v6 (by omega))); (try (have i_v4 := Imp.go v4 (by omega))); (try (have i_v4 := Imp.go v4 (by omega))); (try (have i_v6 := Imp.go v6 (by omega))); (try (have i_tb := Imp.go tb (by omega))); omega)) (show (V61 0 81).toInt ≤ 999999 from by first | exact om_d2882168c7a4 v7 r16.2 f27 xlp45_2 r48.2 f53 pq98 | first | omega | ((try (have i_tb := Imp.go tb (by omega))); (try (have i_v6 := Imp.go v6 (by omega))); (try (have i_v4 := Imp.go v4 (by omega))); (try (have i_v4 := Imp.go v4 (by omega))); (try (have i_v6 := Imp.go v6 (by omega))); (try (have i_tb := Imp.go tb (by omega))); omega)) (show (V61 88 (jj)).toInt = y43.toInt from by first | omega | ((try (have i_tb := Imp.go tb (by omega))); (try (have i_v6 := Imp.go v6 (by omega))); (try (have i_v4 := Imp.go v4 (by omega))); (try (have i_v4 := Imp.go v4 (by omega))); (try (have i_v6 := Imp.go v6 (by omega))); (try (have i_tb := Imp.go tb (by omega))); omega)) (show (jj) < (V61 0 89).toInt from by first | omega | ((try (have i_tb := Imp.go tb (by omega))); (try (have i_v6 := Imp.go v6 (by omega))); (try (have i_v4 := Imp.go v4 (by omega))); (try (have i_v4 := Imp.go v4 (by omega))); (try (have i_v6 := Imp.go v6 (by omega))); (try (have i_tb := Imp.go tb (by omega))); omega))) w2195 w2197 w124 w172 w2198 rfl rfl hdV_yX12_addCycle ⟨(by show 1 + 1 ≤ 10 * dd + 8; (first | exact om_491333b5ac6e v1 xlp45_1 | omega)), (by show 8 + (4 + 11) + (23) ≤ 300 * dd + 260; (first | exact om_16c3656e2818 v1 xlp45_1 | omega))⟩ rfl hl.1 rfl (Nat.le_of_ble_eq_true rfl) dX12_visits_132 ⟨Nat.le_of_ble_eq_true rfl, Nat.le_of_ble_eq_true rfl⟩) hP hD hK hS hA (fun u102 H locs w103 hP hD hK hS => ?_)
                      obtain ⟨V105, L106⟩ := u102
                      obtain ⟨hMV105, ajV105, axL106, t104⟩ := w103
                      have axL106 : L = L106 := Eq.symm axL106
                      subst axL106
                      have hP : va_P D vwCl (mw ad kk ks.1 V105 L) H := hP
                      have hD : va_D A (mw ad kk ks.1 V105 L) := hD
                      have hMV105 : rgd bM V105 := hMV105
                      have ajV105 : agr [(0, 81)] [82, 83, 84, 85] V61 V105 := ajV105
                      have agV105 : agr [(0, 81), (0, 89)] [80, 82, 83, 84, 85, 87, 88] V V105 := agV61.tr ajV105 (by decide) (by decide)
                      have t104 : (V105 0 81).toInt = (V61 0 81).toInt + 1 := t104
                      have r107 : 0 ≤ ((V105 0 81)).toInt ∧ ((V105 0 81)).toInt ≤ 1000000 := hMV105 0 81
                      refine lv_goto (tgt := 154) hx hb dX12_visits_135 (by decide) ?_
                      obtain ⟨z108, ez108⟩ : ∃ y : Int32, y = y43 + 1 := ⟨_, rfl⟩
                      have hz108 : z108.toInt = y43.toInt + 1 := i_add ez108 rfl (by decide) (by (first | exact om_d1b22b2ae31e klp45_0.1 r48.2 f53 | omega))
                      refine lv_iinc (v := z108) (lv' := [(4, .int z108), (3, .int z31), (2, .int y8), (0, .ref (ad 0)), (1, .int p0)]) hx hb dX12_visits_154 hl (k := 0) rfl (by rw [ez108]; rfl) (by decide) rfl (fun ls hl => ?_)
                      refine lv_goto (tgt := 91) hx hb dX12_visits_157 (by decide) ?_
                      have pq109 : (V105 0 89).toInt = ((V44 0 89)).toInt := congrArg Int32.toInt ((ajV105 0 89 rfl).trans (ajV61 0 89 rfl))
                      have cz110 : cz V61 24 = cz V44 24 := cz_ag ajV61 (fun _ => rfl)
                      have cz111 : cz V105 24 = cz V61 24 := cz_ag ajV105 (fun _ => rfl)
                      have c0112 : c0k V V105 := (c0k.tr (V := V) (W := V61) (X := V105) (c0k.tr (V := V) (W := V44) (X := V61) xlp45_5 t60 agV44 ⟨rfl, fun _ => rfl, fun _ => rfl, fun _ => rfl, fun _ => rfl, fun _ => rfl, fun _ => rfl⟩) (c0k.ag ajV105 rfl) agV61 ⟨rfl, fun _ => rfl, fun _ => rfl, fun _ => rfl, fun _ => rfl, fun _ => rfl, fun _ => rfl⟩)
                      exact ihlp45 z108 V105 H locs ls (by first | exact om_5c2541dbcd85 klp45_0.1 r48.2 f53 hz108 | first | omega | ((try (have i_tb := Imp.go tb (by omega))); (try (have i_v6 := Imp.go v6 (by omega))); (try (have i_v4 := Imp.go v4 (by omega))); (try (have i_v4 := Imp.go v4 (by omega))); (try (have i_v6 := Imp.go v6 (by omega))); (try (have i_tb := Imp.go tb (by omega))); omega)) (show (V105 0 89).toInt = (V 0 89).toInt + 1 from by first | exact om_689eeacb6d53 xlp45_0 pq109 | first | omega | ((try (have i_tb := Imp.go tb (by omega))); (try (have i_v6 := Imp.go v6 (by omega))); (try (have i_v4 := Imp.go v4 (by omega))); (try (have i_v4 := Imp.go v4 (by omega))); (try (have i_v6 := Imp.go v6 (by omega))); (try (have i_tb := Imp.go tb (by omega))); omega)) (show (cz V105 24 : Int) + 1 ≤ (cz V 24 : Int) from by first | exact om_1b06118e3a49 xlp45_1 cz110 cz111 | first | omega | ((try (have i_tb := Imp.go tb (by omega))); (try (have i_v6 := Imp.go v6 (by omega))); (try (have i_v4 := Imp.go v4 (by omega))); (try (have i_v4 := Imp.go v4 (by omega))); (try (have i_v6 := Imp.go v6 (by omega))); (try (have i_tb := Imp.go tb (by omega))); omega)) (show (V105 0 81).toInt + 192 * (cz V105 24 : Int) + 192 ≤ FM + 24 * y8.toInt + z108.toInt from by first | exact om_375f92f23f70 xlp45_2 pq98 t104 hz108 cz110 cz111 | first | omega | ((try (have i_tb := Imp.go tb (by omega))); (try (have i_v6 := Imp.go v6 (by omega))); (try (have i_v4 := Imp.go v4 (by omega))); (try (have i_v4 := Imp.go v4 (by omega))); (try (have i_v6 := Imp.go v6 (by omega))); (try (have i_tb := Imp.go tb (by omega))); omega)) (show (V 0 81).toInt ≤ (V105 0 81).toInt from by first | exact om_593f1437d28d xlp45_3 pq98 t104 | first | omega | ((try (have i_tb := Imp.go tb (by omega))); (try (have i_v6 := Imp.go v6 (by omega))); (try (have i_v4 := Imp.go v4 (by omega))); (try (have i_v4 := Imp.go v4 (by omega))); (try (have i_v6 := Imp.go v6 (by omega))); (try (have i_tb := Imp.go tb (by omega))); omega)) (visI.ag (visI.ag xlp45_4 ajV61 (fun _ => rfl) (fun _ => rfl)) ajV105 (fun _ => rfl) (fun _ => rfl)) c0112 (by first | exact om_9592d9319ffa hn hz108 | first | omega | ((try (have i_tb := Imp.go tb (by omega))); (try (have i_v6 := Imp.go v6 (by omega))); (try (have i_v4 := Imp.go v4 (by omega))); (try (have i_v4 := Imp.go v4 (by omega))); (try (have i_v6 := Imp.go v6 (by omega))); (try (have i_tb := Imp.go tb (by omega))); omega)) (agr.tr (agr.tr (agr.tr agr.rf ajV44 (by decide) (by decide)) ajV61 (by decide) (by decide)) ajV105 (by decide) (by decide)) hMV105 hP hD hS (lv_sub hl [0, 1, 2, 3, 4] rfl)
                  · skip
                    have f113 : z56.toInt = 0 := b_eq rfl (by decide) c63
                    refine lv_goto (tgt := 154) hx hb dX12_visits_115 (by decide) ?_
                    obtain ⟨z114, ez114⟩ : ∃ y : Int32, y = y43 + 1 := ⟨_, rfl⟩
                    have hz114 : z114.toInt = y43.toInt + 1 := i_add ez114 rfl (by decide) (by (first | exact om_d1b22b2ae31e klp45_0.1 r48.2 f53 | omega))
                    refine lv_iinc (v := z114) (lv' := [(4, .int z114), (3, .int z31), (2, .int y8), (0, .ref (ad 0)), (1, .int p0)]) hx hb dX12_visits_154 hl (k := 0) rfl (by rw [ez114]; rfl) (by decide) rfl (fun ls hl => ?_)
                    refine lv_goto (tgt := 91) hx hb dX12_visits_157 (by decide) ?_
                    have pq115 : (V61 0 89).toInt = ((V44 0 89)).toInt := congrArg Int32.toInt (ajV61 0 89 rfl)
                    have cz116 : cz V61 24 = cz V44 24 := cz_ag ajV61 (fun _ => rfl)
                    have pq117 : (V61 0 81).toInt = ((V44 0 81)).toInt := congrArg Int32.toInt (ajV61 0 81 rfl)
                    have c0118 : c0k V V61 := (c0k.tr (V := V) (W := V44) (X := V61) xlp45_5 t60 agV44 ⟨rfl, fun _ => rfl, fun _ => rfl, fun _ => rfl, fun _ => rfl, fun _ => rfl, fun _ => rfl⟩)
                    exact ihlp45 z114 V61 H locs ls (by first | exact om_5c2541dbcd85 klp45_0.1 r48.2 f53 hz114 | first | omega | ((try (have i_tb := Imp.go tb (by omega))); (try (have i_v6 := Imp.go v6 (by omega))); (try (have i_v4 := Imp.go v4 (by omega))); (try (have i_v4 := Imp.go v4 (by omega))); (try (have i_v6 := Imp.go v6 (by omega))); (try (have i_tb := Imp.go tb (by omega))); omega)) (show (V61 0 89).toInt = (V 0 89).toInt + 1 from by first | exact om_689eeacb6d53 xlp45_0 pq115 | first | omega | ((try (have i_tb := Imp.go tb (by omega))); (try (have i_v6 := Imp.go v6 (by omega))); (try (have i_v4 := Imp.go v4 (by omega))); (try (have i_v4 := Imp.go v4 (by omega))); (try (have i_v6 := Imp.go v6 (by omega))); (try (have i_tb := Imp.go tb (by omega))); omega)) (show (cz V61 24 : Int) + 1 ≤ (cz V 24 : Int) from by first | exact om_16973c22d95d xlp45_1 cz116 | first | omega | ((try (have i_tb := Imp.go tb (by omega))); (try (have i_v6 := Imp.go v6 (by omega))); (try (have i_v4 := Imp.go v4 (by omega))); (try (have i_v4 := Imp.go v4 (by omega))); (try (have i_v6 := Imp.go v6 (by omega))); (try (have i_tb := Imp.go tb (by omega))); omega)) (show (V61 0 81).toInt + 192 * (cz V61 24 : Int) + 192 ≤ FM + 24 * y8.toInt + z114.toInt from by first | exact om_d2e1df22ebfc xlp45_2 hz114 cz116 pq117 | first | omega | ((try (have i_tb := Imp.go tb (by omega))); (try (have i_v6 := Imp.go v6 (by omega))); (try (have i_v4 := Imp.go v4 (by omega))); (try (have i_v4 := Imp.go v4 (by omega))); (try (have i_v6 := Imp.go v6 (by omega))); (try (have i_tb := Imp.go tb (by omega))); omega)) (show (V 0 81).toInt ≤ (V61 0 81).toInt from by first | exact om_a40cdd94799e xlp45_3 pq117 | first | omega | ((try (have i_tb := Imp.go tb (by omega))); (try (have i_v6 := Imp.go v6 (by omega))); (try (have i_v4 := Imp.go v4 (by omega))); (try (have i_v4 := Imp.go v4 (by omega))); (try (have i_v6 := Imp.go v6 (by omega))); (try (have i_tb := Imp.go tb (by omega))); omega)) (visI.ag xlp45_4 ajV61 (fun _ => rfl) (fun _ => rfl)) c0118 (by first | exact om_9592d9319ffa hn hz114 | first | omega | ((try (have i_tb := Imp.go tb (by omega))); (try (have i_v6 := Imp.go v6 (by omega))); (try (have i_v4 := Imp.go v4 (by omega))); (try (have i_v4 := Imp.go v4 (by omega))); (try (have i_v6 := Imp.go v6 (by omega))); (try (have i_tb := Imp.go tb (by omega))); omega)) (agr.tr (agr.tr agr.rf ajV44 (by decide) (by decide)) ajV61 (by decide) (by decide)) hMV61 hP hD hS (lv_sub hl [0, 1, 2, 3, 4] rfl)
            have r119 : Int32.toInt 0 = 0 := by decide
            have c0120 : c0k V V9 := xlp10_5
            exact lp45 ((24 - (Int32.toInt 0) + 1 : Int).toNat) 0 V9 H locs ls (by decide) (show (V9 0 89).toInt = (V 0 89).toInt + 1 from by first | exact om_55c67efb91e5 xlp10_0 | first | omega | ((try (have i_tb := Imp.go tb (by omega))); (try (have i_v6 := Imp.go v6 (by omega))); (try (have i_v4 := Imp.go v4 (by omega))); (try (have i_v4 := Imp.go v4 (by omega))); (try (have i_v6 := Imp.go v6 (by omega))); (try (have i_tb := Imp.go tb (by omega))); omega)) (show (cz V9 24 : Int) + 1 ≤ (cz V 24 : Int) from by first | exact om_3196453e4318 xlp10_1 | first | omega | ((try (have i_tb := Imp.go tb (by omega))); (try (have i_v6 := Imp.go v6 (by omega))); (try (have i_v4 := Imp.go v4 (by omega))); (try (have i_v4 := Imp.go v4 (by omega))); (try (have i_v6 := Imp.go v6 (by omega))); (try (have i_tb := Imp.go tb (by omega))); omega)) (show (V9 0 81).toInt + 192 * (cz V9 24 : Int) + 192 ≤ FM + 24 * y8.toInt + (Int32.toInt 0) from by first | exact om_47f5b5143481 xlp10_2 r119 | first | omega | ((try (have i_tb := Imp.go tb (by omega))); (try (have i_v6 := Imp.go v6 (by omega))); (try (have i_v4 := Imp.go v4 (by omega))); (try (have i_v4 := Imp.go v4 (by omega))); (try (have i_v6 := Imp.go v6 (by omega))); (try (have i_tb := Imp.go tb (by omega))); omega)) (show (V 0 81).toInt ≤ (V9 0 81).toInt from by first | exact om_f4906d00fa52 xlp10_3 | first | omega | ((try (have i_tb := Imp.go tb (by omega))); (try (have i_v6 := Imp.go v6 (by omega))); (try (have i_v4 := Imp.go v4 (by omega))); (try (have i_v4 := Imp.go v4 (by omega))); (try (have i_v6 := Imp.go v6 (by omega))); (try (have i_tb := Imp.go tb (by omega))); omega)) xlp10_4 c0120 (by first | exact om_817980d3aa47 | first | omega | ((try (have i_tb := Imp.go tb (by omega))); (try (have i_v6 := Imp.go v6 (by omega))); (try (have i_v4 := Imp.go v4 (by omega))); (try (have i_v4 := Imp.go v4 (by omega))); (try (have i_v6 := Imp.go v6 (by omega))); (try (have i_tb := Imp.go tb (by omega))); omega)) agr.rf hMV9 hP hD hS (lv_sub hl [0, 1, 2, 3, 4] rfl)
          · skip
            have f121 : ((V 86 (Int32.toNatClampNeg z39))).toInt ≠ 0 := b_neq rfl (by decide) c41
            refine lv_goto (tgt := 160) hx hb dX12_visits_85 (by decide) ?_
            obtain ⟨z122, ez122⟩ : ∃ y : Int32, y = y8 + 1 := ⟨_, rfl⟩
            have hz122 : z122.toInt = y8.toInt + 1 := i_add ez122 rfl (by decide) (by (first | exact om_56ff1e099a1d klp10_0.1 r16.2 f27 | omega))
            refine lv_iinc (v := z122) (lv' := [(2, .int z122), (3, .int z31), (0, .ref (ad 0)), (1, .int p0)]) hx hb dX12_visits_160 hl (k := 1) rfl (by rw [ez122]; rfl) (by decide) rfl (fun ls hl => ?_)
            refine lv_goto (tgt := 29) hx hb dX12_visits_163 (by decide) ?_
            have c0123 : c0k V V9 := xlp10_5
            exact ihlp10 z122 V9 H locs ls (by first | exact om_7c19206264d1 klp10_0.1 r16.2 f27 hz122 | first | omega | ((try (have i_tb := Imp.go tb (by omega))); (try (have i_v6 := Imp.go v6 (by omega))); (try (have i_v4 := Imp.go v4 (by omega))); (try (have i_v4 := Imp.go v4 (by omega))); (try (have i_v6 := Imp.go v6 (by omega))); (try (have i_tb := Imp.go tb (by omega))); omega)) (show (V9 0 89).toInt = (V 0 89).toInt + 1 from by first | exact om_55c67efb91e5 xlp10_0 | first | omega | ((try (have i_tb := Imp.go tb (by omega))); (try (have i_v6 := Imp.go v6 (by omega))); (try (have i_v4 := Imp.go v4 (by omega))); (try (have i_v4 := Imp.go v4 (by omega))); (try (have i_v6 := Imp.go v6 (by omega))); (try (have i_tb := Imp.go tb (by omega))); omega)) (show (cz V9 24 : Int) + 1 ≤ (cz V 24 : Int) from by first | exact om_3196453e4318 xlp10_1 | first | omega | ((try (have i_tb := Imp.go tb (by omega))); (try (have i_v6 := Imp.go v6 (by omega))); (try (have i_v4 := Imp.go v4 (by omega))); (try (have i_v4 := Imp.go v4 (by omega))); (try (have i_v6 := Imp.go v6 (by omega))); (try (have i_tb := Imp.go tb (by omega))); omega)) (show (V9 0 81).toInt + 192 * (cz V9 24 : Int) + 192 ≤ FM + 24 * z122.toInt from by first | exact om_9b8773cb5ff2 xlp10_2 hz122 | first | omega | ((try (have i_tb := Imp.go tb (by omega))); (try (have i_v6 := Imp.go v6 (by omega))); (try (have i_v4 := Imp.go v4 (by omega))); (try (have i_v4 := Imp.go v4 (by omega))); (try (have i_v6 := Imp.go v6 (by omega))); (try (have i_tb := Imp.go tb (by omega))); omega)) (show (V 0 81).toInt ≤ (V9 0 81).toInt from by first | exact om_f4906d00fa52 xlp10_3 | first | omega | ((try (have i_tb := Imp.go tb (by omega))); (try (have i_v6 := Imp.go v6 (by omega))); (try (have i_v4 := Imp.go v4 (by omega))); (try (have i_v4 := Imp.go v4 (by omega))); (try (have i_v6 := Imp.go v6 (by omega))); (try (have i_tb := Imp.go tb (by omega))); omega)) xlp10_4 c0123 (by first | exact om_b0e3ceac5369 hn hz122 | first | omega | ((try (have i_tb := Imp.go tb (by omega))); (try (have i_v6 := Imp.go v6 (by omega))); (try (have i_v4 := Imp.go v4 (by omega))); (try (have i_v4 := Imp.go v4 (by omega))); (try (have i_v6 := Imp.go v6 (by omega))); (try (have i_tb := Imp.go tb (by omega))); omega)) (agr.tr agr.rf ajV9 (by decide) (by decide)) hMV9 hP hD hS (lv_sub hl [0, 2, 3] rfl)
  have r124 : Int32.toInt 0 = 0 := by decide
  have pq125 : (V7 0 89).toInt = z6.toInt := congrArg Int32.toInt (up2_s hV7)
  have cz126 : cz V4 24 + 1 = cz V 24 := (cz_put hV4 (by decide) 24).2.1 (by have h9 := i_clamp (x := p0) rfl (by (first | exact om_eafa9039069c rg_p0.1 | omega)); omega) (by omega)
  have cz127 : cz V5 24 = cz V4 24 := cz_o hV5 (by decide)
  have cz128 : cz V7 24 = cz V5 24 := cz_o hV7 (by decide)
  have pq129 : (V7 0 81).toInt = ((V 0 81)).toInt := congrArg Int32.toInt ((up2_k hV7 (by decide)).trans ((up2_o hV5 (by decide)).trans (up2_o hV4 (by decide))))
  have kq := i_clamp (x := (V 0 89)) rfl (by (first | exact om_eafa9039069c r1.1 | omega))
  have kp := i_clamp (x := p0) rfl (by (first | exact om_eafa9039069c rg_p0.1 | omega))
  have c0130 : c0k V V7 := (c0k.tr (V := V) (W := V5) (X := V7) (c0k.tr (V := V) (W := V4) (X := V5) (c0k.tr (V := V) (W := V) (X := V4) c0k.rf (Or.inl (up2_o hV4 (by decide))) agV ⟨rfl, fun _ => rfl, fun _ => rfl, fun _ => rfl, fun _ => rfl, fun _ => rfl, fun _ => rfl⟩) (Or.inl (up2_o hV5 (by decide))) agV4 ⟨rfl, fun _ => rfl, fun _ => rfl, fun _ => rfl, fun _ => rfl, fun _ => rfl, fun _ => rfl⟩) (Or.inl (up2_o hV7 (by decide))) agV5 ⟨rfl, fun _ => rfl, fun _ => rfl, fun _ => rfl, fun _ => rfl, fun _ => rfl, fun _ => rfl⟩)
  exact lp10 ((8 - (Int32.toInt 0) + 1 : Int).toNat) 0 V7 H locs ls (by decide) (show (V7 0 89).toInt = (V 0 89).toInt + 1 from by first | exact om_689eeacb6d53 hz6 pq125 | first | omega | ((try (have i_tb := Imp.go tb (by omega))); (try (have i_v6 := Imp.go v6 (by omega))); (try (have i_v4 := Imp.go v4 (by omega))); (try (have i_v4 := Imp.go v4 (by omega))); (try (have i_v6 := Imp.go v6 (by omega))); (try (have i_tb := Imp.go tb (by omega))); omega)) (show (cz V7 24 : Int) + 1 ≤ (cz V 24 : Int) from by first | exact om_47921a11ec63 cz126 cz127 cz128 | first | omega | ((try (have i_tb := Imp.go tb (by omega))); (try (have i_v6 := Imp.go v6 (by omega))); (try (have i_v4 := Imp.go v4 (by omega))); (try (have i_v4 := Imp.go v4 (by omega))); (try (have i_v6 := Imp.go v6 (by omega))); (try (have i_tb := Imp.go tb (by omega))); omega)) (show (V7 0 81).toInt + 192 * (cz V7 24 : Int) + 192 ≤ FM + 24 * (Int32.toInt 0) from by first | exact om_3548175b5d28 v5 r124 cz126 cz127 cz128 pq129 | first | omega | ((try (have i_tb := Imp.go tb (by omega))); (try (have i_v6 := Imp.go v6 (by omega))); (try (have i_v4 := Imp.go v4 (by omega))); (try (have i_v4 := Imp.go v4 (by omega))); (try (have i_v6 := Imp.go v6 (by omega))); (try (have i_tb := Imp.go tb (by omega))); omega)) (show (V 0 81).toInt ≤ (V7 0 81).toInt from by first | exact om_abdc88b0c8fc pq129 | first | omega | ((try (have i_tb := Imp.go tb (by omega))); (try (have i_v6 := Imp.go v6 (by omega))); (try (have i_v4 := Imp.go v4 (by omega))); (try (have i_v4 := Imp.go v4 (by omega))); (try (have i_v6 := Imp.go v6 (by omega))); (try (have i_tb := Imp.go tb (by omega))); omega)) (visI.new hV4 hV5 hV7 rfl (by (first | exact om_639da7453e33 kq | omega)) (by omega)) c0130 (by first | exact om_a4cbf953e09c | first | omega | ((try (have i_tb := Imp.go tb (by omega))); (try (have i_v6 := Imp.go v6 (by omega))); (try (have i_v4 := Imp.go v4 (by omega))); (try (have i_v4 := Imp.go v4 (by omega))); (try (have i_v6 := Imp.go v6 (by omega))); (try (have i_tb := Imp.go tb (by omega))); omega)) agr.rf hMV7 hP hD hS (lv_sub hl [0, 1, 2] rfl)
theorem K_visits {l : Launch} {D : va_G} {ks : KS} : ∀ dd, K_s_visits l D ks dd
  | 0 => s_visits (fun d9 h => absurd h (by omega))
  | d + 1 => s_visits (fun d9 h => by
    have e : d9 = d := by omega
    subst e
    exact K_visits d9)
end
section
theorem DD.nx {fs : List (Nat × Nat)} {cs : List Nat} {V W : Vf} {l k : Int} {c j lo hi : Nat} (h : DD V l k) (c0 : c0k V W) (a : agr fs cs V W) (q : thC fs cs) (hn : 1 ≤ (V 30 (8 * (24 * nwh V + c) + j)).toInt ∨ th V (cd0 W)) (cok : cOK V lo hi (24 * nwh V + c)) (hc : (c : Int) = l) (hj : (j : Int) = k) : DD W l (k + 1) := by
  rcases hn with hn | hn
  · have h2 : DD V l (k + 1) := by
      rcases h with h | h
      · exact Or.inl h
      · refine Or.inr (fun c' j' hq ht hL => ?_)
        by_cases e : (c' : Int) = l ∧ (j' : Int) = k
        · have e1 : c' = c := by omega
          have e2 : j' = j := by omega
          subst e1
          subst e2
          have h9 := (cok.2.2.2 j' hL.1).2 hL.2
          omega
        · exact h c' j' (by omega) ht hL
    exact h2.st a q c0
  · exact Or.inl (hn.ag a q)
theorem DD.up1 {V : Vf} {l k : Int} {c : Nat} (h : DD V l k) (hc : (c : Int) = l) (hx : (V 27 (24 * nwh V + c)).toInt ≤ k ∨ ¬ th V c) : DD V (l + 1) 0 := by
  rcases h with h | h
  · exact Or.inl h
  · refine Or.inr (fun c' j' hq ht hL => ?_)
    by_cases e : (c' : Int) < l
    · exact h c' j' (Or.inl e) ht hL
    · have e1 : c' = c := by omega
      subst e1
      rcases hx with hx | hx
      · exact h c' j' (Or.inr ⟨hc, by have := hL.1; omega⟩) ht hL
      · exact hx ht
theorem DD.le {V : Vf} {l l' k : Int} (h : DD V l k) (hl : l' ≤ l) : DD V l' 0 := by
  rcases h with h | h
  · exact Or.inl h
  · exact Or.inr (fun c j hq => h c j (by omega))
theorem DD.z {V : Vf} {l : Int} (hl : l ≤ 0) : DD V l 0 := Or.inr (fun c j hq => absurd hq (by omega))
theorem DD.RD {V : Vf} {l k : Int} (h : DD V l k) (hl : (V 19 (nwh V)).toInt ≤ l) : th V (cd0 V) ∨ ∀ c j : Nat, th V c → ¬ ndL V c j := by
  rcases h with h | h
  · exact Or.inl h
  · exact Or.inr (fun c j ht => h c j (Or.inl (by have := ht.1; omega)) ht)
theorem RD_st {fs : List (Nat × Nat)} {cs : List Nat} {V W : Vf} (h : th V (cd0 V) ∨ ∀ c j : Nat, th V c → ¬ ndL V c j) (a : agr fs cs V W) (q : thC fs cs) (c0 : c0k V W) : th W (cd0 W) ∨ ∀ c j : Nat, th W c → ¬ ndL W c j := by
  rcases h with h | h
  · rcases c0 with c0 | c0
    · left
      have e : cd0 W = cd0 V := by unfold cd0; rw [c0]
      rw [e]
      exact h.ag a q
    · exact Or.inl (c0.ag a q)
  · exact Or.inr (fun c j ht hn => h c j (ht.ag a.sy q) (hn.ag a.sy q))

theorem w2171 : Cond.code yX12_checkNeed cX12_checkNeed 10 none ∈ GW := gw_k tk9_9 96 (rfl) rfl
theorem w2168 : Cond.methodLink RX12 445 yX12_checkNeed ∈ GW := gw_k tk9_9 93 (by decide +kernel) rfl
theorem w2170 : Cond.instanceMethod yX12_checkNeed ∈ GW := gw_k tk9_9 95 (by decide +kernel) rfl
theorem w118 : Cond.selects RX12 yX12_checkNeed yX12_checkNeed ∈ GW := gw_mem 118 (by decide +kernel) rfl
theorem hdV_yX12_checkNeed : yX12_checkNeed.cls = RX12 ∧ yX12_checkNeed.cls ≠ "java/lang/invoke/MethodHandle" ∧ yX12_checkNeed.cls ≠ "java/lang/invoke/VarHandle" ∧ (parseMethodDescriptor yX12_checkNeed.desc).map (fun d => d.parameters.length) = some 2 := by decide +kernel
theorem dk9_dX12_check_0_0 : dOk cX12_check [(0, .aload_n 0, 1), (1, .iconst 0, 1), (2, .putfield 1, 3), (5, .aload_n 0, 1), (6, .iconst 0, 1), (7, .putfield 435, 3), (10, .iconst 0, 1), (11, .istore_n 1, 1), (12, .iload_n 1, 1), (13, .aload_n 0, 1), (14, .getfield 62, 3), (17, .aload_n 0, 1), (18, .getfield 286, 3), (21, .iaload, 1), (22, .if_icmp .ge 56, 3), (78, .aload_n 0, 1), (79, .iconst 0, 1), (80, .putfield 449, 3), (83, .iconst 0, 1), (84, .istore_n 1, 1), (85, .iload_n 1, 1), (86, .aload_n 0, 1), (87, .getfield 62, 3), (90, .aload_n 0, 1)] = true ∧ dOk cX12_check [(91, .getfield 286, 3), (94, .iaload, 1), (95, .if_icmp .ge 31, 3), (126, .aload_n 0, 1), (127, .aload_n 0, 1), (128, .getfield 408, 3), (131, .ifCond .ne 10, 3), (141, .iconst 1, 1), (142, .goto 4, 3), (146, .putfield 408, 3), (149, .aload_n 0, 1), (150, .getfield 435, 3), (153, .ireturn, 1), (134, .aload_n 0, 1), (135, .getfield 435, 3), (138, .ifCond .ne 7, 3), (145, .iconst 0, 1), (98, .aload_n 0, 1), (99, .iload_n 1, 1), (100, .invokevirtual 438, 3), (103, .ifCond .eq 17, 3), (120, .iinc 1 1, 3), (123, .goto (-38), 3), (106, .aload_n 0, 1)] = true ∧ dOk cX12_check [(107, .getfield 216, 3), (110, .iload_n 1, 1), (111, .iaload, 1), (112, .ifCond .ne 8, 3), (115, .aload_n 0, 1), (116, .iload_n 1, 1), (117, .invokevirtual 452, 3), (25, .aload_n 0, 1), (26, .getfield 216, 3), (29, .iload_n 1, 1), (30, .iconst 0, 1), (31, .iastore, 1), (32, .iconst 0, 1), (33, .istore_n 2, 1), (34, .iload_n 2, 1), (35, .aload_n 0, 1), (36, .getfield 86, 3), (39, .bipush 24, 2), (41, .aload_n 0, 1), (42, .getfield 286, 3), (45, .imul, 1), (46, .iload_n 1, 1), (47, .iadd, 1), (48, .iaload, 1)] = true ∧ dOk cX12_check [(49, .if_icmp .ge 23, 3), (72, .iinc 1 1, 3), (75, .goto (-63), 3), (52, .aload_n 0, 1), (53, .iload_n 1, 1), (54, .invokevirtual 438, 3), (57, .ifCond .eq 15, 3), (60, .aload_n 0, 1), (61, .iload_n 1, 1), (62, .iload_n 2, 1), (63, .invokevirtual 445, 3), (66, .iinc 2 1, 3), (69, .goto (-35), 3)] = true := by decide +kernel
theorem dX12_check_0 : decode cX12_check 0 = .ok (.aload_n 0, 1) := dr9 dk9_dX12_check_0_0.1 0 (0, .aload_n 0, 1) rfl
theorem dX12_check_1 : decode cX12_check 1 = .ok (.iconst 0, 1) := dr9 dk9_dX12_check_0_0.1 1 (1, .iconst 0, 1) rfl
theorem dX12_check_2 : decode cX12_check 2 = .ok (.putfield 1, 3) := dr9 dk9_dX12_check_0_0.1 2 (2, .putfield 1, 3) rfl
theorem dX12_check_5 : decode cX12_check 5 = .ok (.aload_n 0, 1) := dr9 dk9_dX12_check_0_0.1 3 (5, .aload_n 0, 1) rfl
theorem dX12_check_6 : decode cX12_check 6 = .ok (.iconst 0, 1) := dr9 dk9_dX12_check_0_0.1 4 (6, .iconst 0, 1) rfl
theorem dX12_check_7 : decode cX12_check 7 = .ok (.putfield 435, 3) := dr9 dk9_dX12_check_0_0.1 5 (7, .putfield 435, 3) rfl
theorem dX12_check_10 : decode cX12_check 10 = .ok (.iconst 0, 1) := dr9 dk9_dX12_check_0_0.1 6 (10, .iconst 0, 1) rfl
theorem dX12_check_11 : decode cX12_check 11 = .ok (.istore_n 1, 1) := dr9 dk9_dX12_check_0_0.1 7 (11, .istore_n 1, 1) rfl
theorem dX12_check_12 : decode cX12_check 12 = .ok (.iload_n 1, 1) := dr9 dk9_dX12_check_0_0.1 8 (12, .iload_n 1, 1) rfl
theorem dX12_check_13 : decode cX12_check 13 = .ok (.aload_n 0, 1) := dr9 dk9_dX12_check_0_0.1 9 (13, .aload_n 0, 1) rfl
theorem dX12_check_14 : decode cX12_check 14 = .ok (.getfield 62, 3) := dr9 dk9_dX12_check_0_0.1 10 (14, .getfield 62, 3) rfl
theorem dX12_check_17 : decode cX12_check 17 = .ok (.aload_n 0, 1) := dr9 dk9_dX12_check_0_0.1 11 (17, .aload_n 0, 1) rfl
theorem dX12_check_18 : decode cX12_check 18 = .ok (.getfield 286, 3) := dr9 dk9_dX12_check_0_0.1 12 (18, .getfield 286, 3) rfl
theorem dX12_check_21 : decode cX12_check 21 = .ok (.iaload, 1) := dr9 dk9_dX12_check_0_0.1 13 (21, .iaload, 1) rfl
theorem dX12_check_22 : decode cX12_check 22 = .ok (.if_icmp .ge 56, 3) := dr9 dk9_dX12_check_0_0.1 14 (22, .if_icmp .ge 56, 3) rfl
theorem dX12_check_78 : decode cX12_check 78 = .ok (.aload_n 0, 1) := dr9 dk9_dX12_check_0_0.1 15 (78, .aload_n 0, 1) rfl
theorem dX12_check_79 : decode cX12_check 79 = .ok (.iconst 0, 1) := dr9 dk9_dX12_check_0_0.1 16 (79, .iconst 0, 1) rfl
theorem dX12_check_80 : decode cX12_check 80 = .ok (.putfield 449, 3) := dr9 dk9_dX12_check_0_0.1 17 (80, .putfield 449, 3) rfl
theorem dX12_check_83 : decode cX12_check 83 = .ok (.iconst 0, 1) := dr9 dk9_dX12_check_0_0.1 18 (83, .iconst 0, 1) rfl
theorem dX12_check_84 : decode cX12_check 84 = .ok (.istore_n 1, 1) := dr9 dk9_dX12_check_0_0.1 19 (84, .istore_n 1, 1) rfl
theorem dX12_check_85 : decode cX12_check 85 = .ok (.iload_n 1, 1) := dr9 dk9_dX12_check_0_0.1 20 (85, .iload_n 1, 1) rfl
theorem dX12_check_86 : decode cX12_check 86 = .ok (.aload_n 0, 1) := dr9 dk9_dX12_check_0_0.1 21 (86, .aload_n 0, 1) rfl
theorem dX12_check_87 : decode cX12_check 87 = .ok (.getfield 62, 3) := dr9 dk9_dX12_check_0_0.1 22 (87, .getfield 62, 3) rfl
theorem dX12_check_90 : decode cX12_check 90 = .ok (.aload_n 0, 1) := dr9 dk9_dX12_check_0_0.1 23 (90, .aload_n 0, 1) rfl
theorem dX12_check_91 : decode cX12_check 91 = .ok (.getfield 286, 3) := dr9 dk9_dX12_check_0_0.2.1 0 (91, .getfield 286, 3) rfl
theorem dX12_check_94 : decode cX12_check 94 = .ok (.iaload, 1) := dr9 dk9_dX12_check_0_0.2.1 1 (94, .iaload, 1) rfl
theorem dX12_check_95 : decode cX12_check 95 = .ok (.if_icmp .ge 31, 3) := dr9 dk9_dX12_check_0_0.2.1 2 (95, .if_icmp .ge 31, 3) rfl
theorem dX12_check_126 : decode cX12_check 126 = .ok (.aload_n 0, 1) := dr9 dk9_dX12_check_0_0.2.1 3 (126, .aload_n 0, 1) rfl
theorem dX12_check_127 : decode cX12_check 127 = .ok (.aload_n 0, 1) := dr9 dk9_dX12_check_0_0.2.1 4 (127, .aload_n 0, 1) rfl
theorem dX12_check_128 : decode cX12_check 128 = .ok (.getfield 408, 3) := dr9 dk9_dX12_check_0_0.2.1 5 (128, .getfield 408, 3) rfl
theorem dX12_check_131 : decode cX12_check 131 = .ok (.ifCond .ne 10, 3) := dr9 dk9_dX12_check_0_0.2.1 6 (131, .ifCond .ne 10, 3) rfl
theorem dX12_check_141 : decode cX12_check 141 = .ok (.iconst 1, 1) := dr9 dk9_dX12_check_0_0.2.1 7 (141, .iconst 1, 1) rfl
theorem dX12_check_142 : decode cX12_check 142 = .ok (.goto 4, 3) := dr9 dk9_dX12_check_0_0.2.1 8 (142, .goto 4, 3) rfl
theorem dX12_check_146 : decode cX12_check 146 = .ok (.putfield 408, 3) := dr9 dk9_dX12_check_0_0.2.1 9 (146, .putfield 408, 3) rfl
theorem dX12_check_149 : decode cX12_check 149 = .ok (.aload_n 0, 1) := dr9 dk9_dX12_check_0_0.2.1 10 (149, .aload_n 0, 1) rfl
theorem dX12_check_150 : decode cX12_check 150 = .ok (.getfield 435, 3) := dr9 dk9_dX12_check_0_0.2.1 11 (150, .getfield 435, 3) rfl
theorem dX12_check_153 : decode cX12_check 153 = .ok (.ireturn, 1) := dr9 dk9_dX12_check_0_0.2.1 12 (153, .ireturn, 1) rfl
theorem dX12_check_134 : decode cX12_check 134 = .ok (.aload_n 0, 1) := dr9 dk9_dX12_check_0_0.2.1 13 (134, .aload_n 0, 1) rfl
theorem dX12_check_135 : decode cX12_check 135 = .ok (.getfield 435, 3) := dr9 dk9_dX12_check_0_0.2.1 14 (135, .getfield 435, 3) rfl
theorem dX12_check_138 : decode cX12_check 138 = .ok (.ifCond .ne 7, 3) := dr9 dk9_dX12_check_0_0.2.1 15 (138, .ifCond .ne 7, 3) rfl
theorem dX12_check_145 : decode cX12_check 145 = .ok (.iconst 0, 1) := dr9 dk9_dX12_check_0_0.2.1 16 (145, .iconst 0, 1) rfl
theorem dX12_check_98 : decode cX12_check 98 = .ok (.aload_n 0, 1) := dr9 dk9_dX12_check_0_0.2.1 17 (98, .aload_n 0, 1) rfl
theorem dX12_check_99 : decode cX12_check 99 = .ok (.iload_n 1, 1) := dr9 dk9_dX12_check_0_0.2.1 18 (99, .iload_n 1, 1) rfl
theorem dX12_check_100 : decode cX12_check 100 = .ok (.invokevirtual 438, 3) := dr9 dk9_dX12_check_0_0.2.1 19 (100, .invokevirtual 438, 3) rfl
theorem dX12_check_103 : decode cX12_check 103 = .ok (.ifCond .eq 17, 3) := dr9 dk9_dX12_check_0_0.2.1 20 (103, .ifCond .eq 17, 3) rfl
theorem dX12_check_120 : decode cX12_check 120 = .ok (.iinc 1 1, 3) := dr9 dk9_dX12_check_0_0.2.1 21 (120, .iinc 1 1, 3) rfl
theorem dX12_check_123 : decode cX12_check 123 = .ok (.goto (-38), 3) := dr9 dk9_dX12_check_0_0.2.1 22 (123, .goto (-38), 3) rfl
theorem dX12_check_106 : decode cX12_check 106 = .ok (.aload_n 0, 1) := dr9 dk9_dX12_check_0_0.2.1 23 (106, .aload_n 0, 1) rfl
theorem dX12_check_107 : decode cX12_check 107 = .ok (.getfield 216, 3) := dr9 dk9_dX12_check_0_0.2.2.1 0 (107, .getfield 216, 3) rfl
theorem dX12_check_110 : decode cX12_check 110 = .ok (.iload_n 1, 1) := dr9 dk9_dX12_check_0_0.2.2.1 1 (110, .iload_n 1, 1) rfl
theorem dX12_check_111 : decode cX12_check 111 = .ok (.iaload, 1) := dr9 dk9_dX12_check_0_0.2.2.1 2 (111, .iaload, 1) rfl
theorem dX12_check_112 : decode cX12_check 112 = .ok (.ifCond .ne 8, 3) := dr9 dk9_dX12_check_0_0.2.2.1 3 (112, .ifCond .ne 8, 3) rfl
theorem dX12_check_115 : decode cX12_check 115 = .ok (.aload_n 0, 1) := dr9 dk9_dX12_check_0_0.2.2.1 4 (115, .aload_n 0, 1) rfl
theorem dX12_check_116 : decode cX12_check 116 = .ok (.iload_n 1, 1) := dr9 dk9_dX12_check_0_0.2.2.1 5 (116, .iload_n 1, 1) rfl
theorem dX12_check_117 : decode cX12_check 117 = .ok (.invokevirtual 452, 3) := dr9 dk9_dX12_check_0_0.2.2.1 6 (117, .invokevirtual 452, 3) rfl
theorem dX12_check_25 : decode cX12_check 25 = .ok (.aload_n 0, 1) := dr9 dk9_dX12_check_0_0.2.2.1 7 (25, .aload_n 0, 1) rfl
theorem dX12_check_26 : decode cX12_check 26 = .ok (.getfield 216, 3) := dr9 dk9_dX12_check_0_0.2.2.1 8 (26, .getfield 216, 3) rfl
theorem dX12_check_29 : decode cX12_check 29 = .ok (.iload_n 1, 1) := dr9 dk9_dX12_check_0_0.2.2.1 9 (29, .iload_n 1, 1) rfl
theorem dX12_check_30 : decode cX12_check 30 = .ok (.iconst 0, 1) := dr9 dk9_dX12_check_0_0.2.2.1 10 (30, .iconst 0, 1) rfl
theorem dX12_check_31 : decode cX12_check 31 = .ok (.iastore, 1) := dr9 dk9_dX12_check_0_0.2.2.1 11 (31, .iastore, 1) rfl
theorem dX12_check_32 : decode cX12_check 32 = .ok (.iconst 0, 1) := dr9 dk9_dX12_check_0_0.2.2.1 12 (32, .iconst 0, 1) rfl
theorem dX12_check_33 : decode cX12_check 33 = .ok (.istore_n 2, 1) := dr9 dk9_dX12_check_0_0.2.2.1 13 (33, .istore_n 2, 1) rfl
theorem dX12_check_34 : decode cX12_check 34 = .ok (.iload_n 2, 1) := dr9 dk9_dX12_check_0_0.2.2.1 14 (34, .iload_n 2, 1) rfl
theorem dX12_check_35 : decode cX12_check 35 = .ok (.aload_n 0, 1) := dr9 dk9_dX12_check_0_0.2.2.1 15 (35, .aload_n 0, 1) rfl
theorem dX12_check_36 : decode cX12_check 36 = .ok (.getfield 86, 3) := dr9 dk9_dX12_check_0_0.2.2.1 16 (36, .getfield 86, 3) rfl
theorem dX12_check_39 : decode cX12_check 39 = .ok (.bipush 24, 2) := dr9 dk9_dX12_check_0_0.2.2.1 17 (39, .bipush 24, 2) rfl
theorem dX12_check_41 : decode cX12_check 41 = .ok (.aload_n 0, 1) := dr9 dk9_dX12_check_0_0.2.2.1 18 (41, .aload_n 0, 1) rfl
theorem dX12_check_42 : decode cX12_check 42 = .ok (.getfield 286, 3) := dr9 dk9_dX12_check_0_0.2.2.1 19 (42, .getfield 286, 3) rfl
theorem dX12_check_45 : decode cX12_check 45 = .ok (.imul, 1) := dr9 dk9_dX12_check_0_0.2.2.1 20 (45, .imul, 1) rfl
theorem dX12_check_46 : decode cX12_check 46 = .ok (.iload_n 1, 1) := dr9 dk9_dX12_check_0_0.2.2.1 21 (46, .iload_n 1, 1) rfl
theorem dX12_check_47 : decode cX12_check 47 = .ok (.iadd, 1) := dr9 dk9_dX12_check_0_0.2.2.1 22 (47, .iadd, 1) rfl
theorem dX12_check_48 : decode cX12_check 48 = .ok (.iaload, 1) := dr9 dk9_dX12_check_0_0.2.2.1 23 (48, .iaload, 1) rfl
theorem dX12_check_49 : decode cX12_check 49 = .ok (.if_icmp .ge 23, 3) := dr9 dk9_dX12_check_0_0.2.2.2 0 (49, .if_icmp .ge 23, 3) rfl
theorem dX12_check_72 : decode cX12_check 72 = .ok (.iinc 1 1, 3) := dr9 dk9_dX12_check_0_0.2.2.2 1 (72, .iinc 1 1, 3) rfl
theorem dX12_check_75 : decode cX12_check 75 = .ok (.goto (-63), 3) := dr9 dk9_dX12_check_0_0.2.2.2 2 (75, .goto (-63), 3) rfl
theorem dX12_check_52 : decode cX12_check 52 = .ok (.aload_n 0, 1) := dr9 dk9_dX12_check_0_0.2.2.2 3 (52, .aload_n 0, 1) rfl
theorem dX12_check_53 : decode cX12_check 53 = .ok (.iload_n 1, 1) := dr9 dk9_dX12_check_0_0.2.2.2 4 (53, .iload_n 1, 1) rfl
theorem dX12_check_54 : decode cX12_check 54 = .ok (.invokevirtual 438, 3) := dr9 dk9_dX12_check_0_0.2.2.2 5 (54, .invokevirtual 438, 3) rfl
theorem dX12_check_57 : decode cX12_check 57 = .ok (.ifCond .eq 15, 3) := dr9 dk9_dX12_check_0_0.2.2.2 6 (57, .ifCond .eq 15, 3) rfl
theorem dX12_check_60 : decode cX12_check 60 = .ok (.aload_n 0, 1) := dr9 dk9_dX12_check_0_0.2.2.2 7 (60, .aload_n 0, 1) rfl
theorem dX12_check_61 : decode cX12_check 61 = .ok (.iload_n 1, 1) := dr9 dk9_dX12_check_0_0.2.2.2 8 (61, .iload_n 1, 1) rfl
theorem dX12_check_62 : decode cX12_check 62 = .ok (.iload_n 2, 1) := dr9 dk9_dX12_check_0_0.2.2.2 9 (62, .iload_n 2, 1) rfl
theorem dX12_check_63 : decode cX12_check 63 = .ok (.invokevirtual 445, 3) := dr9 dk9_dX12_check_0_0.2.2.2 10 (63, .invokevirtual 445, 3) rfl
theorem dX12_check_66 : decode cX12_check 66 = .ok (.iinc 2 1, 3) := dr9 dk9_dX12_check_0_0.2.2.2 11 (66, .iinc 2 1, 3) rfl
theorem dX12_check_69 : decode cX12_check 69 = .ok (.goto (-35), 3) := dr9 dk9_dX12_check_0_0.2.2.2 12 (69, .goto (-35), 3) rfl
abbrev r_s_visits24 : Room := { frames := 248, cells := 0, slots := 0, locals := 7460 }
abbrev q_s_visits24 (D : va_G) (ks : KS) (ad : Nat → Nat) (kk : Nat → ClassId) (V : Vf) (L : Lf) (p0 : Int32) (FM : Int) (A : Nat → Prop) : Array Value → State → Outcome → State → Prop := q_s_visits D ks ad kk V L p0 FM A
theorem s_visits24 (l : Launch) (D : va_G) (ks : KS) (sz : Nat) (ad : Nat → Nat) (kk : Nat → ClassId) (V : Vf) (L : Lf) (p0 : Int32) (FM : Int) (hMV : rgd bM V) (rg_p0 : 0 ≤ p0.toInt ∧ p0.toInt ≤ 23) (v2 : (V 0 89).toInt + (cz V 24 : Int) ≤ 24) (v3 : (V 87 (Int32.toNatClampNeg p0)).toInt = 0) (v4 : WY V) (v5 : (V 0 81).toInt + 192 * (cz V 24 : Int) ≤ FM) (v7 : FM ≤ 999000) (v6 : p0.toInt < (V 19 (nwh V)).toInt) (tb : TB V) : Met l yX12_visits (Cond.code yX12_visits cX12_visits 5 none :: GW) r_s_visits24 (va_Pc [.ref (ad 0), .int p0] (gp D ks (mw ad kk ks.1 V L) (mty kk) sz)) (q_s_visits24 D ks ad kk V L p0 FM (va_A (mw ad kk ks.1 V L) sz)) 0 0 (va_A (mw ad kk ks.1 V L) sz) :=
  K_visits 24 sz ad kk V L p0 FM hMV rg_p0 (by have h9 := cz_le V 24; omega) v2 v3 v4 v5 v7 v6 tb

abbrev r_s_check2 : Room := { frames := 249, cells := 0, slots := 0, locals := 7484 }
abbrev q_s_check2 (D : va_G) (ks : KS) (ad : Nat → Nat) (kk : Nat → ClassId) (V : Vf) (L : Lf) (A : Nat → Prop) : Array Value → State → Outcome → State → Prop := va_Qi (fun (r : Int32) (u : Vf × Lf) => rgd bM u.1 ∧ agr [(0, 0), (0, 54), (0, 81), (0, 89)] [80, 82, 83, 84, 85, 86, 87, 88] V u.1 ∧ u.2 = L ∧ (RD u.1) ∧ (Imp ((V 0 54).toInt = 1) ((u.1 0 54).toInt = 1))) (fun u t => gq D A (mw ad kk ks.1 u.1 u.2) (mty kk) t) A
set_option maxHeartbeats 4000000 in
set_option maxRecDepth 100000 in
theorem s_check2 (l : Launch) (D : va_G) (ks : KS) (sz : Nat) (ad : Nat → Nat) (kk : Nat → ClassId) (V : Vf) (L : Lf)  (hMV : rgd bM V) (tb : TB V) (rd : RD V)  : Met l yX12_check (Cond.code yX12_check cX12_check 3 (some .int) :: GW) r_s_check2 (va_Pc [.ref (ad 0)] (gp D ks (mw ad kk ks.1 V L) (mty kk) sz)) (q_s_check2 D ks ad kk V L  (va_A (mw ad kk ks.1 V L) sz)) 0 0 (va_A (mw ad kk ks.1 V L) sz) := by
  refine g_met (q_s_check2 D ks ad kk V L) (by decide) (Nat.le_of_ble_eq_true rfl) ?_
  intro p e s m below meth c A ls H locs hx hb hr hml hown hg hlocks hin hnw hgk hP hK hD hS hA hl
  have hown : s.vm.findClass RX12 = some m.cls := hown
  have hl : lv_has ls 3 [(0, .ref (ad 0))] := hl
  have hP : va_P D vwCl (mw ad kk ks.1 V L) H := hP
  have hD : va_D A (mw ad kk ks.1 V L) := hD
  have hK : va_K D vwCl (mty kk) s := hK
  have agV : agr [(0, 0), (0, 54), (0, 81), (0, 89)] [80, 82, 83, 84, 85, 86, 87, 88] V V := agr.rf
  refine lv_aload_n hx hb dX12_check_0 rfl (lv_at hl 0 rfl) ?_
  refine lv_iconst (v := 0) hx hb dX12_check_1 (by decide) ?_
  refine va_put (D := D) (ci := 12) (v := .int 0) (ty := tyX12 0) (C := RX12) (T := TX12) (N := 100) hx hb hg inX12 tyX12 tyX12_ok nmX12 hown hK hP hD hS 0 rfl rfl 0 (by decide) (hg _ w1706) (fun _ h9 => h9) rfl (tyX12_ok 0 (by decide)) rfl rfl (Nat.le_of_ble_eq_true rfl) dX12_check_2 (fun H locs hP hD hS => ?_)
  obtain ⟨V1, hV1⟩ : ∃ z, z = up2 V 0 0 0 := ⟨_, rfl⟩
  have hP : va_P D vwCl (mw ad kk ks.1 V1 L) H := by rw [hV1]; exact hP
  have hD : va_D A (mw ad kk ks.1 V1 L) := by rw [hV1]; exact hD
  have hMV1 : rgd bM V1 := hMV.put hV1 (i_full _)
  have agV1 : agr [(0, 0), (0, 54), (0, 81), (0, 89)] [80, 82, 83, 84, 85, 86, 87, 88] V V1 := agV.up hV1 rfl
  refine lv_aload_n hx hb dX12_check_5 rfl (lv_at hl 0 rfl) ?_
  refine lv_iconst (v := 0) hx hb dX12_check_6 (by decide) ?_
  refine va_put (D := D) (ci := 12) (v := .int 0) (ty := tyX12 81) (C := RX12) (T := TX12) (N := 100) hx hb hg inX12 tyX12 tyX12_ok nmX12 hown hK hP hD hS 0 rfl rfl 81 (by decide) (hg _ w1787) (fun _ h9 => h9) rfl (tyX12_ok 81 (by decide)) rfl rfl (Nat.le_of_ble_eq_true rfl) dX12_check_7 (fun H locs hP hD hS => ?_)
  obtain ⟨V2, hV2⟩ : ∃ z, z = up2 V1 0 81 0 := ⟨_, rfl⟩
  have hP : va_P D vwCl (mw ad kk ks.1 V2 L) H := by rw [hV2]; exact hP
  have hD : va_D A (mw ad kk ks.1 V2 L) := by rw [hV2]; exact hD
  have hMV2 : rgd bM V2 := hMV1.put hV2 (by decide)
  have agV2 : agr [(0, 0), (0, 54), (0, 81), (0, 89)] [80, 82, 83, 84, 85, 86, 87, 88] V V2 := agV1.up hV2 rfl
  refine lv_iconst (v := 0) hx hb dX12_check_10 (by decide) ?_
  refine lv_istore_n (lv' := [(1, .int 0), (0, .ref (ad 0))]) hx hb dX12_check_11 rfl hl (by decide) rfl (fun ls hl => ?_)
  have lp5 : ∀ (fulp5 : Nat) (y3 : Int32) (V4 : Vf) (H : Heap) (locs : List Loc) (ls : Array Slot), 0 ≤ y3.toInt ∧ y3.toInt ≤ 24 → (V4 0 81).toInt ≤ 8 * y3.toInt → (∀ d : Nat, (d : Int) < y3.toInt → (V4 87 d).toInt = 0) → Imp ((V4 0 81).toInt = 0) (DD V4 y3.toInt 0) → c0k V V4 → 24 - y3.toInt < (fulp5 : Int) → agr [(0, 81)] [80, 82, 83, 84, 86, 87] V2 V4 → rgd bM V4 → va_P D vwCl (mw ad kk ks.1 V4 L) H → va_D A (mw ad kk ks.1 V4 L) → va_S A s.heap H locs → lv_has ls 3 [(1, .int y3), (0, .ref (ad 0))] → W p l e r_s_check2 s m ([.ref (ad 0)] : List Value).toArray below meth c H locs 0 0 (MQ below (q_s_check2 D ks ad kk V L  A) ([.ref (ad 0)] : List Value).toArray s 0 0 A) (F0 m 12 ls []) := by
    intro fulp5
    induction fulp5 with
    | zero =>
      intro y3 V4 H locs ls klp5_0 xlp5_0 xlp5_1 xlp5_2 xlp5_3 hn ajV4 hMV4 hP hD hS hl
      exfalso; (first | exact om_9386ef0df612 klp5_0.2 hn | omega)
    | succ fulp5 ihlp5 =>
      intro y3 V4 H locs ls klp5_0 xlp5_0 xlp5_1 xlp5_2 xlp5_3 hn ajV4 hMV4 hP hD hS hl
      have agV4 : agr [(0, 0), (0, 54), (0, 81), (0, 89)] [80, 82, 83, 84, 85, 86, 87, 88] V V4 := agV2.tr ajV4 (by decide) (by decide)
      have r6 : 0 ≤ ((V4 0 81)).toInt ∧ ((V4 0 81)).toInt ≤ 1000000 := hMV4 0 81
      refine lv_iload_n hx hb dX12_check_12 rfl (lv_at hl 0 rfl) ?_
      refine lv_aload_n hx hb dX12_check_13 rfl (lv_at hl 1 rfl) ?_
      refine va_get (D := D) (ci := 12) (v := .ref (ad 19)) (C := RX12) (T := TX12) (N := 100) hx hb hg inX12 hown hK hP 0 rfl rfl 19 (by decide) (hg _ w1725) (fun _ h9 => h9) rfl dX12_check_14 ?_
      refine lv_aload_n hx hb dX12_check_17 rfl (lv_at hl 1 rfl) ?_
      refine va_get (D := D) (ci := 12) (v := .int (V4 0 11)) (C := RX12) (T := TX12) (N := 100) hx hb hg inX12 hown hK hP 0 rfl rfl 11 (by decide) (hg _ w1717) (fun _ h9 => h9) rfl dX12_check_18 ?_
      refine g_top (v := (V 0 11)) ((ajV4 0 11 rfl).trans ((up2_k hV2 (by decide)).trans (up2_k hV1 (by decide)))) ?_
      have r7 : 0 ≤ ((V 0 11)).toInt ∧ ((V 0 11)).toInt ≤ 1 := hMV 0 11
      refine va_iald (D := D) (i := (V 0 11)) hx hb hK hP 12 11 rfl rfl (i_in (a := ((V 0 11)).toInt) rfl (by first | exact om_8367a84723c7 r7.1 r7.2 | first | omega | ((try (have i_rd := Imp.go rd (by omega))); (try (have i_tb := Imp.go tb (by omega))); (try (have i_tb := Imp.go tb (by omega))); (try (have i_rd := Imp.go rd (by omega))); omega))) dX12_check_21 ?_
      refine g_top (v := (V 19 (Int32.toNatClampNeg (V 0 11)))) ((ajV4 19 (Int32.toNatClampNeg (V 0 11)) rfl).trans ((up2_o hV2 (by decide)).trans (up2_o hV1 (by decide)))) ?_
      have r8 : 0 ≤ ((V 19 (Int32.toNatClampNeg (V 0 11)))).toInt ∧ ((V 19 (Int32.toNatClampNeg (V 0 11)))).toInt ≤ 24 := hMV 19 (Int32.toNatClampNeg (V 0 11))
      refine lv_icmp_ge (tgt := 78) hx hb dX12_check_22 (by decide) (fun c9 => ?_) (fun c9 => ?_)
      · skip
        have f10 : ((V 19 (Int32.toNatClampNeg (V 0 11)))).toInt ≤ y3.toInt := b_le rfl rfl c9
        have czl0 := cz_le V4 24
        refine lv_aload_n hx hb dX12_check_78 rfl (lv_at hl 1 rfl) ?_
        refine lv_iconst (v := 0) hx hb dX12_check_79 (by decide) ?_
        refine va_put (D := D) (ci := 12) (v := .int 0) (ty := tyX12 89) (C := RX12) (T := TX12) (N := 100) hx hb hg inX12 tyX12 tyX12_ok nmX12 hown hK hP hD hS 0 rfl rfl 89 (by decide) (hg _ w1795) (fun _ h9 => h9) rfl (tyX12_ok 89 (by decide)) rfl rfl (Nat.le_of_ble_eq_true rfl) dX12_check_80 (fun H locs hP hD hS => ?_)
        obtain ⟨V11, hV11⟩ : ∃ z, z = up2 V4 0 89 0 := ⟨_, rfl⟩
        have hP : va_P D vwCl (mw ad kk ks.1 V11 L) H := by rw [hV11]; exact hP
        have hD : va_D A (mw ad kk ks.1 V11 L) := by rw [hV11]; exact hD
        have hMV11 : rgd bM V11 := hMV4.put hV11 (by decide)
        have agV11 : agr [(0, 0), (0, 54), (0, 81), (0, 89)] [80, 82, 83, 84, 85, 86, 87, 88] V V11 := agV4.up hV11 rfl
        refine lv_iconst (v := 0) hx hb dX12_check_83 (by decide) ?_
        refine lv_istore_n (lv' := [(1, .int 0), (0, .ref (ad 0))]) hx hb dX12_check_84 rfl hl (by decide) rfl (fun ls hl => ?_)
        have lp14 : ∀ (fulp14 : Nat) (y12 : Int32) (V13 : Vf) (H : Heap) (locs : List Loc) (ls : Array Slot), 0 ≤ y12.toInt ∧ y12.toInt ≤ 24 → (V13 0 89).toInt = 0 → (V13 0 81).toInt + 192 * (cz V13 24 : Int) ≤ 4800 → (∀ d : Nat, (d : Int) < (V 19 (nwh V)).toInt → (V13 87 d).toInt ≠ 1) → c0k V V13 → Imp ((V13 0 81).toInt = 0) (DD V13 (V 19 (nwh V)).toInt 0) → 24 - y12.toInt < (fulp14 : Int) → agr [(0, 81), (0, 89)] [80, 82, 83, 84, 85, 87, 88] V11 V13 → rgd bM V13 → va_P D vwCl (mw ad kk ks.1 V13 L) H → va_D A (mw ad kk ks.1 V13 L) → va_S A s.heap H locs → lv_has ls 3 [(1, .int y12), (0, .ref (ad 0))] → W p l e r_s_check2 s m ([.ref (ad 0)] : List Value).toArray below meth c H locs 0 0 (MQ below (q_s_check2 D ks ad kk V L  A) ([.ref (ad 0)] : List Value).toArray s 0 0 A) (F0 m 85 ls []) := by
          intro fulp14
          induction fulp14 with
          | zero =>
            intro y12 V13 H locs ls klp14_0 xlp14_0 xlp14_1 xlp14_2 xlp14_3 xlp14_4 hn ajV13 hMV13 hP hD hS hl
            exfalso; (first | exact om_9386ef0df612 klp14_0.2 hn | omega)
          | succ fulp14 ihlp14 =>
            intro y12 V13 H locs ls klp14_0 xlp14_0 xlp14_1 xlp14_2 xlp14_3 xlp14_4 hn ajV13 hMV13 hP hD hS hl
            have agV13 : agr [(0, 0), (0, 54), (0, 81), (0, 89)] [80, 82, 83, 84, 85, 86, 87, 88] V V13 := agV11.tr ajV13 (by decide) (by decide)
            have r15 : 0 ≤ ((V13 0 89)).toInt ∧ ((V13 0 89)).toInt ≤ 24 := hMV13 0 89
            have r16 : 0 ≤ ((V13 0 81)).toInt ∧ ((V13 0 81)).toInt ≤ 1000000 := hMV13 0 81
            refine lv_iload_n hx hb dX12_check_85 rfl (lv_at hl 0 rfl) ?_
            refine lv_aload_n hx hb dX12_check_86 rfl (lv_at hl 1 rfl) ?_
            refine va_get (D := D) (ci := 12) (v := .ref (ad 19)) (C := RX12) (T := TX12) (N := 100) hx hb hg inX12 hown hK hP 0 rfl rfl 19 (by decide) (hg _ w1725) (fun _ h9 => h9) rfl dX12_check_87 ?_
            refine lv_aload_n hx hb dX12_check_90 rfl (lv_at hl 1 rfl) ?_
            refine va_get (D := D) (ci := 12) (v := .int (V13 0 11)) (C := RX12) (T := TX12) (N := 100) hx hb hg inX12 hown hK hP 0 rfl rfl 11 (by decide) (hg _ w1717) (fun _ h9 => h9) rfl dX12_check_91 ?_
            refine g_top (v := (V 0 11)) ((ajV13 0 11 rfl).trans ((up2_k hV11 (by decide)).trans ((ajV4 0 11 rfl).trans ((up2_k hV2 (by decide)).trans (up2_k hV1 (by decide)))))) ?_
            refine va_iald (D := D) (i := (V 0 11)) hx hb hK hP 12 11 rfl rfl (i_in (a := ((V 0 11)).toInt) rfl (by first | exact om_8367a84723c7 r7.1 r7.2 | first | omega | ((try (have i_rd := Imp.go rd (by omega))); (try (have i_tb := Imp.go tb (by omega))); (try (have i_tb := Imp.go tb (by omega))); (try (have i_rd := Imp.go rd (by omega))); omega))) dX12_check_94 ?_
            refine g_top (v := (V 19 (Int32.toNatClampNeg (V 0 11)))) ((ajV13 19 (Int32.toNatClampNeg (V 0 11)) rfl).trans ((up2_o hV11 (by decide)).trans ((ajV4 19 (Int32.toNatClampNeg (V 0 11)) rfl).trans ((up2_o hV2 (by decide)).trans (up2_o hV1 (by decide)))))) ?_
            refine lv_icmp_ge (tgt := 126) hx hb dX12_check_95 (by decide) (fun c17 => ?_) (fun c17 => ?_)
            · skip
              have f18 : ((V 19 (Int32.toNatClampNeg (V 0 11)))).toInt ≤ y12.toInt := b_le rfl rfl c17
              refine lv_aload_n hx hb dX12_check_126 rfl (lv_at hl 1 rfl) ?_
              refine lv_aload_n hx hb dX12_check_127 rfl (lv_at hl 1 rfl) ?_
              refine va_get (D := D) (ci := 12) (v := .int (V13 0 54)) (C := RX12) (T := TX12) (N := 100) hx hb hg inX12 hown hK hP 0 rfl rfl 54 (by decide) (hg _ w1760) (fun _ h9 => h9) rfl dX12_check_128 ?_
              refine g_top (v := (V 0 54)) ((ajV13 0 54 rfl).trans ((up2_k hV11 (by decide)).trans ((ajV4 0 54 rfl).trans ((up2_k hV2 (by decide)).trans (up2_k hV1 (by decide)))))) ?_
              have r19 : 0 ≤ ((V 0 54)).toInt ∧ ((V 0 54)).toInt ≤ 1 := hMV 0 54
              refine lv_if_ne (tgt := 141) hx hb dX12_check_131 (by decide) (fun c20 => ?_) (fun c20 => ?_)
              · skip
                have f21 : ((V 0 54)).toInt ≠ 0 := b_neq rfl (by decide) c20
                refine lv_iconst (v := 1) hx hb dX12_check_141 (by decide) ?_
                refine lv_goto (tgt := 146) hx hb dX12_check_142 (by decide) ?_
                refine va_put (D := D) (ci := 12) (v := .int 1) (ty := tyX12 54) (C := RX12) (T := TX12) (N := 100) hx hb hg inX12 tyX12 tyX12_ok nmX12 hown hK hP hD hS 0 rfl rfl 54 (by decide) (hg _ w1760) (fun _ h9 => h9) rfl (tyX12_ok 54 (by decide)) rfl rfl (Nat.le_of_ble_eq_true rfl) dX12_check_146 (fun H locs hP hD hS => ?_)
                obtain ⟨V22, hV22⟩ : ∃ z, z = up2 V13 0 54 1 := ⟨_, rfl⟩
                have hP : va_P D vwCl (mw ad kk ks.1 V22 L) H := by rw [hV22]; exact hP
                have hD : va_D A (mw ad kk ks.1 V22 L) := by rw [hV22]; exact hD
                have hMV22 : rgd bM V22 := hMV13.put hV22 (by decide)
                have agV22 : agr [(0, 0), (0, 54), (0, 81), (0, 89)] [80, 82, 83, 84, 85, 86, 87, 88] V V22 := agV13.up hV22 rfl
                refine lv_aload_n hx hb dX12_check_149 rfl (lv_at hl 1 rfl) ?_
                refine va_get (D := D) (ci := 12) (v := .int (V22 0 81)) (C := RX12) (T := TX12) (N := 100) hx hb hg inX12 hown hK hP 0 rfl rfl 81 (by decide) (hg _ w1787) (fun _ h9 => h9) rfl dX12_check_150 ?_
                refine g_top (v := (V13 0 81)) (up2_k hV22 (by decide)) ?_
                have pq23 : (V22 0 54).toInt = 1 := (congrArg Int32.toInt (up2_s hV22)).trans (by decide)
                have a54 : agr [(0, 54)] [] V13 V22 := agr.up agr.rf hV22 rfl
                have c025 : c0k V V13 := xlp14_3
                have rd24 : RD V22 := fun _ => RD_st (RD_st (rd (by omega)) agV13 ⟨rfl, fun _ => rfl, fun _ => rfl, fun _ => rfl, fun _ => rfl, fun _ => rfl, fun _ => rfl⟩ c025) a54 ⟨rfl, fun _ => rfl, fun _ => rfl, fun _ => rfl, fun _ => rfl, fun _ => rfl, fun _ => rfl⟩ (c0k.ag a54 rfl)
                exact W.iret (v := (V13 0 81)) hx hb hr (fun t ht hW => ⟨⟨(V13 0 81), (V22, L), rfl, ⟨hMV22, agV22, rfl, rd24, (Imp.mk (fun hp => have hp : (V 0 54).toInt = 1 := hp; (show (V22 0 54).toInt = 1 from by first | exact om_710535a98d88 pq23 | first | omega | ((try (have i_rd := Imp.go rd (by omega))); (try (have i_tb := Imp.go tb (by omega))); (try (have i_tb := Imp.go tb (by omega))); (try (have i_rd := Imp.go rd (by omega))); omega))))⟩, by rw [ht]; exact hP, va_K.moved hW.alike hK, hD⟩, hS.F ht⟩) hS.2.2 dX12_check_153
              · skip
                have f26 : ((V 0 54)).toInt = 0 := b_eq rfl (by decide) c20
                refine lv_aload_n hx hb dX12_check_134 rfl (lv_at hl 1 rfl) ?_
                refine va_get (D := D) (ci := 12) (v := .int (V13 0 81)) (C := RX12) (T := TX12) (N := 100) hx hb hg inX12 hown hK hP 0 rfl rfl 81 (by decide) (hg _ w1787) (fun _ h9 => h9) rfl dX12_check_135 ?_
                refine lv_if_ne (tgt := 145) hx hb dX12_check_138 (by decide) (fun c27 => ?_) (fun c27 => ?_)
                · skip
                  have f28 : ((V13 0 81)).toInt ≠ 0 := b_neq rfl (by decide) c27
                  refine lv_iconst (v := 0) hx hb dX12_check_145 (by decide) ?_
                  refine va_put (D := D) (ci := 12) (v := .int 0) (ty := tyX12 54) (C := RX12) (T := TX12) (N := 100) hx hb hg inX12 tyX12 tyX12_ok nmX12 hown hK hP hD hS 0 rfl rfl 54 (by decide) (hg _ w1760) (fun _ h9 => h9) rfl (tyX12_ok 54 (by decide)) rfl rfl (Nat.le_of_ble_eq_true rfl) dX12_check_146 (fun H locs hP hD hS => ?_)
                  obtain ⟨V29, hV29⟩ : ∃ z, z = up2 V13 0 54 0 := ⟨_, rfl⟩
                  have hP : va_P D vwCl (mw ad kk ks.1 V29 L) H := by rw [hV29]; exact hP
                  have hD : va_D A (mw ad kk ks.1 V29 L) := by rw [hV29]; exact hD
                  have hMV29 : rgd bM V29 := hMV13.put hV29 (by decide)
                  have agV29 : agr [(0, 0), (0, 54), (0, 81), (0, 89)] [80, 82, 83, 84, 85, 86, 87, 88] V V29 := agV13.up hV29 rfl
                  refine lv_aload_n hx hb dX12_check_149 rfl (lv_at hl 1 rfl) ?_
                  refine va_get (D := D) (ci := 12) (v := .int (V29 0 81)) (C := RX12) (T := TX12) (N := 100) hx hb hg inX12 hown hK hP 0 rfl rfl 81 (by decide) (hg _ w1787) (fun _ h9 => h9) rfl dX12_check_150 ?_
                  refine g_top (v := (V13 0 81)) (up2_k hV29 (by decide)) ?_
                  have pq30 : (V29 0 54).toInt = 0 := (congrArg Int32.toInt (up2_s hV29)).trans (by decide)
                  have a54 : agr [(0, 54)] [] V13 V29 := agr.up agr.rf hV29 rfl
                  have rd31 : RD V29 := fun h1 => absurd h1 (by rw [up2_s hV29]; decide)
                  exact W.iret (v := (V13 0 81)) hx hb hr (fun t ht hW => ⟨⟨(V13 0 81), (V29, L), rfl, ⟨hMV29, agV29, rfl, rd31, (Imp.mk (fun hp => have hp : (V 0 54).toInt = 1 := hp; (show (V29 0 54).toInt = 1 from by first | omega | ((try (have i_rd := Imp.go rd (by omega))); (try (have i_tb := Imp.go tb (by omega))); (try (have i_tb := Imp.go tb (by omega))); (try (have i_rd := Imp.go rd (by omega))); omega))))⟩, by rw [ht]; exact hP, va_K.moved hW.alike hK, hD⟩, hS.F ht⟩) hS.2.2 dX12_check_153
                · skip
                  have f32 : ((V13 0 81)).toInt = 0 := b_eq rfl (by decide) c27
                  refine lv_iconst (v := 1) hx hb dX12_check_141 (by decide) ?_
                  refine lv_goto (tgt := 146) hx hb dX12_check_142 (by decide) ?_
                  refine va_put (D := D) (ci := 12) (v := .int 1) (ty := tyX12 54) (C := RX12) (T := TX12) (N := 100) hx hb hg inX12 tyX12 tyX12_ok nmX12 hown hK hP hD hS 0 rfl rfl 54 (by decide) (hg _ w1760) (fun _ h9 => h9) rfl (tyX12_ok 54 (by decide)) rfl rfl (Nat.le_of_ble_eq_true rfl) dX12_check_146 (fun H locs hP hD hS => ?_)
                  obtain ⟨V33, hV33⟩ : ∃ z, z = up2 V13 0 54 1 := ⟨_, rfl⟩
                  have hP : va_P D vwCl (mw ad kk ks.1 V33 L) H := by rw [hV33]; exact hP
                  have hD : va_D A (mw ad kk ks.1 V33 L) := by rw [hV33]; exact hD
                  have hMV33 : rgd bM V33 := hMV13.put hV33 (by decide)
                  have agV33 : agr [(0, 0), (0, 54), (0, 81), (0, 89)] [80, 82, 83, 84, 85, 86, 87, 88] V V33 := agV13.up hV33 rfl
                  refine lv_aload_n hx hb dX12_check_149 rfl (lv_at hl 1 rfl) ?_
                  refine va_get (D := D) (ci := 12) (v := .int (V33 0 81)) (C := RX12) (T := TX12) (N := 100) hx hb hg inX12 hown hK hP 0 rfl rfl 81 (by decide) (hg _ w1787) (fun _ h9 => h9) rfl dX12_check_150 ?_
                  refine g_top (v := (V13 0 81)) (up2_k hV33 (by decide)) ?_
                  have pq34 : (V33 0 54).toInt = 1 := (congrArg Int32.toInt (up2_s hV33)).trans (by decide)
                  have a54 : agr [(0, 54)] [] V13 V33 := agr.up agr.rf hV33 rfl
                  have rd35 : RD V33 := fun _ => RD_st (DD.RD (Imp.go xlp14_4 (by (first | exact om_b1799fcf2d63 r16.1 f32 | omega))) (by rw [(nwh_ag agV13 ⟨rfl, fun _ => rfl, fun _ => rfl, fun _ => rfl, fun _ => rfl, fun _ => rfl, fun _ => rfl⟩).2]; exact Int.le_refl _)) a54 ⟨rfl, fun _ => rfl, fun _ => rfl, fun _ => rfl, fun _ => rfl, fun _ => rfl, fun _ => rfl⟩ (c0k.ag a54 rfl)
                  exact W.iret (v := (V13 0 81)) hx hb hr (fun t ht hW => ⟨⟨(V13 0 81), (V33, L), rfl, ⟨hMV33, agV33, rfl, rd35, (Imp.mk (fun hp => have hp : (V 0 54).toInt = 1 := hp; (show (V33 0 54).toInt = 1 from by first | omega | ((try (have i_rd := Imp.go rd (by omega))); (try (have i_tb := Imp.go tb (by omega))); (try (have i_tb := Imp.go tb (by omega))); (try (have i_rd := Imp.go rd (by omega))); omega))))⟩, by rw [ht]; exact hP, va_K.moved hW.alike hK, hD⟩, hS.F ht⟩) hS.2.2 dX12_check_153
            · skip
              have f36 : y12.toInt < ((V 19 (Int32.toNatClampNeg (V 0 11)))).toInt := b_nle rfl rfl c17
              refine lv_aload_n hx hb dX12_check_98 rfl (lv_at hl 1 rfl) ?_
              refine lv_iload_n hx hb dX12_check_99 rfl (lv_at hl 0 rfl) ?_
              refine gA_int (gA_runV (As := [.int y12]) (rest := []) (ci := 12) (q0 := 0) hx hb hml hown hg hP hD hK hS hA hnw hgk (s_isThere2 l D ks H.size ad kk V13 L y12 hMV13 ) w2164 w2166 w117 w172 w2167 rfl rfl hdV_yX12_isThere ⟨Nat.le_of_ble_eq_true rfl, Nat.le_of_ble_eq_true rfl⟩ rfl hl.1 rfl (Nat.le_of_ble_eq_true rfl) dX12_check_100 ⟨Nat.le_of_ble_eq_true rfl, Nat.le_of_ble_eq_true rfl⟩) hP hD hK hS hA (fun z37 u38 H locs w39 hP hD hK hS => ?_)
              obtain ⟨rgz37, t40, t41, t42⟩ := w39
              have rgz37 : 0 ≤ z37.toInt ∧ z37.toInt ≤ 1 := rgz37
              have t40 : Imp (z37.toInt = 1) (0 ≤ y12.toInt ∧ y12.toInt ≤ 23) := t40
              have t41 : Imp (z37.toInt = 1) (th V13 (Int32.toNatClampNeg y12)) := t41
              have t42 : Imp (z37.toInt = 0) (0 ≤ y12.toInt → ¬ th V13 (Int32.toNatClampNeg y12)) := t42
              refine lv_if_eq (tgt := 120) hx hb dX12_check_103 (by decide) (fun c43 => ?_) (fun c43 => ?_)
              · skip
                have f44 : z37.toInt = 0 := b_eq rfl (by decide) c43
                obtain ⟨z45, ez45⟩ : ∃ y : Int32, y = y12 + 1 := ⟨_, rfl⟩
                have hz45 : z45.toInt = y12.toInt + 1 := i_add ez45 rfl (by decide) (by (first | exact om_ef5c713ba60b r8.2 klp14_0.1 f36 | omega))
                refine lv_iinc (v := z45) (lv' := [(1, .int z45), (0, .ref (ad 0))]) hx hb dX12_check_120 hl (k := 0) rfl (by rw [ez45]; rfl) (by decide) rfl (fun ls hl => ?_)
                refine lv_goto (tgt := 85) hx hb dX12_check_123 (by decide) ?_
                have c046 : c0k V V13 := xlp14_3
                exact ihlp14 z45 V13 H locs ls (by first | exact om_66f93e1729e3 r8.2 klp14_0.1 f36 hz45 | first | omega | ((try (have i_t40 := Imp.go t40 (by omega))); (try (have i_rd := Imp.go rd (by omega))); (try (have i_tb := Imp.go tb (by omega))); (try (have i_tb := Imp.go tb (by omega))); (try (have i_rd := Imp.go rd (by omega))); (try (have i_t40 := Imp.go t40 (by omega))); omega)) (show (V13 0 89).toInt = 0 from by first | exact om_b66ba74381d5 xlp14_0 | first | omega | ((try (have i_t40 := Imp.go t40 (by omega))); (try (have i_rd := Imp.go rd (by omega))); (try (have i_tb := Imp.go tb (by omega))); (try (have i_tb := Imp.go tb (by omega))); (try (have i_rd := Imp.go rd (by omega))); (try (have i_t40 := Imp.go t40 (by omega))); omega)) (show (V13 0 81).toInt + 192 * (cz V13 24 : Int) ≤ 4800 from by first | exact om_35839bd490a5 xlp14_1 | first | omega | ((try (have i_t40 := Imp.go t40 (by omega))); (try (have i_rd := Imp.go rd (by omega))); (try (have i_tb := Imp.go tb (by omega))); (try (have i_tb := Imp.go tb (by omega))); (try (have i_rd := Imp.go rd (by omega))); (try (have i_t40 := Imp.go t40 (by omega))); omega)) xlp14_2 c046 xlp14_4 (by first | exact om_9592d9319ffa hn hz45 | first | omega | ((try (have i_t40 := Imp.go t40 (by omega))); (try (have i_rd := Imp.go rd (by omega))); (try (have i_tb := Imp.go tb (by omega))); (try (have i_tb := Imp.go tb (by omega))); (try (have i_rd := Imp.go rd (by omega))); (try (have i_t40 := Imp.go t40 (by omega))); omega)) (agr.tr agr.rf ajV13 (by decide) (by decide)) hMV13 hP hD hS (lv_sub hl [0, 1] rfl)
              · skip
                have f47 : z37.toInt ≠ 0 := b_neq rfl (by decide) c43
                refine lv_aload_n hx hb dX12_check_106 rfl (lv_at hl 1 rfl) ?_
                refine va_get (D := D) (ci := 12) (v := .ref (ad 87)) (C := RX12) (T := TX12) (N := 100) hx hb hg inX12 hown hK hP 0 rfl rfl 87 (by decide) (hg _ w1793) (fun _ h9 => h9) rfl dX12_check_107 ?_
                refine lv_iload_n hx hb dX12_check_110 rfl (lv_at hl 0 rfl) ?_
                refine va_iald (D := D) (i := y12) hx hb hK hP 63 62 rfl rfl (i_in (a := y12.toInt) rfl (by first | exact om_b50422aacf88 r8.2 klp14_0.1 f36 | first | omega | ((try (have i_t40 := Imp.go t40 (by omega))); (try (have i_rd := Imp.go rd (by omega))); (try (have i_tb := Imp.go tb (by omega))); (try (have i_tb := Imp.go tb (by omega))); (try (have i_rd := Imp.go rd (by omega))); (try (have i_t40 := Imp.go t40 (by omega))); omega))) dX12_check_111 ?_
                have r48 : 0 ≤ ((V13 87 (Int32.toNatClampNeg y12))).toInt ∧ ((V13 87 (Int32.toNatClampNeg y12))).toInt ≤ 2 := hMV13 87 (Int32.toNatClampNeg y12)
                refine lv_if_ne (tgt := 120) hx hb dX12_check_112 (by decide) (fun c49 => ?_) (fun c49 => ?_)
                · skip
                  have f50 : ((V13 87 (Int32.toNatClampNeg y12))).toInt ≠ 0 := b_neq rfl (by decide) c49
                  obtain ⟨z51, ez51⟩ : ∃ y : Int32, y = y12 + 1 := ⟨_, rfl⟩
                  have hz51 : z51.toInt = y12.toInt + 1 := i_add ez51 rfl (by decide) (by (first | exact om_ef5c713ba60b r8.2 klp14_0.1 f36 | omega))
                  refine lv_iinc (v := z51) (lv' := [(1, .int z51), (0, .ref (ad 0))]) hx hb dX12_check_120 hl (k := 0) rfl (by rw [ez51]; rfl) (by decide) rfl (fun ls hl => ?_)
                  refine lv_goto (tgt := 85) hx hb dX12_check_123 (by decide) ?_
                  have c052 : c0k V V13 := xlp14_3
                  exact ihlp14 z51 V13 H locs ls (by first | exact om_c62257e9ef2f klp14_0.1 hz51 ((Imp.go t40 (imp_a (rgz37.1) (rgz37.2) (f47))).2) | first | omega | ((try (have i_t40 := Imp.go t40 (by omega))); (try (have i_rd := Imp.go rd (by omega))); (try (have i_tb := Imp.go tb (by omega))); (try (have i_tb := Imp.go tb (by omega))); (try (have i_rd := Imp.go rd (by omega))); (try (have i_t40 := Imp.go t40 (by omega))); omega)) (show (V13 0 89).toInt = 0 from by first | exact om_b66ba74381d5 xlp14_0 | first | omega | ((try (have i_t40 := Imp.go t40 (by omega))); (try (have i_rd := Imp.go rd (by omega))); (try (have i_tb := Imp.go tb (by omega))); (try (have i_tb := Imp.go tb (by omega))); (try (have i_rd := Imp.go rd (by omega))); (try (have i_t40 := Imp.go t40 (by omega))); omega)) (show (V13 0 81).toInt + 192 * (cz V13 24 : Int) ≤ 4800 from by first | exact om_35839bd490a5 xlp14_1 | first | omega | ((try (have i_t40 := Imp.go t40 (by omega))); (try (have i_rd := Imp.go rd (by omega))); (try (have i_tb := Imp.go tb (by omega))); (try (have i_tb := Imp.go tb (by omega))); (try (have i_rd := Imp.go rd (by omega))); (try (have i_t40 := Imp.go t40 (by omega))); omega)) xlp14_2 c052 xlp14_4 (by first | exact om_9592d9319ffa hn hz51 | first | omega | ((try (have i_t40 := Imp.go t40 (by omega))); (try (have i_rd := Imp.go rd (by omega))); (try (have i_tb := Imp.go tb (by omega))); (try (have i_tb := Imp.go tb (by omega))); (try (have i_rd := Imp.go rd (by omega))); (try (have i_t40 := Imp.go t40 (by omega))); omega)) (agr.tr agr.rf ajV13 (by decide) (by decide)) hMV13 hP hD hS (lv_sub hl [0, 1] rfl)
                · skip
                  have f53 : ((V13 87 (Int32.toNatClampNeg y12))).toInt = 0 := b_eq rfl (by decide) c49
                  have czl := cz_le V13 24
                  refine lv_aload_n hx hb dX12_check_115 rfl (lv_at hl 1 rfl) ?_
                  refine lv_iload_n hx hb dX12_check_116 rfl (lv_at hl 0 rfl) ?_
                  refine gA_void (gA_runV (As := [.int y12]) (rest := []) (ci := 12) (q0 := 0) hx hb hml hown hg hP hD hK hS hA hnw hgk (s_visits24 l D ks H.size ad kk V13 L y12 (4800) hMV13 (by first | exact om_8840667578a5 r8.2 klp14_0.1 f36 | first | omega | ((try (have i_t40 := Imp.go t40 (by omega))); (try (have i_rd := Imp.go rd (by omega))); (try (have i_tb := Imp.go tb (by omega))); (try (have i_tb := Imp.go tb (by omega))); (try (have i_rd := Imp.go rd (by omega))); (try (have i_t40 := Imp.go t40 (by omega))); omega)) (show (V13 0 89).toInt + (cz V13 24 : Int) ≤ 24 from by first | omega | ((try (have i_t40 := Imp.go t40 (by omega))); (try (have i_rd := Imp.go rd (by omega))); (try (have i_tb := Imp.go tb (by omega))); (try (have i_tb := Imp.go tb (by omega))); (try (have i_rd := Imp.go rd (by omega))); (try (have i_t40 := Imp.go t40 (by omega))); omega)) (show (V13 87 (Int32.toNatClampNeg y12)).toInt = 0 from by first | exact om_b1799fcf2d63 r48.1 f53 | first | omega | ((try (have i_t40 := Imp.go t40 (by omega))); (try (have i_rd := Imp.go rd (by omega))); (try (have i_tb := Imp.go tb (by omega))); (try (have i_tb := Imp.go tb (by omega))); (try (have i_rd := Imp.go rd (by omega))); (try (have i_t40 := Imp.go t40 (by omega))); omega)) (fun d hd h1 => absurd h1 (xlp14_2 d (by rw [(nwh_ag agV13 ⟨rfl, fun _ => rfl, fun _ => rfl, fun _ => rfl, fun _ => rfl, fun _ => rfl, fun _ => rfl⟩).2] at hd; exact hd))) (show (V13 0 81).toInt + 192 * (cz V13 24 : Int) ≤ (4800) from by first | exact om_35839bd490a5 xlp14_1 | first | omega | ((try (have i_t40 := Imp.go t40 (by omega))); (try (have i_rd := Imp.go rd (by omega))); (try (have i_tb := Imp.go tb (by omega))); (try (have i_tb := Imp.go tb (by omega))); (try (have i_rd := Imp.go rd (by omega))); (try (have i_t40 := Imp.go t40 (by omega))); omega)) (show (4800) ≤ 999000 from by first | omega | ((try (have i_t40 := Imp.go t40 (by omega))); (try (have i_rd := Imp.go rd (by omega))); (try (have i_tb := Imp.go tb (by omega))); (try (have i_tb := Imp.go tb (by omega))); (try (have i_rd := Imp.go rd (by omega))); (try (have i_t40 := Imp.go t40 (by omega))); omega)) (by rw [(nwh_ag agV13 ⟨rfl, fun _ => rfl, fun _ => rfl, fun _ => rfl, fun _ => rfl, fun _ => rfl, fun _ => rfl⟩).2]; show y12.toInt < (V 19 (Int32.toNatClampNeg (V 0 11))).toInt; first | omega | ((try (have i_t40 := Imp.go t40 (by omega))); (try (have i_rd := Imp.go rd (by omega))); (try (have i_tb := Imp.go tb (by omega))); (try (have i_tb := Imp.go tb (by omega))); (try (have i_rd := Imp.go rd (by omega))); (try (have i_t40 := Imp.go t40 (by omega))); omega)) (TB.ag tb hMV agV13 rfl (by decide) (by decide))) w2187 w2189 w122 w172 w2190 rfl rfl hdV_yX12_visits ⟨Nat.le_of_ble_eq_true rfl, Nat.le_of_ble_eq_true rfl⟩ rfl hl.1 rfl (Nat.le_of_ble_eq_true rfl) dX12_check_117 ⟨Nat.le_of_ble_eq_true rfl, Nat.le_of_ble_eq_true rfl⟩) hP hD hK hS hA (fun u55 H locs w56 hP hD hK hS => ?_)
                  obtain ⟨V63, L64⟩ := u55
                  obtain ⟨hMV63, ajV63, axL64, t57, t58, t59, t60, t61, t62⟩ := w56
                  have axL64 : L = L64 := Eq.symm axL64
                  subst axL64
                  have hP : va_P D vwCl (mw ad kk ks.1 V63 L) H := hP
                  have hD : va_D A (mw ad kk ks.1 V63 L) := hD
                  have hMV63 : rgd bM V63 := hMV63
                  have ajV63 : agr [(0, 81), (0, 89)] [80, 82, 83, 84, 85, 87, 88] V13 V63 := ajV63
                  have agV63 : agr [(0, 0), (0, 54), (0, 81), (0, 89)] [80, 82, 83, 84, 85, 86, 87, 88] V V63 := agV13.tr ajV63 (by decide) (by decide)
                  have t57 : (V63 0 89).toInt = (V13 0 89).toInt := t57
                  have t58 : (cz V63 24 : Int) + 1 ≤ (cz V13 24 : Int) := t58
                  have t59 : (V63 0 81).toInt + 192 * (cz V63 24 : Int) ≤ (4800) := t59
                  have t60 : (V13 0 81).toInt ≤ (V63 0 81).toInt := t60
                  have t61 : visP V13 V63 := t61
                  have t62 : c0k V13 V63 := t62
                  have r65 : 0 ≤ ((V63 0 89)).toInt ∧ ((V63 0 89)).toInt ≤ 24 := hMV63 0 89
                  have r66 : 0 ≤ ((V63 0 81)).toInt ∧ ((V63 0 81)).toInt ≤ 1000000 := hMV63 0 81
                  obtain ⟨z67, ez67⟩ : ∃ y : Int32, y = y12 + 1 := ⟨_, rfl⟩
                  have hz67 : z67.toInt = y12.toInt + 1 := i_add ez67 rfl (by decide) (by (first | exact om_ef5c713ba60b r8.2 klp14_0.1 f36 | omega))
                  refine lv_iinc (v := z67) (lv' := [(1, .int z67), (0, .ref (ad 0))]) hx hb dX12_check_120 hl (k := 0) rfl (by rw [ez67]; rfl) (by decide) rfl (fun ls hl => ?_)
                  refine lv_goto (tgt := 85) hx hb dX12_check_123 (by decide) ?_
                  have c068 : c0k V V63 := (c0k.tr (V := V) (W := V13) (X := V63) xlp14_3 t62 agV13 ⟨rfl, fun _ => rfl, fun _ => rfl, fun _ => rfl, fun _ => rfl, fun _ => rfl, fun _ => rfl⟩)
                  exact ihlp14 z67 V63 H locs ls (by first | exact om_c62257e9ef2f klp14_0.1 hz67 ((Imp.go t40 (imp_a (rgz37.1) (rgz37.2) (f47))).2) | first | omega | ((try (have i_t40 := Imp.go t40 (by omega))); (try (have i_rd := Imp.go rd (by omega))); (try (have i_tb := Imp.go tb (by omega))); (try (have i_tb := Imp.go tb (by omega))); (try (have i_rd := Imp.go rd (by omega))); (try (have i_t40 := Imp.go t40 (by omega))); omega)) (show (V63 0 89).toInt = 0 from by first | exact om_36161e850215 xlp14_0 t57 | first | omega | ((try (have i_t40 := Imp.go t40 (by omega))); (try (have i_rd := Imp.go rd (by omega))); (try (have i_tb := Imp.go tb (by omega))); (try (have i_tb := Imp.go tb (by omega))); (try (have i_rd := Imp.go rd (by omega))); (try (have i_t40 := Imp.go t40 (by omega))); omega)) (show (V63 0 81).toInt + 192 * (cz V63 24 : Int) ≤ 4800 from by first | exact om_35839bd490a5 t59 | first | omega | ((try (have i_t40 := Imp.go t40 (by omega))); (try (have i_rd := Imp.go rd (by omega))); (try (have i_tb := Imp.go tb (by omega))); (try (have i_tb := Imp.go tb (by omega))); (try (have i_rd := Imp.go rd (by omega))); (try (have i_t40 := Imp.go t40 (by omega))); omega)) (fun d hd h1 => xlp14_2 d hd (t61.1 d h1)) c068 (Imp.mk (fun hp => DD.st (Imp.go xlp14_4 (by omega)) ajV63 ⟨rfl, fun _ => rfl, fun _ => rfl, fun _ => rfl, fun _ => rfl, fun _ => rfl, fun _ => rfl⟩ t62)) (by first | exact om_9592d9319ffa hn hz67 | first | omega | ((try (have i_t40 := Imp.go t40 (by omega))); (try (have i_rd := Imp.go rd (by omega))); (try (have i_tb := Imp.go tb (by omega))); (try (have i_tb := Imp.go tb (by omega))); (try (have i_rd := Imp.go rd (by omega))); (try (have i_t40 := Imp.go t40 (by omega))); omega)) (agr.tr (agr.tr agr.rf ajV13 (by decide) (by decide)) ajV63 (by decide) (by decide)) hMV63 hP hD hS (lv_sub hl [0, 1] rfl)
        have r69 : Int32.toInt 0 = 0 := by decide
        have pq70 : (V11 0 89).toInt = 0 := (congrArg Int32.toInt (up2_s hV11)).trans (by decide)
        have cz71 : cz V11 24 = cz V4 24 := cz_o hV11 (by decide)
        have pq72 : (V11 0 81).toInt = ((V4 0 81)).toInt := congrArg Int32.toInt (up2_k hV11 (by decide))
        have e19c : (V 19 (nwh V)).toInt = (V 19 (Int32.toNatClampNeg (V 0 11))).toInt := rfl
        have c073 : c0k V V11 := (c0k.tr (V := V) (W := V4) (X := V11) xlp5_3 (Or.inl (up2_o hV11 (by decide))) agV4 ⟨rfl, fun _ => rfl, fun _ => rfl, fun _ => rfl, fun _ => rfl, fun _ => rfl, fun _ => rfl⟩)
        exact lp14 ((24 - (Int32.toInt 0) + 1 : Int).toNat) 0 V11 H locs ls (by decide) (show (V11 0 89).toInt = 0 from by first | exact om_b66ba74381d5 pq70 | first | omega | ((try (have i_rd := Imp.go rd (by omega))); (try (have i_tb := Imp.go tb (by omega))); (try (have i_tb := Imp.go tb (by omega))); (try (have i_rd := Imp.go rd (by omega))); omega)) (show (V11 0 81).toInt + 192 * (cz V11 24 : Int) ≤ 4800 from by first | omega | ((try (have i_rd := Imp.go rd (by omega))); (try (have i_tb := Imp.go tb (by omega))); (try (have i_tb := Imp.go tb (by omega))); (try (have i_rd := Imp.go rd (by omega))); omega)) (fun d hd h1 => by rw [(show agr [(0, 89)] [] V4 V11 from (agr.up agr.rf hV11 rfl)) 87 _ rfl] at h1; have h9 := xlp5_1 d (by omega); omega) c073 (Imp.mk (fun hp => DD.le (DD.st (Imp.go xlp5_2 (by omega)) (show agr [(0, 89)] [] V4 V11 from (agr.up agr.rf hV11 rfl)) ⟨rfl, fun _ => rfl, fun _ => rfl, fun _ => rfl, fun _ => rfl, fun _ => rfl, fun _ => rfl⟩ (c0k.ag (show agr [(0, 89)] [] V4 V11 from (agr.up agr.rf hV11 rfl)) rfl)) (by omega))) (by first | exact om_817980d3aa47 | first | omega | ((try (have i_rd := Imp.go rd (by omega))); (try (have i_tb := Imp.go tb (by omega))); (try (have i_tb := Imp.go tb (by omega))); (try (have i_rd := Imp.go rd (by omega))); omega)) agr.rf hMV11 hP hD hS (lv_sub hl [0, 1] rfl)
      · skip
        have f74 : y3.toInt < ((V 19 (Int32.toNatClampNeg (V 0 11)))).toInt := b_nle rfl rfl c9
        refine lv_aload_n hx hb dX12_check_25 rfl (lv_at hl 1 rfl) ?_
        refine va_get (D := D) (ci := 12) (v := .ref (ad 87)) (C := RX12) (T := TX12) (N := 100) hx hb hg inX12 hown hK hP 0 rfl rfl 87 (by decide) (hg _ w1793) (fun _ h9 => h9) rfl dX12_check_26 ?_
        refine lv_iload_n hx hb dX12_check_29 rfl (lv_at hl 0 rfl) ?_
        refine lv_iconst (v := 0) hx hb dX12_check_30 (by decide) ?_
        refine va_iast (D := D) (i := y3) (x := 0) hx hb hK hP hD hS 63 62 rfl rfl (i_in (a := y3.toInt) rfl (by first | exact om_f72f4702fe79 klp5_0.1 r8.2 f74 | first | omega | ((try (have i_rd := Imp.go rd (by omega))); (try (have i_tb := Imp.go tb (by omega))); (try (have i_tb := Imp.go tb (by omega))); (try (have i_rd := Imp.go rd (by omega))); omega))) dX12_check_31 (fun H locs hP hD hS => ?_)
        obtain ⟨V75, hV75⟩ : ∃ z, z = up2 V4 87 (Int32.toNatClampNeg y3) 0 := ⟨_, rfl⟩
        have hP : va_P D vwCl (mw ad kk ks.1 V75 L) H := by rw [hV75]; exact hP
        have hD : va_D A (mw ad kk ks.1 V75 L) := by rw [hV75]; exact hD
        have hMV75 : rgd bM V75 := hMV4.put hV75 (show 0 ≤ Int32.toInt 0 ∧ Int32.toInt 0 ≤ 2 from by decide)
        have agV75 : agr [(0, 0), (0, 54), (0, 81), (0, 89)] [80, 82, 83, 84, 85, 86, 87, 88] V V75 := agV4.up hV75 rfl
        refine lv_iconst (v := 0) hx hb dX12_check_32 (by decide) ?_
        refine lv_istore_n (lv' := [(2, .int 0), (1, .int y3), (0, .ref (ad 0))]) hx hb dX12_check_33 rfl hl (by decide) rfl (fun ls hl => ?_)
        have lp78 : ∀ (fulp78 : Nat) (y76 : Int32) (V77 : Vf) (H : Heap) (locs : List Loc) (ls : Array Slot), 0 ≤ y76.toInt ∧ y76.toInt ≤ 8 → (V77 0 81).toInt ≤ 8 * y3.toInt + y76.toInt → (∀ d : Nat, (d : Int) < y3.toInt + 1 → (V77 87 d).toInt = 0) → Imp ((V77 0 81).toInt = 0) (DD V77 y3.toInt y76.toInt) → c0k V V77 → 8 - y76.toInt < (fulp78 : Int) → agr [(0, 81)] [80, 82, 83, 84, 86] V75 V77 → rgd bM V77 → va_P D vwCl (mw ad kk ks.1 V77 L) H → va_D A (mw ad kk ks.1 V77 L) → va_S A s.heap H locs → lv_has ls 3 [(2, .int y76), (1, .int y3), (0, .ref (ad 0))] → W p l e r_s_check2 s m ([.ref (ad 0)] : List Value).toArray below meth c H locs 0 0 (MQ below (q_s_check2 D ks ad kk V L  A) ([.ref (ad 0)] : List Value).toArray s 0 0 A) (F0 m 34 ls []) := by
          intro fulp78
          induction fulp78 with
          | zero =>
            intro y76 V77 H locs ls klp78_0 xlp78_0 xlp78_1 xlp78_2 xlp78_3 hn ajV77 hMV77 hP hD hS hl
            exfalso; (first | exact om_e2d570575604 klp78_0.2 hn | omega)
          | succ fulp78 ihlp78 =>
            intro y76 V77 H locs ls klp78_0 xlp78_0 xlp78_1 xlp78_2 xlp78_3 hn ajV77 hMV77 hP hD hS hl
            have agV77 : agr [(0, 0), (0, 54), (0, 81), (0, 89)] [80, 82, 83, 84, 85, 86, 87, 88] V V77 := agV75.tr ajV77 (by decide) (by decide)
            have r79 : 0 ≤ ((V77 0 81)).toInt ∧ ((V77 0 81)).toInt ≤ 1000000 := hMV77 0 81
            refine lv_iload_n hx hb dX12_check_34 rfl (lv_at hl 0 rfl) ?_
            refine lv_aload_n hx hb dX12_check_35 rfl (lv_at hl 2 rfl) ?_
            refine va_get (D := D) (ci := 12) (v := .ref (ad 27)) (C := RX12) (T := TX12) (N := 100) hx hb hg inX12 hown hK hP 0 rfl rfl 27 (by decide) (hg _ w1733) (fun _ h9 => h9) rfl dX12_check_36 ?_
            refine lv_bipush (v := 24) hx hb dX12_check_39 (by decide) ?_
            refine lv_aload_n hx hb dX12_check_41 rfl (lv_at hl 2 rfl) ?_
            refine va_get (D := D) (ci := 12) (v := .int (V77 0 11)) (C := RX12) (T := TX12) (N := 100) hx hb hg inX12 hown hK hP 0 rfl rfl 11 (by decide) (hg _ w1717) (fun _ h9 => h9) rfl dX12_check_42 ?_
            refine g_top (v := (V 0 11)) ((ajV77 0 11 rfl).trans ((up2_o hV75 (by decide)).trans ((ajV4 0 11 rfl).trans ((up2_k hV2 (by decide)).trans (up2_k hV1 (by decide)))))) ?_
            refine lv_imul hx hb dX12_check_45 ?_
            refine lv_topi (fun z80 ez80 => ?_)
            have hz80 : z80.toInt = 24 * ((V 0 11)).toInt := i_mul ez80 (by decide) rfl (by (first | exact om_3f8aba7b6ce1 r7.1 r7.2 | omega))
            refine lv_iload_n hx hb dX12_check_46 rfl (lv_at hl 1 rfl) ?_
            refine lv_iadd hx hb dX12_check_47 ?_
            refine lv_topi (fun z81 ez81 => ?_)
            have hz81 : z81.toInt = z80.toInt + y3.toInt := i_add ez81 rfl rfl (by (first | exact om_140f5757d01d klp5_0.1 r7.1 r7.2 r8.2 f74 hz80 | omega))
            refine va_iald (D := D) (i := z81) hx hb hK hP 20 19 rfl rfl (i_in (a := z81.toInt) rfl (by first | exact om_af63ae00f401 klp5_0.1 r7.1 r7.2 r8.2 f74 hz80 hz81 | first | omega | ((try (have i_rd := Imp.go rd (by omega))); (try (have i_tb := Imp.go tb (by omega))); (try (have i_tb := Imp.go tb (by omega))); (try (have i_rd := Imp.go rd (by omega))); omega))) dX12_check_48 ?_
            refine g_top (v := (V 27 (Int32.toNatClampNeg z81))) ((ajV77 27 (Int32.toNatClampNeg z81) rfl).trans ((up2_o hV75 (by decide)).trans ((ajV4 27 (Int32.toNatClampNeg z81) rfl).trans ((up2_o hV2 (by decide)).trans (up2_o hV1 (by decide)))))) ?_
            have r82 : 0 ≤ ((V 27 (Int32.toNatClampNeg z81))).toInt ∧ ((V 27 (Int32.toNatClampNeg z81))).toInt ≤ 8 := hMV 27 (Int32.toNatClampNeg z81)
            refine lv_icmp_ge (tgt := 72) hx hb dX12_check_49 (by decide) (fun c83 => ?_) (fun c83 => ?_)
            · skip
              have f84 : ((V 27 (Int32.toNatClampNeg z81))).toInt ≤ y76.toInt := b_le rfl rfl c83
              have kn : (nwh V : Int) = (V 0 11).toInt := i_clamp (x := V 0 11) rfl (by (first | exact om_eafa9039069c r7.1 | omega))
              have kl1 := i_clamp (x := y3) rfl (by (first | exact om_eafa9039069c klp5_0.1 | omega))
              have e19b : (V 19 (nwh V)).toInt = (V 19 (Int32.toNatClampNeg (V 0 11))).toInt := rfl
              have ki : Int32.toNatClampNeg z81 = 24 * nwh V + Int32.toNatClampNeg y3 := by have h9 := i_clamp (x := z81) rfl (by (first | exact om_11587583f9f8 klp5_0.1 r7.1 hz80 hz81 | omega)); (first | exact om_513b2bd4b43e hz80 hz81 kn kl1 h9 | omega)
              have q27 : (V 27 (24 * nwh V + Int32.toNatClampNeg y3)).toInt = (V 27 (Int32.toNatClampNeg z81)).toInt := by rw [ki]
              obtain ⟨z85, ez85⟩ : ∃ y : Int32, y = y3 + 1 := ⟨_, rfl⟩
              have hz85 : z85.toInt = y3.toInt + 1 := i_add ez85 rfl (by decide) (by (first | exact om_d1b22b2ae31e klp5_0.1 r8.2 f74 | omega))
              refine lv_iinc (v := z85) (lv' := [(1, .int z85), (2, .int y76), (0, .ref (ad 0))]) hx hb dX12_check_72 hl (k := 1) rfl (by rw [ez85]; rfl) (by decide) rfl (fun ls hl => ?_)
              refine lv_goto (tgt := 12) hx hb dX12_check_75 (by decide) ?_
              have c086 : c0k V V77 := xlp78_3
              exact ihlp5 z85 V77 H locs ls (by first | exact om_5c2541dbcd85 klp5_0.1 r8.2 f74 hz85 | first | omega | ((try (have i_rd := Imp.go rd (by omega))); (try (have i_tb := Imp.go tb (by omega))); (try (have i_tb := Imp.go tb (by omega))); (try (have i_rd := Imp.go rd (by omega))); omega)) (show (V77 0 81).toInt ≤ 8 * z85.toInt from by first | exact om_d8544cdc4a51 klp78_0.2 xlp78_0 hz85 | first | omega | ((try (have i_rd := Imp.go rd (by omega))); (try (have i_tb := Imp.go tb (by omega))); (try (have i_tb := Imp.go tb (by omega))); (try (have i_rd := Imp.go rd (by omega))); omega)) (fun d hd => xlp78_1 d (by omega)) (Imp.mk (fun hp => by have h9 := DD.up1 (c := Int32.toNatClampNeg y3) (Imp.go xlp78_2 hp) (by omega) (Or.inl (by rw [(nwh_ag agV77 ⟨rfl, fun _ => rfl, fun _ => rfl, fun _ => rfl, fun _ => rfl, fun _ => rfl, fun _ => rfl⟩).1, agV77 27 _ rfl]; omega)); have e9 : z85.toInt = y3.toInt + 1 := (by omega); rw [e9]; exact h9)) c086 (by first | omega | ((try (have i_rd := Imp.go rd (by omega))); (try (have i_tb := Imp.go tb (by omega))); (try (have i_tb := Imp.go tb (by omega))); (try (have i_rd := Imp.go rd (by omega))); omega)) (agr.tr (agr.up (agr.tr agr.rf ajV4 (by decide) (by decide)) hV75 rfl) ajV77 (by decide) (by decide)) hMV77 hP hD hS (lv_sub hl [0, 2] rfl)
            · skip
              have f87 : y76.toInt < ((V 27 (Int32.toNatClampNeg z81))).toInt := b_nle rfl rfl c83
              have kn : (nwh V : Int) = (V 0 11).toInt := i_clamp (x := V 0 11) rfl (by (first | exact om_eafa9039069c r7.1 | omega))
              have kl1 := i_clamp (x := y3) rfl (by (first | exact om_eafa9039069c klp5_0.1 | omega))
              have e19b : (V 19 (nwh V)).toInt = (V 19 (Int32.toNatClampNeg (V 0 11))).toInt := rfl
              have ki : Int32.toNatClampNeg z81 = 24 * nwh V + Int32.toNatClampNeg y3 := by have h9 := i_clamp (x := z81) rfl (by (first | exact om_11587583f9f8 klp5_0.1 r7.1 hz80 hz81 | omega)); (first | exact om_513b2bd4b43e hz80 hz81 kn kl1 h9 | omega)
              have q27 : (V 27 (24 * nwh V + Int32.toNatClampNeg y3)).toInt = (V 27 (Int32.toNatClampNeg z81)).toInt := by rw [ki]
              refine lv_aload_n hx hb dX12_check_52 rfl (lv_at hl 2 rfl) ?_
              refine lv_iload_n hx hb dX12_check_53 rfl (lv_at hl 1 rfl) ?_
              refine gA_int (gA_runV (As := [.int y3]) (rest := []) (ci := 12) (q0 := 0) hx hb hml hown hg hP hD hK hS hA hnw hgk (s_isThere2 l D ks H.size ad kk V77 L y3 hMV77 ) w2164 w2166 w117 w172 w2167 rfl rfl hdV_yX12_isThere ⟨Nat.le_of_ble_eq_true rfl, Nat.le_of_ble_eq_true rfl⟩ rfl hl.1 rfl (Nat.le_of_ble_eq_true rfl) dX12_check_54 ⟨Nat.le_of_ble_eq_true rfl, Nat.le_of_ble_eq_true rfl⟩) hP hD hK hS hA (fun z88 u89 H locs w90 hP hD hK hS => ?_)
              obtain ⟨rgz88, t91, t92, t93⟩ := w90
              have rgz88 : 0 ≤ z88.toInt ∧ z88.toInt ≤ 1 := rgz88
              have t91 : Imp (z88.toInt = 1) (0 ≤ y3.toInt ∧ y3.toInt ≤ 23) := t91
              have t92 : Imp (z88.toInt = 1) (th V77 (Int32.toNatClampNeg y3)) := t92
              have t93 : Imp (z88.toInt = 0) (0 ≤ y3.toInt → ¬ th V77 (Int32.toNatClampNeg y3)) := t93
              refine lv_if_eq (tgt := 72) hx hb dX12_check_57 (by decide) (fun c94 => ?_) (fun c94 => ?_)
              · skip
                have f95 : z88.toInt = 0 := b_eq rfl (by decide) c94
                obtain ⟨z96, ez96⟩ : ∃ y : Int32, y = y3 + 1 := ⟨_, rfl⟩
                have hz96 : z96.toInt = y3.toInt + 1 := i_add ez96 rfl (by decide) (by (first | exact om_d1b22b2ae31e klp5_0.1 r8.2 f74 | omega))
                refine lv_iinc (v := z96) (lv' := [(1, .int z96), (2, .int y76), (0, .ref (ad 0))]) hx hb dX12_check_72 hl (k := 1) rfl (by rw [ez96]; rfl) (by decide) rfl (fun ls hl => ?_)
                refine lv_goto (tgt := 12) hx hb dX12_check_75 (by decide) ?_
                have c097 : c0k V V77 := xlp78_3
                exact ihlp5 z96 V77 H locs ls (by first | exact om_5c2541dbcd85 klp5_0.1 r8.2 f74 hz96 | first | omega | ((try (have i_t91 := Imp.go t91 (by omega))); (try (have i_rd := Imp.go rd (by omega))); (try (have i_tb := Imp.go tb (by omega))); (try (have i_tb := Imp.go tb (by omega))); (try (have i_rd := Imp.go rd (by omega))); (try (have i_t91 := Imp.go t91 (by omega))); omega)) (show (V77 0 81).toInt ≤ 8 * z96.toInt from by first | exact om_3565982d3de2 xlp78_0 r82.2 f87 hz96 | first | omega | ((try (have i_t91 := Imp.go t91 (by omega))); (try (have i_rd := Imp.go rd (by omega))); (try (have i_tb := Imp.go tb (by omega))); (try (have i_tb := Imp.go tb (by omega))); (try (have i_rd := Imp.go rd (by omega))); (try (have i_t91 := Imp.go t91 (by omega))); omega)) (fun d hd => xlp78_1 d (by omega)) (Imp.mk (fun hp => by have h9 := DD.up1 (c := Int32.toNatClampNeg y3) (Imp.go xlp78_2 hp) (by omega) (Or.inr ((Imp.go t93 (by (first | exact om_b1799fcf2d63 rgz88.1 f95 | omega))) (by omega))); have e9 : z96.toInt = y3.toInt + 1 := (by omega); rw [e9]; exact h9)) c097 (by first | omega | ((try (have i_t91 := Imp.go t91 (by omega))); (try (have i_rd := Imp.go rd (by omega))); (try (have i_tb := Imp.go tb (by omega))); (try (have i_tb := Imp.go tb (by omega))); (try (have i_rd := Imp.go rd (by omega))); (try (have i_t91 := Imp.go t91 (by omega))); omega)) (agr.tr (agr.up (agr.tr agr.rf ajV4 (by decide) (by decide)) hV75 rfl) ajV77 (by decide) (by decide)) hMV77 hP hD hS (lv_sub hl [0, 2] rfl)
              · skip
                have f98 : z88.toInt ≠ 0 := b_neq rfl (by decide) c94
                refine lv_aload_n hx hb dX12_check_60 rfl (lv_at hl 2 rfl) ?_
                refine lv_iload_n hx hb dX12_check_61 rfl (lv_at hl 1 rfl) ?_
                refine lv_iload_n hx hb dX12_check_62 rfl (lv_at hl 0 rfl) ?_
                have kl2 := i_clamp (x := y76) rfl (by (first | exact om_eafa9039069c klp78_0.1 | omega))
                have cok := (show TBL V (nwh V) _ from tb).1 (Int32.toNatClampNeg y3) (by omega)
                refine gA_void (gA_runV (As := [.int y3, .int y76]) (rest := []) (ci := 12) (q0 := 0) hx hb hml hown hg hP hD hK hS hA hnw hgk (s_checkNeed2 l D ks H.size ad kk V77 L y3 y76 hMV77 (by first | exact om_d3435e1acec6 klp5_0.1 ((Imp.go t91 (imp_a (rgz88.1) (rgz88.2) (f98))).2) | first | omega | ((try (have i_t91 := Imp.go t91 (by omega))); (try (have i_rd := Imp.go rd (by omega))); (try (have i_tb := Imp.go tb (by omega))); (try (have i_tb := Imp.go tb (by omega))); (try (have i_rd := Imp.go rd (by omega))); (try (have i_t91 := Imp.go t91 (by omega))); omega)) (by first | exact om_45aa31722d3e klp78_0.1 r82.2 f87 | first | omega | ((try (have i_t91 := Imp.go t91 (by omega))); (try (have i_rd := Imp.go rd (by omega))); (try (have i_tb := Imp.go tb (by omega))); (try (have i_tb := Imp.go tb (by omega))); (try (have i_rd := Imp.go rd (by omega))); (try (have i_t91 := Imp.go t91 (by omega))); omega)) (by rw [(nwh_ag agV77 ⟨rfl, fun _ => rfl, fun _ => rfl, fun _ => rfl, fun _ => rfl, fun _ => rfl, fun _ => rfl⟩).1, agV77 28 _ rfl]; exact (cok.2.2.2 (Int32.toNatClampNeg y76) (by omega)).1) (show (V77 0 81).toInt ≤ 999999 from by first | exact om_4ba97e7cbe13 xlp78_0 r82.2 f87 ((Imp.go t91 (imp_a (rgz88.1) (rgz88.2) (f98))).2) | first | omega | ((try (have i_t91 := Imp.go t91 (by omega))); (try (have i_rd := Imp.go rd (by omega))); (try (have i_tb := Imp.go tb (by omega))); (try (have i_tb := Imp.go tb (by omega))); (try (have i_rd := Imp.go rd (by omega))); (try (have i_t91 := Imp.go t91 (by omega))); omega))) w2168 w2170 w118 w172 w2171 rfl rfl hdV_yX12_checkNeed ⟨Nat.le_of_ble_eq_true rfl, Nat.le_of_ble_eq_true rfl⟩ rfl hl.1 rfl (Nat.le_of_ble_eq_true rfl) dX12_check_63 ⟨Nat.le_of_ble_eq_true rfl, Nat.le_of_ble_eq_true rfl⟩) hP hD hK hS hA (fun u100 H locs w101 hP hD hK hS => ?_)
                obtain ⟨V106, L107⟩ := u100
                obtain ⟨hMV106, ajV106, axL107, t102, t103, t104, t105⟩ := w101
                have axL107 : L = L107 := Eq.symm axL107
                subst axL107
                have hP : va_P D vwCl (mw ad kk ks.1 V106 L) H := hP
                have hD : va_D A (mw ad kk ks.1 V106 L) := hD
                have hMV106 : rgd bM V106 := hMV106
                have ajV106 : agr [(0, 81)] [80, 82, 83, 84, 86] V77 V106 := ajV106
                have agV106 : agr [(0, 0), (0, 54), (0, 81), (0, 89)] [80, 82, 83, 84, 85, 86, 87, 88] V V106 := agV77.tr ajV106 (by decide) (by decide)
                have t102 : (V106 0 81).toInt ≤ (V77 0 81).toInt + 1 := t102
                have t103 : (V77 0 81).toInt ≤ (V106 0 81).toInt := t103
                have t104 : c0k V77 V106 := t104
                have t105 : Imp ((V106 0 81).toInt = (V77 0 81).toInt) (1 ≤ (V77 30 (8 * (24 * nwh V77 + Int32.toNatClampNeg y3) + Int32.toNatClampNeg y76)).toInt ∨ th V77 (cd0 V106)) := t105
                have r108 : 0 ≤ ((V106 0 81)).toInt ∧ ((V106 0 81)).toInt ≤ 1000000 := hMV106 0 81
                obtain ⟨z109, ez109⟩ : ∃ y : Int32, y = y76 + 1 := ⟨_, rfl⟩
                have hz109 : z109.toInt = y76.toInt + 1 := i_add ez109 rfl (by decide) (by (first | exact om_56ff1e099a1d klp78_0.1 r82.2 f87 | omega))
                refine lv_iinc (v := z109) (lv' := [(2, .int z109), (1, .int y3), (0, .ref (ad 0))]) hx hb dX12_check_66 hl (k := 0) rfl (by rw [ez109]; rfl) (by decide) rfl (fun ls hl => ?_)
                refine lv_goto (tgt := 34) hx hb dX12_check_69 (by decide) ?_
                have c0110 : c0k V V106 := (c0k.tr (V := V) (W := V77) (X := V106) xlp78_3 t104 agV77 ⟨rfl, fun _ => rfl, fun _ => rfl, fun _ => rfl, fun _ => rfl, fun _ => rfl, fun _ => rfl⟩)
                exact ihlp78 z109 V106 H locs ls (by first | exact om_7c19206264d1 klp78_0.1 r82.2 f87 hz109 | first | omega | ((try (have i_t91 := Imp.go t91 (by omega))); (try (have i_rd := Imp.go rd (by omega))); (try (have i_tb := Imp.go tb (by omega))); (try (have i_tb := Imp.go tb (by omega))); (try (have i_rd := Imp.go rd (by omega))); (try (have i_t91 := Imp.go t91 (by omega))); omega)) (show (V106 0 81).toInt ≤ 8 * y3.toInt + z109.toInt from by first | exact om_44f900edd785 xlp78_0 t102 hz109 | first | omega | ((try (have i_t91 := Imp.go t91 (by omega))); (try (have i_rd := Imp.go rd (by omega))); (try (have i_tb := Imp.go tb (by omega))); (try (have i_tb := Imp.go tb (by omega))); (try (have i_rd := Imp.go rd (by omega))); (try (have i_t91 := Imp.go t91 (by omega))); omega)) (fun d hd => by rw [(show agr [(0, 81)] [80, 82, 83, 84, 86] V77 V106 from (agr.tr agr.rf ajV106 (by decide) (by decide))) 87 _ rfl]; exact xlp78_1 d (by omega)) (Imp.mk (fun hp => by have h9 := DD.nx (c := Int32.toNatClampNeg y3) (j := Int32.toNatClampNeg y76) (Imp.go xlp78_2 (by omega)) t104 ajV106 ⟨rfl, fun _ => rfl, fun _ => rfl, fun _ => rfl, fun _ => rfl, fun _ => rfl, fun _ => rfl⟩ (Imp.go t105 (by omega)) (by have h8 := cOK.ag cok hMV agV77 (fun _ _ _ => ⟨agV77 _ _ rfl, agV77 _ _ rfl, agV77 _ _ rfl⟩) (Nat.le_refl _) (fun _ => rfl) (fun _ => rfl) (fun _ => rfl) (fun _ => rfl) (fun _ => rfl) (fun _ => rfl) (fun _ => rfl); rw [(nwh_ag agV77 ⟨rfl, fun _ => rfl, fun _ => rfl, fun _ => rfl, fun _ => rfl, fun _ => rfl, fun _ => rfl⟩).1]; exact h8) (by omega) (by omega); have e9 : z109.toInt = y76.toInt + 1 := (by omega); rw [e9]; exact h9)) c0110 (by first | exact om_b0e3ceac5369 hn hz109 | first | omega | ((try (have i_t91 := Imp.go t91 (by omega))); (try (have i_rd := Imp.go rd (by omega))); (try (have i_tb := Imp.go tb (by omega))); (try (have i_tb := Imp.go tb (by omega))); (try (have i_rd := Imp.go rd (by omega))); (try (have i_t91 := Imp.go t91 (by omega))); omega)) (agr.tr (agr.tr agr.rf ajV77 (by decide) (by decide)) ajV106 (by decide) (by decide)) hMV106 hP hD hS (lv_sub hl [0, 1, 2] rfl)
        have r111 : Int32.toInt 0 = 0 := by decide
        have pq112 : (V75 0 81).toInt = ((V4 0 81)).toInt := congrArg Int32.toInt (up2_o hV75 (by decide))
        have kz9 := i_clamp (x := y3) rfl (by (first | exact om_3c6ae676fc75 xlp5_0 r6.1 | omega))
        have c0113 : c0k V V75 := (c0k.tr (V := V) (W := V4) (X := V75) xlp5_3 (Or.inl (up2_o hV75 (by decide))) agV4 ⟨rfl, fun _ => rfl, fun _ => rfl, fun _ => rfl, fun _ => rfl, fun _ => rfl, fun _ => rfl⟩)
        exact lp78 ((8 - (Int32.toInt 0) + 1 : Int).toNat) 0 V75 H locs ls (by decide) (show (V75 0 81).toInt ≤ 8 * y3.toInt + (Int32.toInt 0) from by first | exact om_a33138690906 xlp5_0 r111 pq112 | first | omega | ((try (have i_rd := Imp.go rd (by omega))); (try (have i_tb := Imp.go tb (by omega))); (try (have i_tb := Imp.go tb (by omega))); (try (have i_rd := Imp.go rd (by omega))); omega)) (fun d hd => by rcases Decidable.em (d = Int32.toNatClampNeg y3) with hk | hk; (rw [hk, up2_s hV75]; decide); (rw [up2_k hV75 hk]; exact xlp5_1 d (by omega))) (Imp.mk (fun hp => DD.st (Imp.go xlp5_2 (by omega)) (show agr [] [87] V4 V75 from (agr.up agr.rf hV75 rfl)) ⟨rfl, fun _ => rfl, fun _ => rfl, fun _ => rfl, fun _ => rfl, fun _ => rfl, fun _ => rfl⟩ (c0k.ag (show agr [] [87] V4 V75 from (agr.up agr.rf hV75 rfl)) rfl))) c0113 (by first | exact om_a4cbf953e09c | first | omega | ((try (have i_rd := Imp.go rd (by omega))); (try (have i_tb := Imp.go tb (by omega))); (try (have i_tb := Imp.go tb (by omega))); (try (have i_rd := Imp.go rd (by omega))); omega)) agr.rf hMV75 hP hD hS (lv_sub hl [0, 1, 2] rfl)
  have r114 : Int32.toInt 0 = 0 := by decide
  have pq115 : (V2 0 81).toInt = 0 := (congrArg Int32.toInt (up2_s hV2)).trans (by decide)
  have c0116 : c0k V V2 := (c0k.tr (V := V) (W := V1) (X := V2) (c0k.tr (V := V) (W := V) (X := V1) c0k.rf (Or.inl (up2_o hV1 (by decide))) agV ⟨rfl, fun _ => rfl, fun _ => rfl, fun _ => rfl, fun _ => rfl, fun _ => rfl, fun _ => rfl⟩) (Or.inl (up2_o hV2 (by decide))) agV1 ⟨rfl, fun _ => rfl, fun _ => rfl, fun _ => rfl, fun _ => rfl, fun _ => rfl, fun _ => rfl⟩)
  exact lp5 ((24 - (Int32.toInt 0) + 1 : Int).toNat) 0 V2 H locs ls (by decide) (show (V2 0 81).toInt ≤ 8 * (Int32.toInt 0) from by first | exact om_a750ed116da7 r114 pq115 | first | omega | ((try (have i_rd := Imp.go rd (by omega))); (try (have i_tb := Imp.go tb (by omega))); (try (have i_tb := Imp.go tb (by omega))); (try (have i_rd := Imp.go rd (by omega))); omega)) (fun d hd => absurd hd (by omega)) (Imp.mk (fun _ => DD.z (by omega))) c0116 (by first | exact om_817980d3aa47 | first | omega | ((try (have i_rd := Imp.go rd (by omega))); (try (have i_tb := Imp.go tb (by omega))); (try (have i_tb := Imp.go tb (by omega))); (try (have i_rd := Imp.go rd (by omega))); omega)) agr.rf hMV2 hP hD hS (lv_sub hl [0, 1] rfl)
end
