section
/-! a BOOK that is empty; the other BOOK -/
theorem CD.zero {V : Vf} {b : Nat} (h : (V 42 b).toInt = 0) : CD V b := by
  refine ⟨⟨fun _ => ?_, fun p h1 _ => absurd h1 (by omega)⟩, fun p h1 _ => absurd h1 (by omega)⟩
  rw [h]
  rfl
theorem TX.zero {V : Vf} {b : Nat} (h1 : (V 43 (5 * b + 2)).toInt = 0) (h2 : (V 41 b).toInt = 0) : TX V b := ⟨fun c hc => absurd hc (by omega), fun w hw => absurd hw (by omega), fun a ha => absurd ha (by omega)⟩
theorem w765 : Cond.code yX0_clear cX0_clear 1 none ∈ GW := gw_k tk9_3 130 (rfl) rfl
theorem w762 : Cond.methodLink RX1 19 yX0_clear ∈ GW := gw_k tk9_3 127 (by decide +kernel) rfl
theorem w763 : Cond.instanceMethod yX0_clear ∈ GW := gw_k tk9_3 128 (by decide +kernel) rfl
theorem w764 : Cond.selects RX0 yX0_clear yX0_clear ∈ GW := gw_k tk9_3 129 (by decide +kernel) rfl
theorem hdV_yX0_clear : yX0_clear.cls = RX0 ∧ yX0_clear.cls ≠ "java/lang/invoke/MethodHandle" ∧ yX0_clear.cls ≠ "java/lang/invoke/VarHandle" ∧ (parseMethodDescriptor yX0_clear.desc).map (fun d => d.parameters.length) = some 0 := by decide +kernel
theorem w769 : Cond.code yX9_begin cX9_begin 2 none ∈ GW := gw_k tk9_3 134 (rfl) rfl
theorem w766 : Cond.methodLink RX1 32 yX9_begin ∈ GW := gw_k tk9_3 131 (by decide +kernel) rfl
theorem w767 : Cond.instanceMethod yX9_begin ∈ GW := gw_k tk9_3 132 (by decide +kernel) rfl
theorem w768 : Cond.selects RX9 yX9_begin yX9_begin ∈ GW := gw_k tk9_3 133 (by decide +kernel) rfl
theorem hdV_yX9_begin : yX9_begin.cls = RX9 ∧ yX9_begin.cls ≠ "java/lang/invoke/MethodHandle" ∧ yX9_begin.cls ≠ "java/lang/invoke/VarHandle" ∧ (parseMethodDescriptor yX9_begin.desc).map (fun d => d.parameters.length) = some 0 := by decide +kernel
theorem w858 : Cond.code yX1_readStatement cX1_readStatement 1 (some .boolean) ∈ GW := gw_k tk9_3 223 (rfl) rfl
theorem w855 : Cond.methodLink RX1 40 yX1_readStatement ∈ GW := gw_k tk9_3 220 (by decide +kernel) rfl
theorem w857 : Cond.instanceMethod yX1_readStatement ∈ GW := gw_k tk9_3 222 (by decide +kernel) rfl
theorem w4 : Cond.selects RX1 yX1_readStatement yX1_readStatement ∈ GW := gw_mem 4 (by decide +kernel) rfl
theorem hdV_yX1_readStatement : yX1_readStatement.cls = RX1 ∧ yX1_readStatement.cls ≠ "java/lang/invoke/MethodHandle" ∧ yX1_readStatement.cls ≠ "java/lang/invoke/VarHandle" ∧ (parseMethodDescriptor yX1_readStatement.desc).map (fun d => d.parameters.length) = some 0 := by decide +kernel
theorem w1006 : Cond.code yX1_readMember cX1_readMember 2 (some .boolean) ∈ GW := gw_k tk9_4 131 (rfl) rfl
theorem w1003 : Cond.methodLink RX1 44 yX1_readMember ∈ GW := gw_k tk9_4 128 (by decide +kernel) rfl
theorem w1005 : Cond.instanceMethod yX1_readMember ∈ GW := gw_k tk9_4 130 (by decide +kernel) rfl
theorem w31 : Cond.selects RX1 yX1_readMember yX1_readMember ∈ GW := gw_mem 31 (by decide +kernel) rfl
theorem hdV_yX1_readMember : yX1_readMember.cls = RX1 ∧ yX1_readMember.cls ≠ "java/lang/invoke/MethodHandle" ∧ yX1_readMember.cls ≠ "java/lang/invoke/VarHandle" ∧ (parseMethodDescriptor yX1_readMember.desc).map (fun d => d.parameters.length) = some 0 := by decide +kernel
theorem w1051 : Cond.methodLink RX11 96 yX9_begin ∈ GW := gw_k tk9_4 176 (by decide +kernel) rfl
theorem n263 : lw_tbl[263]? = some (Cond.fieldLinkNest RX11 99 "WiringHouse$Tape" "kind" "I" "WiringHouse") := la9 (n := 155) (i := 108) lz9 (lb9 (i := 108) (by decide +kernel))
theorem n267 : lw_tbl[267]? = some (Cond.fieldLinkNest RX11 102 "WiringHouse$Tape" "value" "J" "WiringHouse") := la9 (n := 155) (i := 112) lz9 (lb9 (i := 112) (by decide +kernel))
theorem w1052 : Cond.methodLink RX11 106 yX9_next ∈ GW := gw_k tk9_4 177 (by decide +kernel) rfl
theorem w1022 : Cond.code yX9_empty cX9_empty 1 none ∈ GW := gw_k tk9_4 147 (rfl) rfl
theorem w1019 : Cond.methodLink RX11 77 yX9_empty ∈ GW := gw_k tk9_4 144 (by decide +kernel) rfl
theorem w1020 : Cond.instanceMethod yX9_empty ∈ GW := gw_k tk9_4 145 (by decide +kernel) rfl
theorem w1021 : Cond.selects RX9 yX9_empty yX9_empty ∈ GW := gw_k tk9_4 146 (by decide +kernel) rfl
theorem hdV_yX9_empty : yX9_empty.cls = RX9 ∧ yX9_empty.cls ≠ "java/lang/invoke/MethodHandle" ∧ yX9_empty.cls ≠ "java/lang/invoke/VarHandle" ∧ (parseMethodDescriptor yX9_empty.desc).map (fun d => d.parameters.length) = some 0 := by decide +kernel
theorem w1056 : Cond.code yX0_numberOf cX0_numberOf 4 (some .int) ∈ GW := gw_k tk9_4 181 (rfl) rfl
theorem w1053 : Cond.methodLink RX11 109 yX0_numberOf ∈ GW := gw_k tk9_4 178 (by decide +kernel) rfl
theorem w1054 : Cond.instanceMethod yX0_numberOf ∈ GW := gw_k tk9_4 179 (by decide +kernel) rfl
theorem w1055 : Cond.selects RX0 yX0_numberOf yX0_numberOf ∈ GW := gw_k tk9_4 180 (by decide +kernel) rfl
theorem hdV_yX0_numberOf : yX0_numberOf.cls = RX0 ∧ yX0_numberOf.cls ≠ "java/lang/invoke/MethodHandle" ∧ yX0_numberOf.cls ≠ "java/lang/invoke/VarHandle" ∧ (parseMethodDescriptor yX0_numberOf.desc).map (fun d => d.parameters.length) = some 2 := by decide +kernel
theorem dk9_dX1_read_0_0 : dOk cX1_read [(0, .aload_n 0, 1), (1, .aload_n 1, 1), (2, .putfield 15, 3), (5, .aload_n 0, 1), (6, .getfield 15, 3), (9, .invokevirtual 19, 3), (12, .aload_n 0, 1), (13, .aconst_null, 1), (14, .putfield 24, 3), (17, .aload_n 0, 1), (18, .iconst 0, 1), (19, .putfield 28, 3), (22, .aload_n 0, 1), (23, .getfield 9, 3), (26, .invokevirtual 32, 3), (29, .iconst 0, 1), (30, .istore_n 2, 1), (31, .iload_n 2, 1), (32, .sipush 4000, 3), (35, .if_icmp .ge 47, 3), (82, .aload_n 0, 1), (83, .getfield 24, 3), (86, .ifnull 9, 3), (95, .aload_n 0, 1)] = true ∧ dOk cX1_read [(96, .getfield 28, 3), (99, .ireturn, 1), (89, .aload_n 0, 1), (90, .iconst 1, 1), (91, .invokevirtual 47, 3), (94, .pop, 1), (38, .aload_n 0, 1), (39, .getfield 9, 3), (42, .getfield 37, 3), (45, .ifCond .eq 37, 3), (48, .aload_n 0, 1), (49, .getfield 24, 3), (52, .ifnonnull 10, 3), (55, .aload_n 0, 1), (56, .invokevirtual 40, 3), (59, .goto 7, 3), (66, .istore_n 3, 1), (67, .iload_n 3, 1), (68, .ifCond .ne 8, 3), (76, .iinc 2 1, 3), (79, .goto (-48), 3), (71, .aload_n 0, 1), (72, .getfield 28, 3), (75, .ireturn, 1)] = true ∧ dOk cX1_read [(62, .aload_n 0, 1), (63, .invokevirtual 44, 3)] = true := by decide +kernel
theorem dX1_read_0 : decode cX1_read 0 = .ok (.aload_n 0, 1) := dr9 dk9_dX1_read_0_0.1 0 (0, .aload_n 0, 1) rfl
theorem dX1_read_1 : decode cX1_read 1 = .ok (.aload_n 1, 1) := dr9 dk9_dX1_read_0_0.1 1 (1, .aload_n 1, 1) rfl
theorem dX1_read_2 : decode cX1_read 2 = .ok (.putfield 15, 3) := dr9 dk9_dX1_read_0_0.1 2 (2, .putfield 15, 3) rfl
theorem dX1_read_5 : decode cX1_read 5 = .ok (.aload_n 0, 1) := dr9 dk9_dX1_read_0_0.1 3 (5, .aload_n 0, 1) rfl
theorem dX1_read_6 : decode cX1_read 6 = .ok (.getfield 15, 3) := dr9 dk9_dX1_read_0_0.1 4 (6, .getfield 15, 3) rfl
theorem dX1_read_9 : decode cX1_read 9 = .ok (.invokevirtual 19, 3) := dr9 dk9_dX1_read_0_0.1 5 (9, .invokevirtual 19, 3) rfl
theorem dX1_read_12 : decode cX1_read 12 = .ok (.aload_n 0, 1) := dr9 dk9_dX1_read_0_0.1 6 (12, .aload_n 0, 1) rfl
theorem dX1_read_13 : decode cX1_read 13 = .ok (.aconst_null, 1) := dr9 dk9_dX1_read_0_0.1 7 (13, .aconst_null, 1) rfl
theorem dX1_read_14 : decode cX1_read 14 = .ok (.putfield 24, 3) := dr9 dk9_dX1_read_0_0.1 8 (14, .putfield 24, 3) rfl
theorem dX1_read_17 : decode cX1_read 17 = .ok (.aload_n 0, 1) := dr9 dk9_dX1_read_0_0.1 9 (17, .aload_n 0, 1) rfl
theorem dX1_read_18 : decode cX1_read 18 = .ok (.iconst 0, 1) := dr9 dk9_dX1_read_0_0.1 10 (18, .iconst 0, 1) rfl
theorem dX1_read_19 : decode cX1_read 19 = .ok (.putfield 28, 3) := dr9 dk9_dX1_read_0_0.1 11 (19, .putfield 28, 3) rfl
theorem dX1_read_22 : decode cX1_read 22 = .ok (.aload_n 0, 1) := dr9 dk9_dX1_read_0_0.1 12 (22, .aload_n 0, 1) rfl
theorem dX1_read_23 : decode cX1_read 23 = .ok (.getfield 9, 3) := dr9 dk9_dX1_read_0_0.1 13 (23, .getfield 9, 3) rfl
theorem dX1_read_26 : decode cX1_read 26 = .ok (.invokevirtual 32, 3) := dr9 dk9_dX1_read_0_0.1 14 (26, .invokevirtual 32, 3) rfl
theorem dX1_read_29 : decode cX1_read 29 = .ok (.iconst 0, 1) := dr9 dk9_dX1_read_0_0.1 15 (29, .iconst 0, 1) rfl
theorem dX1_read_30 : decode cX1_read 30 = .ok (.istore_n 2, 1) := dr9 dk9_dX1_read_0_0.1 16 (30, .istore_n 2, 1) rfl
theorem dX1_read_31 : decode cX1_read 31 = .ok (.iload_n 2, 1) := dr9 dk9_dX1_read_0_0.1 17 (31, .iload_n 2, 1) rfl
theorem dX1_read_32 : decode cX1_read 32 = .ok (.sipush 4000, 3) := dr9 dk9_dX1_read_0_0.1 18 (32, .sipush 4000, 3) rfl
theorem dX1_read_35 : decode cX1_read 35 = .ok (.if_icmp .ge 47, 3) := dr9 dk9_dX1_read_0_0.1 19 (35, .if_icmp .ge 47, 3) rfl
theorem dX1_read_82 : decode cX1_read 82 = .ok (.aload_n 0, 1) := dr9 dk9_dX1_read_0_0.1 20 (82, .aload_n 0, 1) rfl
theorem dX1_read_83 : decode cX1_read 83 = .ok (.getfield 24, 3) := dr9 dk9_dX1_read_0_0.1 21 (83, .getfield 24, 3) rfl
theorem dX1_read_86 : decode cX1_read 86 = .ok (.ifnull 9, 3) := dr9 dk9_dX1_read_0_0.1 22 (86, .ifnull 9, 3) rfl
theorem dX1_read_95 : decode cX1_read 95 = .ok (.aload_n 0, 1) := dr9 dk9_dX1_read_0_0.1 23 (95, .aload_n 0, 1) rfl
theorem dX1_read_96 : decode cX1_read 96 = .ok (.getfield 28, 3) := dr9 dk9_dX1_read_0_0.2.1 0 (96, .getfield 28, 3) rfl
theorem dX1_read_99 : decode cX1_read 99 = .ok (.ireturn, 1) := dr9 dk9_dX1_read_0_0.2.1 1 (99, .ireturn, 1) rfl
theorem dX1_read_89 : decode cX1_read 89 = .ok (.aload_n 0, 1) := dr9 dk9_dX1_read_0_0.2.1 2 (89, .aload_n 0, 1) rfl
theorem dX1_read_90 : decode cX1_read 90 = .ok (.iconst 1, 1) := dr9 dk9_dX1_read_0_0.2.1 3 (90, .iconst 1, 1) rfl
theorem dX1_read_91 : decode cX1_read 91 = .ok (.invokevirtual 47, 3) := dr9 dk9_dX1_read_0_0.2.1 4 (91, .invokevirtual 47, 3) rfl
theorem dX1_read_94 : decode cX1_read 94 = .ok (.pop, 1) := dr9 dk9_dX1_read_0_0.2.1 5 (94, .pop, 1) rfl
theorem dX1_read_38 : decode cX1_read 38 = .ok (.aload_n 0, 1) := dr9 dk9_dX1_read_0_0.2.1 6 (38, .aload_n 0, 1) rfl
theorem dX1_read_39 : decode cX1_read 39 = .ok (.getfield 9, 3) := dr9 dk9_dX1_read_0_0.2.1 7 (39, .getfield 9, 3) rfl
theorem dX1_read_42 : decode cX1_read 42 = .ok (.getfield 37, 3) := dr9 dk9_dX1_read_0_0.2.1 8 (42, .getfield 37, 3) rfl
theorem dX1_read_45 : decode cX1_read 45 = .ok (.ifCond .eq 37, 3) := dr9 dk9_dX1_read_0_0.2.1 9 (45, .ifCond .eq 37, 3) rfl
theorem dX1_read_48 : decode cX1_read 48 = .ok (.aload_n 0, 1) := dr9 dk9_dX1_read_0_0.2.1 10 (48, .aload_n 0, 1) rfl
theorem dX1_read_49 : decode cX1_read 49 = .ok (.getfield 24, 3) := dr9 dk9_dX1_read_0_0.2.1 11 (49, .getfield 24, 3) rfl
theorem dX1_read_52 : decode cX1_read 52 = .ok (.ifnonnull 10, 3) := dr9 dk9_dX1_read_0_0.2.1 12 (52, .ifnonnull 10, 3) rfl
theorem dX1_read_55 : decode cX1_read 55 = .ok (.aload_n 0, 1) := dr9 dk9_dX1_read_0_0.2.1 13 (55, .aload_n 0, 1) rfl
theorem dX1_read_56 : decode cX1_read 56 = .ok (.invokevirtual 40, 3) := dr9 dk9_dX1_read_0_0.2.1 14 (56, .invokevirtual 40, 3) rfl
theorem dX1_read_59 : decode cX1_read 59 = .ok (.goto 7, 3) := dr9 dk9_dX1_read_0_0.2.1 15 (59, .goto 7, 3) rfl
theorem dX1_read_66 : decode cX1_read 66 = .ok (.istore_n 3, 1) := dr9 dk9_dX1_read_0_0.2.1 16 (66, .istore_n 3, 1) rfl
theorem dX1_read_67 : decode cX1_read 67 = .ok (.iload_n 3, 1) := dr9 dk9_dX1_read_0_0.2.1 17 (67, .iload_n 3, 1) rfl
theorem dX1_read_68 : decode cX1_read 68 = .ok (.ifCond .ne 8, 3) := dr9 dk9_dX1_read_0_0.2.1 18 (68, .ifCond .ne 8, 3) rfl
theorem dX1_read_76 : decode cX1_read 76 = .ok (.iinc 2 1, 3) := dr9 dk9_dX1_read_0_0.2.1 19 (76, .iinc 2 1, 3) rfl
theorem dX1_read_79 : decode cX1_read 79 = .ok (.goto (-48), 3) := dr9 dk9_dX1_read_0_0.2.1 20 (79, .goto (-48), 3) rfl
theorem dX1_read_71 : decode cX1_read 71 = .ok (.aload_n 0, 1) := dr9 dk9_dX1_read_0_0.2.1 21 (71, .aload_n 0, 1) rfl
theorem dX1_read_72 : decode cX1_read 72 = .ok (.getfield 28, 3) := dr9 dk9_dX1_read_0_0.2.1 22 (72, .getfield 28, 3) rfl
theorem dX1_read_75 : decode cX1_read 75 = .ok (.ireturn, 1) := dr9 dk9_dX1_read_0_0.2.1 23 (75, .ireturn, 1) rfl
theorem dX1_read_62 : decode cX1_read 62 = .ok (.aload_n 0, 1) := dr9 dk9_dX1_read_0_0.2.2 0 (62, .aload_n 0, 1) rfl
theorem dX1_read_63 : decode cX1_read 63 = .ok (.invokevirtual 44, 3) := dr9 dk9_dX1_read_0_0.2.2 1 (63, .invokevirtual 44, 3) rfl
theorem dk9_dX11_named_0_0 : dOk cX11_named [(0, .aload_n 0, 1), (1, .getfield 10, 3), (4, .invokevirtual 96, 3), (7, .aload_n 0, 1), (8, .getfield 10, 3), (11, .getfield 99, 3), (14, .iconst 3, 1), (15, .if_icmp .ne 7, 3), (22, .iconst 0, 1), (23, .istore_n 2, 1), (24, .aload_n 0, 1), (25, .getfield 10, 3), (28, .getfield 102, 3), (31, .lstore_n 3, 1), (32, .aload_n 0, 1), (33, .getfield 10, 3), (36, .invokevirtual 106, 3), (39, .aload_n 0, 1), (40, .getfield 10, 3), (43, .getfield 99, 3), (46, .ifCond .ne 7, 3), (53, .iconst 0, 1), (54, .istore 5, 2), (56, .aload_n 0, 1)] = true ∧ dOk cX11_named [(57, .getfield 10, 3), (60, .invokevirtual 77, 3), (63, .iload_n 2, 1), (64, .ifCond .eq 20, 3), (84, .iconst (-1), 1), (85, .ireturn, 1), (49, .iconst 1, 1), (50, .goto 4, 3), (18, .iconst 1, 1), (19, .goto 4, 3), (67, .iload 5, 2), (69, .ifCond .eq 15, 3), (72, .aload_n 0, 1), (73, .getfield 49, 3), (76, .lload_n 3, 1), (77, .iload_n 1, 1), (78, .invokevirtual 109, 3), (81, .goto 4, 3)] = true := by decide +kernel
theorem dX11_named_0 : decode cX11_named 0 = .ok (.aload_n 0, 1) := dr9 dk9_dX11_named_0_0.1 0 (0, .aload_n 0, 1) rfl
theorem dX11_named_1 : decode cX11_named 1 = .ok (.getfield 10, 3) := dr9 dk9_dX11_named_0_0.1 1 (1, .getfield 10, 3) rfl
theorem dX11_named_4 : decode cX11_named 4 = .ok (.invokevirtual 96, 3) := dr9 dk9_dX11_named_0_0.1 2 (4, .invokevirtual 96, 3) rfl
theorem dX11_named_7 : decode cX11_named 7 = .ok (.aload_n 0, 1) := dr9 dk9_dX11_named_0_0.1 3 (7, .aload_n 0, 1) rfl
theorem dX11_named_8 : decode cX11_named 8 = .ok (.getfield 10, 3) := dr9 dk9_dX11_named_0_0.1 4 (8, .getfield 10, 3) rfl
theorem dX11_named_11 : decode cX11_named 11 = .ok (.getfield 99, 3) := dr9 dk9_dX11_named_0_0.1 5 (11, .getfield 99, 3) rfl
theorem dX11_named_14 : decode cX11_named 14 = .ok (.iconst 3, 1) := dr9 dk9_dX11_named_0_0.1 6 (14, .iconst 3, 1) rfl
theorem dX11_named_15 : decode cX11_named 15 = .ok (.if_icmp .ne 7, 3) := dr9 dk9_dX11_named_0_0.1 7 (15, .if_icmp .ne 7, 3) rfl
theorem dX11_named_22 : decode cX11_named 22 = .ok (.iconst 0, 1) := dr9 dk9_dX11_named_0_0.1 8 (22, .iconst 0, 1) rfl
theorem dX11_named_23 : decode cX11_named 23 = .ok (.istore_n 2, 1) := dr9 dk9_dX11_named_0_0.1 9 (23, .istore_n 2, 1) rfl
theorem dX11_named_24 : decode cX11_named 24 = .ok (.aload_n 0, 1) := dr9 dk9_dX11_named_0_0.1 10 (24, .aload_n 0, 1) rfl
theorem dX11_named_25 : decode cX11_named 25 = .ok (.getfield 10, 3) := dr9 dk9_dX11_named_0_0.1 11 (25, .getfield 10, 3) rfl
theorem dX11_named_28 : decode cX11_named 28 = .ok (.getfield 102, 3) := dr9 dk9_dX11_named_0_0.1 12 (28, .getfield 102, 3) rfl
theorem dX11_named_31 : decode cX11_named 31 = .ok (.lstore_n 3, 1) := dr9 dk9_dX11_named_0_0.1 13 (31, .lstore_n 3, 1) rfl
theorem dX11_named_32 : decode cX11_named 32 = .ok (.aload_n 0, 1) := dr9 dk9_dX11_named_0_0.1 14 (32, .aload_n 0, 1) rfl
theorem dX11_named_33 : decode cX11_named 33 = .ok (.getfield 10, 3) := dr9 dk9_dX11_named_0_0.1 15 (33, .getfield 10, 3) rfl
theorem dX11_named_36 : decode cX11_named 36 = .ok (.invokevirtual 106, 3) := dr9 dk9_dX11_named_0_0.1 16 (36, .invokevirtual 106, 3) rfl
theorem dX11_named_39 : decode cX11_named 39 = .ok (.aload_n 0, 1) := dr9 dk9_dX11_named_0_0.1 17 (39, .aload_n 0, 1) rfl
theorem dX11_named_40 : decode cX11_named 40 = .ok (.getfield 10, 3) := dr9 dk9_dX11_named_0_0.1 18 (40, .getfield 10, 3) rfl
theorem dX11_named_43 : decode cX11_named 43 = .ok (.getfield 99, 3) := dr9 dk9_dX11_named_0_0.1 19 (43, .getfield 99, 3) rfl
theorem dX11_named_46 : decode cX11_named 46 = .ok (.ifCond .ne 7, 3) := dr9 dk9_dX11_named_0_0.1 20 (46, .ifCond .ne 7, 3) rfl
theorem dX11_named_53 : decode cX11_named 53 = .ok (.iconst 0, 1) := dr9 dk9_dX11_named_0_0.1 21 (53, .iconst 0, 1) rfl
theorem dX11_named_54 : decode cX11_named 54 = .ok (.istore 5, 2) := dr9 dk9_dX11_named_0_0.1 22 (54, .istore 5, 2) rfl
theorem dX11_named_56 : decode cX11_named 56 = .ok (.aload_n 0, 1) := dr9 dk9_dX11_named_0_0.1 23 (56, .aload_n 0, 1) rfl
theorem dX11_named_57 : decode cX11_named 57 = .ok (.getfield 10, 3) := dr9 dk9_dX11_named_0_0.2 0 (57, .getfield 10, 3) rfl
theorem dX11_named_60 : decode cX11_named 60 = .ok (.invokevirtual 77, 3) := dr9 dk9_dX11_named_0_0.2 1 (60, .invokevirtual 77, 3) rfl
theorem dX11_named_63 : decode cX11_named 63 = .ok (.iload_n 2, 1) := dr9 dk9_dX11_named_0_0.2 2 (63, .iload_n 2, 1) rfl
theorem dX11_named_64 : decode cX11_named 64 = .ok (.ifCond .eq 20, 3) := dr9 dk9_dX11_named_0_0.2 3 (64, .ifCond .eq 20, 3) rfl
theorem dX11_named_84 : decode cX11_named 84 = .ok (.iconst (-1), 1) := dr9 dk9_dX11_named_0_0.2 4 (84, .iconst (-1), 1) rfl
theorem dX11_named_85 : decode cX11_named 85 = .ok (.ireturn, 1) := dr9 dk9_dX11_named_0_0.2 5 (85, .ireturn, 1) rfl
theorem dX11_named_49 : decode cX11_named 49 = .ok (.iconst 1, 1) := dr9 dk9_dX11_named_0_0.2 6 (49, .iconst 1, 1) rfl
theorem dX11_named_50 : decode cX11_named 50 = .ok (.goto 4, 3) := dr9 dk9_dX11_named_0_0.2 7 (50, .goto 4, 3) rfl
theorem dX11_named_18 : decode cX11_named 18 = .ok (.iconst 1, 1) := dr9 dk9_dX11_named_0_0.2 8 (18, .iconst 1, 1) rfl
theorem dX11_named_19 : decode cX11_named 19 = .ok (.goto 4, 3) := dr9 dk9_dX11_named_0_0.2 9 (19, .goto 4, 3) rfl
theorem dX11_named_67 : decode cX11_named 67 = .ok (.iload 5, 2) := dr9 dk9_dX11_named_0_0.2 10 (67, .iload 5, 2) rfl
theorem dX11_named_69 : decode cX11_named 69 = .ok (.ifCond .eq 15, 3) := dr9 dk9_dX11_named_0_0.2 11 (69, .ifCond .eq 15, 3) rfl
theorem dX11_named_72 : decode cX11_named 72 = .ok (.aload_n 0, 1) := dr9 dk9_dX11_named_0_0.2 12 (72, .aload_n 0, 1) rfl
theorem dX11_named_73 : decode cX11_named 73 = .ok (.getfield 49, 3) := dr9 dk9_dX11_named_0_0.2 13 (73, .getfield 49, 3) rfl
theorem dX11_named_76 : decode cX11_named 76 = .ok (.lload_n 3, 1) := dr9 dk9_dX11_named_0_0.2 14 (76, .lload_n 3, 1) rfl
theorem dX11_named_77 : decode cX11_named 77 = .ok (.iload_n 1, 1) := dr9 dk9_dX11_named_0_0.2 15 (77, .iload_n 1, 1) rfl
theorem dX11_named_78 : decode cX11_named 78 = .ok (.invokevirtual 109, 3) := dr9 dk9_dX11_named_0_0.2 16 (78, .invokevirtual 109, 3) rfl
theorem dX11_named_81 : decode cX11_named 81 = .ok (.goto 4, 3) := dr9 dk9_dX11_named_0_0.2 17 (81, .goto 4, 3) rfl
abbrev r_x_read : Room := { frames := 93, cells := 0, slots := 0, locals := 2728 }
abbrev q_x_read (D : va_G) (ks : KS) (ad : Nat → Nat) (kk : Nat → ClassId) (V : Vf) (L : Lf) (Z : XZ) (b : Nat) (A : Nat → Prop) : Array Value → State → Outcome → State → Prop := va_Qi (fun (r : Int32) (u : Vf × Lf) => rgd bX u.1 ∧ agr [(1, 1), (1, 2), (1, 3), (1, 4), (1, 6), (1, 7), (1, 8), (6, 6), (6, 7), (6, 8), (6, 9), (6, 10)] [12, 13, 14, 41, 42, 43, 44, 45, 46, 47, 48, 49, 50, 51, 52, 53, 54, 55, 56, 57, 58, 59, 60, 61, 62, 63, 64, 65, 66] V u.1 ∧ agL [1, 6, 14, 44] L u.2 ∧ frX (xR b) V u.1 ∧ (Imp (r.toInt = 0) (CD u.1 b ∧ TX u.1 b))) (fun u t => gq D A (xw ad kk u.1 u.2 Z) (xty kk Z) t) A
set_option maxHeartbeats 4000000 in
set_option maxRecDepth 100000 in
theorem x_read (l : Launch) (D : va_G) (ks : KS) (sz : Nat) (ad : Nat → Nat) (kk : Nat → ClassId) (V : Vf) (L : Lf) (Z : XZ) (b : Nat) (hMV : rgd bX V) (hb2 : b < 2)  : Met l yX1_read (Cond.code yX1_read cX1_read 4 (some .int) :: GW) r_x_read (va_Pc [.ref (ad 1), .ref (ad (38 + b))] (gp D ks (xw ad kk V L Z) (xty kk Z) sz)) (q_x_read D ks ad kk V L Z  b (va_A (xw ad kk V L Z) sz)) 0 0 (va_A (xw ad kk V L Z) sz) := by
  refine g_met (q_x_read D ks ad kk V L Z  b) (by decide) (Nat.le_of_ble_eq_true rfl) ?_
  intro p e s m below meth c A ls H locs hx hb hr hml hown hg hlocks hin hnw hgk hP hK hD hS hA hl
  have hown : s.vm.findClass RX1 = some m.cls := hown
  have hl : lv_has ls 4 [(0, .ref (ad 1)), (1, .ref (ad (38 + b)))] := hl
  have hP : va_P D vwCl (xw ad kk V L Z) H := hP
  have hD : va_D A (xw ad kk V L Z) := hD
  have hK : va_K D vwCl (xty kk Z) s := hK
  have agV : agr [(1, 1), (1, 2), (1, 3), (1, 4), (1, 6), (1, 7), (1, 8), (6, 6), (6, 7), (6, 8), (6, 9), (6, 10)] [12, 13, 14, 41, 42, 43, 44, 45, 46, 47, 48, 49, 50, 51, 52, 53, 54, 55, 56, 57, 58, 59, 60, 61, 62, 63, 64, 65, 66] V V := agr.rf
  have alL : agL [1, 6, 14, 44] L L := agL.rf
  have fwV : frX (xR b) V V := frX.rf
  refine lv_aload_n hx hb dX1_read_0 rfl (lv_at hl 0 rfl) ?_
  refine lv_aload_n hx hb dX1_read_1 rfl (lv_at hl 1 rfl) ?_
  refine va_put (D := D) (ci := 1) (v := .ref (ad (38 + b))) (ty := tyX1 1) (fs := (xfReader ad V L Z)) (C := RX1) (T := TX1) (N := 9) hx hb hg inX1 tyX1 tyX1_ok nmX1 hown hK hP hD hS 1 xgReader rfl 1 (by decide) (hg _ w305) (fun _ h9 => h9) rfl (tyX1_ok 1 (by decide)) rfl rfl (Nat.le_of_ble_eq_true rfl) dX1_read_2 (fun H locs hP hD hS => ?_)
  have r1 : (nI b).toInt = ((b : Nat) : Int) := nI_toInt (by omega)
  obtain ⟨V2, hV2⟩ : ∃ z, z = up2 V 1 1 (nI b) := ⟨_, rfl⟩
  have ew3 : (xw ad kk V L Z).set 1 ((ad 1), .inr (1, (xfReader ad V L Z).set 1 (.ref (ad (38 + b))))) = xw ad kk V2 L Z := by rw [hV2]; exact xr_rbook hb2
  have hP : va_P D vwCl (xw ad kk V2 L Z) H := by rw [← ew3]; exact hP
  have hD : va_D A (xw ad kk V2 L Z) := by rw [← ew3]; exact hD
  have hMV2 : rgd bX V2 := hMV.put hV2 (show (-1) ≤ ((nI b)).toInt ∧ ((nI b)).toInt ≤ 1 from by (first | exact om_42efdf012c14 hb2 r1 | omega))
  have agV2 : agr [(1, 1), (1, 2), (1, 3), (1, 4), (1, 6), (1, 7), (1, 8), (6, 6), (6, 7), (6, 8), (6, 9), (6, 10)] [12, 13, 14, 41, 42, 43, 44, 45, 46, 47, 48, 49, 50, 51, 52, 53, 54, 55, 56, 57, 58, 59, 60, 61, 62, 63, 64, 65, 66] V V2 := agV.up hV2 rfl
  have fwV2 : frX (xR b) V V2 := frX.up fwV hV2 (Or.inl (by decide))
  refine lv_aload_n hx hb dX1_read_5 rfl (lv_at hl 0 rfl) ?_
  refine va_get (D := D) (ci := 1) (v := rfN ad 38 (V2 1 1)) (fs := (xfReader ad V2 L Z)) (C := RX1) (T := TX1) (N := 9) hx hb hg inX1 hown hK hP 1 xgReader rfl 1 (by decide) (hg _ w305) (fun _ h9 => h9) rfl dX1_read_6 ?_
  have pq4 : (V2 1 1).toInt = ((nI b)).toInt := congrArg Int32.toInt (up2_s hV2)
  refine g_topv (v := .ref (ad (38 + b))) (rfN_r (by omega)) ?_
  refine gA_void (gA_runV (As := []) (rest := []) (ci := 0) (q0 := (38 + b)) hx hb hml hown hg hP hD hK hS hA hnw hgk (x_bclear l D ks H.size ad kk V2 L Z (b) hMV2 (show b < 2 from by (first | exact om_f940a4667dd6 hb2 | omega))) w762 w763 w764 w167 w765 rfl (xgBook hb2) hdV_yX0_clear ⟨Nat.le_of_ble_eq_true rfl, Nat.le_of_ble_eq_true rfl⟩ rfl hl.1 rfl (Nat.le_of_ble_eq_true rfl) dX1_read_9 ⟨Nat.le_of_ble_eq_true rfl, Nat.le_of_ble_eq_true rfl⟩) hP hD hK hS hA (fun u6 H locs w7 hP hD hK hS => ?_)
  obtain ⟨V11, L12⟩ := u6
  obtain ⟨hMV11, ajV11, axL12, fyV11, t8, t9, t10⟩ := w7
  have axL12 : L = L12 := Eq.symm axL12
  subst axL12
  have hP : va_P D vwCl (xw ad kk V11 L Z) H := hP
  have hD : va_D A (xw ad kk V11 L Z) := hD
  have hMV11 : rgd bX V11 := hMV11
  have ajV11 : agr [] [41, 42, 43] V2 V11 := ajV11
  have agV11 : agr [(1, 1), (1, 2), (1, 3), (1, 4), (1, 6), (1, 7), (1, 8), (6, 6), (6, 7), (6, 8), (6, 9), (6, 10)] [12, 13, 14, 41, 42, 43, 44, 45, 46, 47, 48, 49, 50, 51, 52, 53, 54, 55, 56, 57, 58, 59, 60, 61, 62, 63, 64, 65, 66] V V11 := agV2.tr ajV11 (by decide) (by decide)
  have fwV11 : frX (xR b) V V11 := frX.tr fwV2 (fyV11)
  have t8 : (V11 42 b).toInt = 0 := t8
  have t9 : (V11 41 b).toInt = 0 := t9
  have t10 : (V11 43 (5 * b + 2)).toInt = 0 := t10
  have cd13 : CD V11 b := CD.zero t8
  have tx14 : TX V11 b := TX.zero t10 t9
  refine lv_aload_n hx hb dX1_read_12 rfl (lv_at hl 0 rfl) ?_
  refine lv_null hx hb dX1_read_13 ?_
  refine va_put (D := D) (ci := 1) (v := .null) (ty := tyX1 2) (fs := (xfReader ad V11 L Z)) (C := RX1) (T := TX1) (N := 9) hx hb hg inX1 tyX1 tyX1_ok nmX1 hown hK hP hD hS 1 xgReader rfl 2 (by decide) (hg _ w306) (fun _ h9 => h9) rfl (tyX1_ok 2 (by decide)) rfl rfl (Nat.le_of_ble_eq_true rfl) dX1_read_14 (fun H locs hP hD hS => ?_)
  obtain ⟨V15, hV15⟩ : ∃ z, z = up2 V11 1 2 (-1) := ⟨_, rfl⟩
  have ew16 : (xw ad kk V11 L Z).set 1 ((ad 1), .inr (1, (xfReader ad V11 L Z).set 2 (.null))) = xw ad kk V15 L Z := by rw [hV15]; exact xr_owner_n
  have hP : va_P D vwCl (xw ad kk V15 L Z) H := by rw [← ew16]; exact hP
  have hD : va_D A (xw ad kk V15 L Z) := by rw [← ew16]; exact hD
  have hMV15 : rgd bX V15 := hMV11.put hV15 (by decide)
  have agV15 : agr [(1, 1), (1, 2), (1, 3), (1, 4), (1, 6), (1, 7), (1, 8), (6, 6), (6, 7), (6, 8), (6, 9), (6, 10)] [12, 13, 14, 41, 42, 43, 44, 45, 46, 47, 48, 49, 50, 51, 52, 53, 54, 55, 56, 57, 58, 59, 60, 61, 62, 63, 64, 65, 66] V V15 := agV11.up hV15 rfl
  have fwV15 : frX (xR b) V V15 := frX.up fwV11 hV15 (Or.inl (by decide))
  refine lv_aload_n hx hb dX1_read_17 rfl (lv_at hl 0 rfl) ?_
  refine lv_iconst (v := 0) hx hb dX1_read_18 (by decide) ?_
  refine va_put (D := D) (ci := 1) (v := .int 0) (ty := tyX1 3) (fs := (xfReader ad V15 L Z)) (C := RX1) (T := TX1) (N := 9) hx hb hg inX1 tyX1 tyX1_ok nmX1 hown hK hP hD hS 1 xgReader rfl 3 (by decide) (hg _ w307) (fun _ h9 => h9) rfl (tyX1_ok 3 (by decide)) rfl rfl (Nat.le_of_ble_eq_true rfl) dX1_read_19 (fun H locs hP hD hS => ?_)
  obtain ⟨V17, hV17⟩ : ∃ z, z = up2 V15 1 3 0 := ⟨_, rfl⟩
  have ew18 : (xw ad kk V15 L Z).set 1 ((ad 1), .inr (1, (xfReader ad V15 L Z).set 3 (.int 0))) = xw ad kk V17 L Z := by rw [hV17]; exact xw_ss (by decide) rfl (xb_si (by decide))
  have hP : va_P D vwCl (xw ad kk V17 L Z) H := by rw [← ew18]; exact hP
  have hD : va_D A (xw ad kk V17 L Z) := by rw [← ew18]; exact hD
  have hMV17 : rgd bX V17 := hMV15.put hV17 (i_full _)
  have agV17 : agr [(1, 1), (1, 2), (1, 3), (1, 4), (1, 6), (1, 7), (1, 8), (6, 6), (6, 7), (6, 8), (6, 9), (6, 10)] [12, 13, 14, 41, 42, 43, 44, 45, 46, 47, 48, 49, 50, 51, 52, 53, 54, 55, 56, 57, 58, 59, 60, 61, 62, 63, 64, 65, 66] V V17 := agV15.up hV17 rfl
  have fwV17 : frX (xR b) V V17 := frX.up fwV15 hV17 (Or.inl (by decide))
  refine lv_aload_n hx hb dX1_read_22 rfl (lv_at hl 0 rfl) ?_
  refine va_get (D := D) (ci := 1) (v := .ref (ad 6)) (fs := (xfReader ad V17 L Z)) (C := RX1) (T := TX1) (N := 9) hx hb hg inX1 hown hK hP 1 xgReader rfl 0 (by decide) (hg _ w304) (fun _ h9 => h9) rfl dX1_read_23 ?_
  refine gA_void (gA_runV (As := []) (rest := []) (ci := 9) (q0 := 6) hx hb hml hown hg hP hD hK hS hA hnw hgk (x_begin l D ks H.size ad kk V17 L Z  hMV17 ) w766 w767 w768 w157 w769 rfl xgTape hdV_yX9_begin ⟨Nat.le_of_ble_eq_true rfl, Nat.le_of_ble_eq_true rfl⟩ rfl hl.1 rfl (Nat.le_of_ble_eq_true rfl) dX1_read_26 ⟨Nat.le_of_ble_eq_true rfl, Nat.le_of_ble_eq_true rfl⟩) hP hD hK hS hA (fun u20 H locs w21 hP hD hK hS => ?_)
  obtain ⟨V22, L23⟩ := u20
  obtain ⟨hMV22, ajV22, axL23⟩ := w21
  have alL23 : agL [1, 6, 14, 44] L L23 := agL.tr alL axL23 (by decide)
  have hP : va_P D vwCl (xw ad kk V22 L23 Z) H := hP
  have hD : va_D A (xw ad kk V22 L23 Z) := hD
  have hMV22 : rgd bX V22 := hMV22
  have ajV22 : agr [(6, 6), (6, 7), (6, 8), (6, 9), (6, 10)] [12, 13, 14] V17 V22 := ajV22
  have agV22 : agr [(1, 1), (1, 2), (1, 3), (1, 4), (1, 6), (1, 7), (1, 8), (6, 6), (6, 7), (6, 8), (6, 9), (6, 10)] [12, 13, 14, 41, 42, 43, 44, 45, 46, 47, 48, 49, 50, 51, 52, 53, 54, 55, 56, 57, 58, 59, 60, 61, 62, 63, 64, 65, 66] V V22 := agV17.tr ajV22 (by decide) (by decide)
  have fwV22 : frX (xR b) V V22 := frX.tr fwV17 (frX.ag ajV22 (by decide) (by decide))
  refine lv_iconst (v := 0) hx hb dX1_read_29 (by decide) ?_
  refine lv_istore_n (lv' := [(2, .int 0), (0, .ref (ad 1)), (1, .ref (ad (38 + b)))]) hx hb dX1_read_30 rfl hl (by decide) rfl (fun ls hl => ?_)
  have lp27 : ∀ (fulp27 : Nat) (y24 : Int32) (V25 : Vf) (L26 : Lf) (H : Heap) (locs : List Loc) (ls : Array Slot), 0 ≤ y24.toInt ∧ y24.toInt ≤ 4000 → CD V25 b → TX V25 b → (V25 1 2).toInt = -1 ∨ (24 * (b : Int) ≤ (V25 1 2).toInt ∧ (V25 1 2).toInt < 24 * (b : Int) + 24) → (V25 1 1).toInt = (b : Int) → 4000 - y24.toInt < (fulp27 : Int) → agL [1, 6, 14, 44] L L26 → agr [(1, 2), (1, 3), (1, 4), (1, 6), (1, 7), (1, 8), (6, 8), (6, 9), (6, 10)] [41, 42, 43, 44, 45, 46, 47, 48, 49, 50, 51, 52, 53, 54, 55, 56, 57, 58, 59, 60, 61, 62, 63, 64, 65, 66] V22 V25 → rgd bX V25 → frX (xR b) V V25 → va_P D vwCl (xw ad kk V25 L26 Z) H → va_D A (xw ad kk V25 L26 Z) → va_S A s.heap H locs → lv_has ls 4 [(2, .int y24), (0, .ref (ad 1)), (1, .ref (ad (38 + b)))] → W p l e r_x_read s m ([.ref (ad 1), .ref (ad (38 + b))] : List Value).toArray below meth c H locs 0 0 (MQ below (q_x_read D ks ad kk V L Z  b A) ([.ref (ad 1), .ref (ad (38 + b))] : List Value).toArray s 0 0 A) (F0 m 31 ls []) := by
    intro fulp27
    induction fulp27 with
    | zero =>
      intro y24 V25 L26 H locs ls klp27_0 xlp27_0 xlp27_1 xlp27_2 xlp27_3 hn alL26 ajV25 hMV25 fwV25 hP hD hS hl
      exfalso; (first | exact om_03b755d7679e klp27_0.2 hn | omega)
    | succ fulp27 ihlp27 =>
      intro y24 V25 L26 H locs ls klp27_0 xlp27_0 xlp27_1 xlp27_2 xlp27_3 hn alL26 ajV25 hMV25 fwV25 hP hD hS hl
      have agV25 : agr [(1, 1), (1, 2), (1, 3), (1, 4), (1, 6), (1, 7), (1, 8), (6, 6), (6, 7), (6, 8), (6, 9), (6, 10)] [12, 13, 14, 41, 42, 43, 44, 45, 46, 47, 48, 49, 50, 51, 52, 53, 54, 55, 56, 57, 58, 59, 60, 61, 62, 63, 64, 65, 66] V V25 := agV22.tr ajV25 (by decide) (by decide)
      have r28 : (-1) ≤ ((V25 1 2)).toInt ∧ ((V25 1 2)).toInt ≤ 47 := hMV25 1 2
      have pq29 : (V25 1 1).toInt = ((nI b)).toInt := congrArg Int32.toInt ((ajV25 1 1 rfl).trans ((ajV22 1 1 rfl).trans ((up2_k hV17 (by decide)).trans ((up2_k hV15 (by decide)).trans ((ajV11 1 1 rfl).trans (up2_s hV2))))))
      refine lv_iload_n hx hb dX1_read_31 rfl (lv_at hl 0 rfl) ?_
      refine lv_sipush (v := 4000) hx hb dX1_read_32 (by decide) ?_
      refine lv_icmp_ge (tgt := 82) hx hb dX1_read_35 (by decide) (fun c30 => ?_) (fun c30 => ?_)
      · skip
        have f31 : 4000 ≤ y24.toInt := b_le (by decide) rfl c30
        by_cases hon : (V25 1 2).toInt < 0
        · skip
          have ow1 : (V25 1 2).toInt = -1 := by omega
          refine lv_aload_n hx hb dX1_read_82 rfl (lv_at hl 1 rfl) ?_
          refine va_get (D := D) (ci := 1) (v := rfN ad 72 (V25 1 2)) (fs := (xfReader ad V25 L26 Z)) (C := RX1) (T := TX1) (N := 9) hx hb hg inX1 hown hK hP 1 xgReader rfl 2 (by decide) (hg _ w306) (fun _ h9 => h9) rfl dX1_read_83 ?_
          refine g_topv (v := .null) (rfN_n (by omega)) ?_
          refine lv_ifnullN (tgt := 95) hx hb dX1_read_86 (by decide) ?_
          refine lv_aload_n hx hb dX1_read_95 rfl (lv_at hl 1 rfl) ?_
          refine va_get (D := D) (ci := 1) (v := .int (V25 1 3)) (fs := (xfReader ad V25 L26 Z)) (C := RX1) (T := TX1) (N := 9) hx hb hg inX1 hown hK hP 1 xgReader rfl 3 (by decide) (hg _ w307) (fun _ h9 => h9) rfl dX1_read_96 ?_
          exact W.iret (v := (V25 1 3)) hx hb hr (fun t ht hW => ⟨⟨(V25 1 3), (V25, L26), rfl, ⟨hMV25, agV25, alL26, fwV25, (Imp.mk (fun _ => ⟨xlp27_0, xlp27_1⟩))⟩, by rw [ht]; exact hP, va_K.moved hW.alike hK, hD⟩, hS.F ht⟩) hS.2.2 dX1_read_99
        · skip
          have ko := i_clamp (x := V25 1 2) rfl (by omega)
          refine lv_aload_n hx hb dX1_read_82 rfl (lv_at hl 1 rfl) ?_
          refine va_get (D := D) (ci := 1) (v := rfN ad 72 (V25 1 2)) (fs := (xfReader ad V25 L26 Z)) (C := RX1) (T := TX1) (N := 9) hx hb hg inX1 hown hK hP 1 xgReader rfl 2 (by decide) (hg _ w306) (fun _ h9 => h9) rfl dX1_read_83 ?_
          refine g_topv (v := .ref (ad (72 + (Int32.toNatClampNeg (V25 1 2))))) (rfN_r (by omega)) ?_
          refine lv_ifnull hx hb dX1_read_86 ?_
          refine lv_aload_n hx hb dX1_read_89 rfl (lv_at hl 1 rfl) ?_
          refine lv_iconst (v := 1) hx hb dX1_read_90 (by decide) ?_
          have r32 : Int32.toInt 1 = 1 := by decide
          refine gA_int (gA_runV (As := [.int 1]) (rest := []) (ci := 1) (q0 := 1) hx hb hml hown hg hP hD hK hS hA hnw hgk (x_wrong l D ks H.size ad kk V25 L26 Z 1 hMV25 (by decide)) w867 w869 w6 w162 w870 rfl xgReader hdV_yX1_wrong ⟨Nat.le_of_ble_eq_true rfl, Nat.le_of_ble_eq_true rfl⟩ rfl hl.1 rfl (Nat.le_of_ble_eq_true rfl) dX1_read_91 ⟨Nat.le_of_ble_eq_true rfl, Nat.le_of_ble_eq_true rfl⟩) hP hD hK hS hA (fun z33 u34 H locs w35 hP hD hK hS => ?_)
          obtain ⟨V37, L38⟩ := u34
          obtain ⟨hMV37, ajV37, axL38, rgz33, t36⟩ := w35
          have axL38 : L26 = L38 := Eq.symm axL38
          subst axL38
          have hP : va_P D vwCl (xw ad kk V37 L26 Z) H := hP
          have hD : va_D A (xw ad kk V37 L26 Z) := hD
          have hMV37 : rgd bX V37 := hMV37
          have ajV37 : agr [(1, 3)] [] V25 V37 := ajV37
          have agV37 : agr [(1, 1), (1, 2), (1, 3), (1, 4), (1, 6), (1, 7), (1, 8), (6, 6), (6, 7), (6, 8), (6, 9), (6, 10)] [12, 13, 14, 41, 42, 43, 44, 45, 46, 47, 48, 49, 50, 51, 52, 53, 54, 55, 56, 57, 58, 59, 60, 61, 62, 63, 64, 65, 66] V V37 := agV25.tr ajV37 (by decide) (by decide)
          have fwV37 : frX (xR b) V V37 := frX.tr fwV25 (frX.ag ajV37 (by decide) (by decide))
          have rgz33 : 0 ≤ z33.toInt ∧ z33.toInt ≤ 0 := rgz33
          have t36 : 1 ≤ (V37 1 3).toInt := t36
          refine lv_pop hx hb dX1_read_94 rfl ?_
          refine lv_aload_n hx hb dX1_read_95 rfl (lv_at hl 1 rfl) ?_
          refine va_get (D := D) (ci := 1) (v := .int (V37 1 3)) (fs := (xfReader ad V37 L26 Z)) (C := RX1) (T := TX1) (N := 9) hx hb hg inX1 hown hK hP 1 xgReader rfl 3 (by decide) (hg _ w307) (fun _ h9 => h9) rfl dX1_read_96 ?_
          exact W.iret (v := (V37 1 3)) hx hb hr (fun t ht hW => ⟨⟨(V37 1 3), (V37, L26), rfl, ⟨hMV37, agV37, alL26, fwV37, (Imp.mk (fun hp => by exfalso; omega))⟩, by rw [ht]; exact hP, va_K.moved hW.alike hK, hD⟩, hS.F ht⟩) hS.2.2 dX1_read_99
      · skip
        have f39 : y24.toInt < 4000 := b_nle (by decide) rfl c30
        refine lv_aload_n hx hb dX1_read_38 rfl (lv_at hl 1 rfl) ?_
        refine va_get (D := D) (ci := 1) (v := .ref (ad 6)) (fs := (xfReader ad V25 L26 Z)) (C := RX1) (T := TX1) (N := 9) hx hb hg inX1 hown hK hP 1 xgReader rfl 0 (by decide) (hg _ w304) (fun _ h9 => h9) rfl dX1_read_39 ?_
        refine va_getN (D := D) (ci := 9) (v := .int (V25 6 9)) (fs := (xfTape ad V25 L26 Z)) (C := RX9) (T := TX9) (N := 12) hx hb hg inX9 hown hK hP 6 xgTape rfl 9 (by decide) (hnw.use 262 n262 rfl) (fun _ h9 => h9) rfl dX1_read_42 ?_
        refine lv_if_eq (tgt := 82) hx hb dX1_read_45 (by decide) (fun c40 => ?_) (fun c40 => ?_)
        · skip
          have f41 : ((V25 6 9)).toInt = 0 := b_eq rfl (by decide) c40
          by_cases hon : (V25 1 2).toInt < 0
          · skip
            have ow1 : (V25 1 2).toInt = -1 := by omega
            refine lv_aload_n hx hb dX1_read_82 rfl (lv_at hl 1 rfl) ?_
            refine va_get (D := D) (ci := 1) (v := rfN ad 72 (V25 1 2)) (fs := (xfReader ad V25 L26 Z)) (C := RX1) (T := TX1) (N := 9) hx hb hg inX1 hown hK hP 1 xgReader rfl 2 (by decide) (hg _ w306) (fun _ h9 => h9) rfl dX1_read_83 ?_
            refine g_topv (v := .null) (rfN_n (by omega)) ?_
            refine lv_ifnullN (tgt := 95) hx hb dX1_read_86 (by decide) ?_
            refine lv_aload_n hx hb dX1_read_95 rfl (lv_at hl 1 rfl) ?_
            refine va_get (D := D) (ci := 1) (v := .int (V25 1 3)) (fs := (xfReader ad V25 L26 Z)) (C := RX1) (T := TX1) (N := 9) hx hb hg inX1 hown hK hP 1 xgReader rfl 3 (by decide) (hg _ w307) (fun _ h9 => h9) rfl dX1_read_96 ?_
            exact W.iret (v := (V25 1 3)) hx hb hr (fun t ht hW => ⟨⟨(V25 1 3), (V25, L26), rfl, ⟨hMV25, agV25, alL26, fwV25, (Imp.mk (fun _ => ⟨xlp27_0, xlp27_1⟩))⟩, by rw [ht]; exact hP, va_K.moved hW.alike hK, hD⟩, hS.F ht⟩) hS.2.2 dX1_read_99
          · skip
            have ko := i_clamp (x := V25 1 2) rfl (by omega)
            refine lv_aload_n hx hb dX1_read_82 rfl (lv_at hl 1 rfl) ?_
            refine va_get (D := D) (ci := 1) (v := rfN ad 72 (V25 1 2)) (fs := (xfReader ad V25 L26 Z)) (C := RX1) (T := TX1) (N := 9) hx hb hg inX1 hown hK hP 1 xgReader rfl 2 (by decide) (hg _ w306) (fun _ h9 => h9) rfl dX1_read_83 ?_
            refine g_topv (v := .ref (ad (72 + (Int32.toNatClampNeg (V25 1 2))))) (rfN_r (by omega)) ?_
            refine lv_ifnull hx hb dX1_read_86 ?_
            refine lv_aload_n hx hb dX1_read_89 rfl (lv_at hl 1 rfl) ?_
            refine lv_iconst (v := 1) hx hb dX1_read_90 (by decide) ?_
            have r42 : Int32.toInt 1 = 1 := by decide
            refine gA_int (gA_runV (As := [.int 1]) (rest := []) (ci := 1) (q0 := 1) hx hb hml hown hg hP hD hK hS hA hnw hgk (x_wrong l D ks H.size ad kk V25 L26 Z 1 hMV25 (by decide)) w867 w869 w6 w162 w870 rfl xgReader hdV_yX1_wrong ⟨Nat.le_of_ble_eq_true rfl, Nat.le_of_ble_eq_true rfl⟩ rfl hl.1 rfl (Nat.le_of_ble_eq_true rfl) dX1_read_91 ⟨Nat.le_of_ble_eq_true rfl, Nat.le_of_ble_eq_true rfl⟩) hP hD hK hS hA (fun z43 u44 H locs w45 hP hD hK hS => ?_)
            obtain ⟨V47, L48⟩ := u44
            obtain ⟨hMV47, ajV47, axL48, rgz43, t46⟩ := w45
            have axL48 : L26 = L48 := Eq.symm axL48
            subst axL48
            have hP : va_P D vwCl (xw ad kk V47 L26 Z) H := hP
            have hD : va_D A (xw ad kk V47 L26 Z) := hD
            have hMV47 : rgd bX V47 := hMV47
            have ajV47 : agr [(1, 3)] [] V25 V47 := ajV47
            have agV47 : agr [(1, 1), (1, 2), (1, 3), (1, 4), (1, 6), (1, 7), (1, 8), (6, 6), (6, 7), (6, 8), (6, 9), (6, 10)] [12, 13, 14, 41, 42, 43, 44, 45, 46, 47, 48, 49, 50, 51, 52, 53, 54, 55, 56, 57, 58, 59, 60, 61, 62, 63, 64, 65, 66] V V47 := agV25.tr ajV47 (by decide) (by decide)
            have fwV47 : frX (xR b) V V47 := frX.tr fwV25 (frX.ag ajV47 (by decide) (by decide))
            have rgz43 : 0 ≤ z43.toInt ∧ z43.toInt ≤ 0 := rgz43
            have t46 : 1 ≤ (V47 1 3).toInt := t46
            refine lv_pop hx hb dX1_read_94 rfl ?_
            refine lv_aload_n hx hb dX1_read_95 rfl (lv_at hl 1 rfl) ?_
            refine va_get (D := D) (ci := 1) (v := .int (V47 1 3)) (fs := (xfReader ad V47 L26 Z)) (C := RX1) (T := TX1) (N := 9) hx hb hg inX1 hown hK hP 1 xgReader rfl 3 (by decide) (hg _ w307) (fun _ h9 => h9) rfl dX1_read_96 ?_
            exact W.iret (v := (V47 1 3)) hx hb hr (fun t ht hW => ⟨⟨(V47 1 3), (V47, L26), rfl, ⟨hMV47, agV47, alL26, fwV47, (Imp.mk (fun hp => by exfalso; omega))⟩, by rw [ht]; exact hP, va_K.moved hW.alike hK, hD⟩, hS.F ht⟩) hS.2.2 dX1_read_99
        · skip
          have f49 : ((V25 6 9)).toInt ≠ 0 := b_neq rfl (by decide) c40
          by_cases hon : (V25 1 2).toInt < 0
          · skip
            have ow1 : (V25 1 2).toInt = -1 := by omega
            refine lv_aload_n hx hb dX1_read_48 rfl (lv_at hl 1 rfl) ?_
            refine va_get (D := D) (ci := 1) (v := rfN ad 72 (V25 1 2)) (fs := (xfReader ad V25 L26 Z)) (C := RX1) (T := TX1) (N := 9) hx hb hg inX1 hown hK hP 1 xgReader rfl 2 (by decide) (hg _ w306) (fun _ h9 => h9) rfl dX1_read_49 ?_
            refine g_topv (v := .null) (rfN_n (by omega)) ?_
            refine lv_ifnonnullN hx hb dX1_read_52 ?_
            refine lv_aload_n hx hb dX1_read_55 rfl (lv_at hl 1 rfl) ?_
            refine gA_int (gA_runV (As := []) (rest := []) (ci := 1) (q0 := 1) hx hb hml hown hg hP hD hK hS hA hnw hgk (x_readStatement l D ks H.size ad kk V25 L26 Z (b) hMV25 (show b < 2 from by (first | exact om_f940a4667dd6 hb2 | omega)) (show (V25 1 1).toInt = (b : Int) from by (first | exact om_adf531c77a0d r1 pq29 | omega)) (show (V25 1 2).toInt = -1 from by (first | exact om_8809abba85b8 r28.1 ow1 | omega)) xlp27_0 xlp27_1) w855 w857 w4 w162 w858 rfl xgReader hdV_yX1_readStatement ⟨Nat.le_of_ble_eq_true rfl, Nat.le_of_ble_eq_true rfl⟩ rfl hl.1 rfl (Nat.le_of_ble_eq_true rfl) dX1_read_56 ⟨Nat.le_of_ble_eq_true rfl, Nat.le_of_ble_eq_true rfl⟩) hP hD hK hS hA (fun z50 u51 H locs w52 hP hD hK hS => ?_)
            obtain ⟨V58, L59⟩ := u51
            obtain ⟨hMV58, ajV58, axL59, fyV58, rgz50, t53, t54, t55, t56, t57⟩ := w52
            have alL59 : agL [1, 6, 14, 44] L L59 := agL.tr alL26 axL59 (by decide)
            have hP : va_P D vwCl (xw ad kk V58 L59 Z) H := hP
            have hD : va_D A (xw ad kk V58 L59 Z) := hD
            have hMV58 : rgd bX V58 := hMV58
            have ajV58 : agr [(1, 2), (1, 3), (1, 4), (1, 6), (1, 7), (1, 8), (6, 8), (6, 9), (6, 10)] [41, 42, 43, 44, 45, 46, 47, 48, 49, 50, 51, 52, 53, 54, 55, 56, 57, 61, 62, 63, 64, 65, 66] V25 V58 := ajV58
            have agV58 : agr [(1, 1), (1, 2), (1, 3), (1, 4), (1, 6), (1, 7), (1, 8), (6, 6), (6, 7), (6, 8), (6, 9), (6, 10)] [12, 13, 14, 41, 42, 43, 44, 45, 46, 47, 48, 49, 50, 51, 52, 53, 54, 55, 56, 57, 58, 59, 60, 61, 62, 63, 64, 65, 66] V V58 := agV25.tr ajV58 (by decide) (by decide)
            have fwV58 : frX (xR b) V V58 := frX.tr fwV25 (fyV58)
            have rgz50 : 0 ≤ z50.toInt ∧ z50.toInt ≤ 1 := rgz50
            have t53 : Imp (z50.toInt = 1) (TX V58 b) := t53
            have t54 : CD V58 b := t54
            have t55 : p0x V25 V58 b := t55
            have t56 : (V58 1 2).toInt = (V25 1 2).toInt ∨ (24 * (b : Int) ≤ (V58 1 2).toInt ∧ (V58 1 2).toInt < 24 * (b : Int) + 24) := t56
            have t57 : Imp (z50.toInt = 0) (1 ≤ (V58 1 3).toInt) := t57
            have r60 : (-1) ≤ ((V58 1 2)).toInt ∧ ((V58 1 2)).toInt ≤ 47 := hMV58 1 2
            refine lv_goto (tgt := 66) hx hb dX1_read_59 (by decide) ?_
            refine lv_istore_n (lv' := [(3, .int z50), (2, .int y24), (0, .ref (ad 1)), (1, .ref (ad (38 + b)))]) hx hb dX1_read_66 rfl hl (by decide) rfl (fun ls hl => ?_)
            refine lv_iload_n hx hb dX1_read_67 rfl (lv_at hl 0 rfl) ?_
            refine lv_if_ne (tgt := 76) hx hb dX1_read_68 (by decide) (fun c61 => ?_) (fun c61 => ?_)
            · skip
              have f62 : z50.toInt ≠ 0 := b_neq rfl (by decide) c61
              obtain ⟨z63, ez63⟩ : ∃ y : Int32, y = y24 + 1 := ⟨_, rfl⟩
              have hz63 : z63.toInt = y24.toInt + 1 := i_add ez63 rfl (by decide) (by (first | exact om_67c6ad613360 klp27_0.1 f39 | omega))
              refine lv_iinc (v := z63) (lv' := [(2, .int z63), (3, .int z50), (0, .ref (ad 1)), (1, .ref (ad (38 + b)))]) hx hb dX1_read_76 hl (k := 1) rfl (by rw [ez63]; rfl) (by decide) rfl (fun ls hl => ?_)
              refine lv_goto (tgt := 31) hx hb dX1_read_79 (by decide) ?_
              have pq64 : (V58 1 1).toInt = ((nI b)).toInt := congrArg Int32.toInt ((ajV58 1 1 rfl).trans ((ajV25 1 1 rfl).trans ((ajV22 1 1 rfl).trans ((up2_k hV17 (by decide)).trans ((up2_k hV15 (by decide)).trans ((ajV11 1 1 rfl).trans (up2_s hV2)))))))
              exact ihlp27 z63 V58 L59 H locs ls (by first | exact om_44a0a3faffcf klp27_0.1 f39 hz63 | first | omega | ((try (have i_t57 := Imp.go t57 (by omega))); omega)) t54 (Imp.go t53 (by (first | exact om_2ebe32d50835 rgz50.1 rgz50.2 f62 | omega))) (show (V58 1 2).toInt = -1 ∨ (24 * (b : Int) ≤ (V58 1 2).toInt ∧ (V58 1 2).toInt < 24 * (b : Int) + 24) from by first | omega | ((try (have i_t57 := Imp.go t57 (by omega))); omega)) (show (V58 1 1).toInt = (b : Int) from by first | exact om_adf531c77a0d r1 pq64 | first | omega | ((try (have i_t57 := Imp.go t57 (by omega))); omega)) (by first | exact om_7390df9cc880 hn hz63 | first | omega | ((try (have i_t57 := Imp.go t57 (by omega))); omega)) alL59 (agr.tr (agr.tr agr.rf ajV25 (by decide) (by decide)) ajV58 (by decide) (by decide)) hMV58 fwV58 hP hD hS (lv_sub hl [0, 2, 3] rfl)
            · skip
              have f65 : z50.toInt = 0 := b_eq rfl (by decide) c61
              refine lv_aload_n hx hb dX1_read_71 rfl (lv_at hl 2 rfl) ?_
              refine va_get (D := D) (ci := 1) (v := .int (V58 1 3)) (fs := (xfReader ad V58 L59 Z)) (C := RX1) (T := TX1) (N := 9) hx hb hg inX1 hown hK hP 1 xgReader rfl 3 (by decide) (hg _ w307) (fun _ h9 => h9) rfl dX1_read_72 ?_
              exact W.iret (v := (V58 1 3)) hx hb hr (fun t ht hW => ⟨⟨(V58 1 3), (V58, L59), rfl, ⟨hMV58, agV58, alL59, fwV58, (Imp.mk (fun hp => by exfalso; first | omega | ((try (have i_t57 := Imp.go t57 (by omega))); omega)))⟩, by rw [ht]; exact hP, va_K.moved hW.alike hK, hD⟩, hS.F ht⟩) hS.2.2 dX1_read_75
          · skip
            have ko := i_clamp (x := V25 1 2) rfl (by omega)
            refine lv_aload_n hx hb dX1_read_48 rfl (lv_at hl 1 rfl) ?_
            refine va_get (D := D) (ci := 1) (v := rfN ad 72 (V25 1 2)) (fs := (xfReader ad V25 L26 Z)) (C := RX1) (T := TX1) (N := 9) hx hb hg inX1 hown hK hP 1 xgReader rfl 2 (by decide) (hg _ w306) (fun _ h9 => h9) rfl dX1_read_49 ?_
            refine g_topv (v := .ref (ad (72 + (Int32.toNatClampNeg (V25 1 2))))) (rfN_r (by omega)) ?_
            refine lv_ifnonnull (tgt := 62) hx hb dX1_read_52 (by decide) ?_
            refine lv_aload_n hx hb dX1_read_62 rfl (lv_at hl 1 rfl) ?_
            refine gA_int (gA_runV (As := []) (rest := []) (ci := 1) (q0 := 1) hx hb hml hown hg hP hD hK hS hA hnw hgk (x_readMember l D ks H.size ad kk V25 L26 Z (b) ((Int32.toNatClampNeg (V25 1 2))) hMV25 (show b < 2 from by (first | exact om_f940a4667dd6 hb2 | omega)) (show (V25 1 1).toInt = (b : Int) from by (first | exact om_adf531c77a0d r1 pq29 | omega)) (show (V25 1 2).toInt = ((Int32.toNatClampNeg (V25 1 2)) : Int) from by (first | exact om_dadc9969542e ko | omega)) (show (Int32.toNatClampNeg (V25 1 2)) < 48 from by (first | exact om_755bf3536861 r28.2 ko | omega)) (show 24 * b ≤ (Int32.toNatClampNeg (V25 1 2)) from by (first | exact om_517a17f752ef xlp27_2 ko | omega)) (show (Int32.toNatClampNeg (V25 1 2)) < 24 * b + 24 from by (first | exact om_23a284822e24 xlp27_2 ko | omega)) xlp27_0 xlp27_1) w1003 w1005 w31 w162 w1006 rfl xgReader hdV_yX1_readMember ⟨Nat.le_of_ble_eq_true rfl, Nat.le_of_ble_eq_true rfl⟩ rfl hl.1 rfl (Nat.le_of_ble_eq_true rfl) dX1_read_63 ⟨Nat.le_of_ble_eq_true rfl, Nat.le_of_ble_eq_true rfl⟩) hP hD hK hS hA (fun z66 u67 H locs w68 hP hD hK hS => ?_)
            obtain ⟨V74, L75⟩ := u67
            obtain ⟨hMV74, ajV74, axL75, fyV74, rgz66, t69, t70, t71, t72, t73⟩ := w68
            have alL75 : agL [1, 6, 14, 44] L L75 := agL.tr alL26 axL75 (by decide)
            have hP : va_P D vwCl (xw ad kk V74 L75 Z) H := hP
            have hD : va_D A (xw ad kk V74 L75 Z) := hD
            have hMV74 : rgd bX V74 := hMV74
            have ajV74 : agr [(1, 2), (1, 3), (1, 4), (1, 6), (1, 8), (6, 8), (6, 9), (6, 10)] [42, 43, 44, 48, 49, 56, 57, 58, 59, 60, 61] V25 V74 := ajV74
            have agV74 : agr [(1, 1), (1, 2), (1, 3), (1, 4), (1, 6), (1, 7), (1, 8), (6, 6), (6, 7), (6, 8), (6, 9), (6, 10)] [12, 13, 14, 41, 42, 43, 44, 45, 46, 47, 48, 49, 50, 51, 52, 53, 54, 55, 56, 57, 58, 59, 60, 61, 62, 63, 64, 65, 66] V V74 := agV25.tr ajV74 (by decide) (by decide)
            have fwV74 : frX (xR b) V V74 := frX.tr fwV25 (fyV74)
            have rgz66 : 0 ≤ z66.toInt ∧ z66.toInt ≤ 1 := rgz66
            have t69 : TX V74 b := t69
            have t70 : (V74 1 2).toInt = (V25 1 2).toInt ∨ (V74 1 2).toInt = -1 := t70
            have t71 : CD V74 b := t71
            have t72 : px V25 V74 b := t72
            have t73 : Imp (z66.toInt = 0) (1 ≤ (V74 1 3).toInt) := t73
            have r76 : (-1) ≤ ((V74 1 2)).toInt ∧ ((V74 1 2)).toInt ≤ 47 := hMV74 1 2
            refine lv_istore_n (lv' := [(3, .int z66), (2, .int y24), (0, .ref (ad 1)), (1, .ref (ad (38 + b)))]) hx hb dX1_read_66 rfl hl (by decide) rfl (fun ls hl => ?_)
            refine lv_iload_n hx hb dX1_read_67 rfl (lv_at hl 0 rfl) ?_
            refine lv_if_ne (tgt := 76) hx hb dX1_read_68 (by decide) (fun c77 => ?_) (fun c77 => ?_)
            · skip
              have f78 : z66.toInt ≠ 0 := b_neq rfl (by decide) c77
              obtain ⟨z79, ez79⟩ : ∃ y : Int32, y = y24 + 1 := ⟨_, rfl⟩
              have hz79 : z79.toInt = y24.toInt + 1 := i_add ez79 rfl (by decide) (by (first | exact om_67c6ad613360 klp27_0.1 f39 | omega))
              refine lv_iinc (v := z79) (lv' := [(2, .int z79), (3, .int z66), (0, .ref (ad 1)), (1, .ref (ad (38 + b)))]) hx hb dX1_read_76 hl (k := 1) rfl (by rw [ez79]; rfl) (by decide) rfl (fun ls hl => ?_)
              refine lv_goto (tgt := 31) hx hb dX1_read_79 (by decide) ?_
              have pq80 : (V74 1 1).toInt = ((nI b)).toInt := congrArg Int32.toInt ((ajV74 1 1 rfl).trans ((ajV25 1 1 rfl).trans ((ajV22 1 1 rfl).trans ((up2_k hV17 (by decide)).trans ((up2_k hV15 (by decide)).trans ((ajV11 1 1 rfl).trans (up2_s hV2)))))))
              exact ihlp27 z79 V74 L75 H locs ls (by first | exact om_44a0a3faffcf klp27_0.1 f39 hz79 | first | omega | ((try (have i_t73 := Imp.go t73 (by omega))); omega)) t71 t69 (show (V74 1 2).toInt = -1 ∨ (24 * (b : Int) ≤ (V74 1 2).toInt ∧ (V74 1 2).toInt < 24 * (b : Int) + 24) from by first | omega | ((try (have i_t73 := Imp.go t73 (by omega))); omega)) (show (V74 1 1).toInt = (b : Int) from by first | exact om_adf531c77a0d r1 pq80 | first | omega | ((try (have i_t73 := Imp.go t73 (by omega))); omega)) (by first | exact om_7390df9cc880 hn hz79 | first | omega | ((try (have i_t73 := Imp.go t73 (by omega))); omega)) alL75 (agr.tr (agr.tr agr.rf ajV25 (by decide) (by decide)) ajV74 (by decide) (by decide)) hMV74 fwV74 hP hD hS (lv_sub hl [0, 2, 3] rfl)
            · skip
              have f81 : z66.toInt = 0 := b_eq rfl (by decide) c77
              refine lv_aload_n hx hb dX1_read_71 rfl (lv_at hl 2 rfl) ?_
              refine va_get (D := D) (ci := 1) (v := .int (V74 1 3)) (fs := (xfReader ad V74 L75 Z)) (C := RX1) (T := TX1) (N := 9) hx hb hg inX1 hown hK hP 1 xgReader rfl 3 (by decide) (hg _ w307) (fun _ h9 => h9) rfl dX1_read_72 ?_
              exact W.iret (v := (V74 1 3)) hx hb hr (fun t ht hW => ⟨⟨(V74 1 3), (V74, L75), rfl, ⟨hMV74, agV74, alL75, fwV74, (Imp.mk (fun hp => by exfalso; first | omega | ((try (have i_t73 := Imp.go t73 (by omega))); omega)))⟩, by rw [ht]; exact hP, va_K.moved hW.alike hK, hD⟩, hS.F ht⟩) hS.2.2 dX1_read_75
  have r82 : Int32.toInt 0 = 0 := by decide
  have pq83 : (V22 1 2).toInt = (-1) := (congrArg Int32.toInt ((ajV22 1 2 rfl).trans ((up2_k hV17 (by decide)).trans (up2_s hV15)))).trans (by decide)
  have pq84 : (V22 1 1).toInt = ((nI b)).toInt := congrArg Int32.toInt ((ajV22 1 1 rfl).trans ((up2_k hV17 (by decide)).trans ((up2_k hV15 (by decide)).trans ((ajV11 1 1 rfl).trans (up2_s hV2)))))
  have cd85 : CD V22 b := ⟨CB.ag cd13.1 (show agr [(1, 2), (1, 3), (6, 6), (6, 7), (6, 8), (6, 9), (6, 10)] [12, 13, 14] V11 V22 from (agr.tr (agr.up (agr.up agr.rf hV15 rfl) hV17 rfl) ajV22 (by decide) (by decide))) (fun _ => rfl) (fun _ => rfl), CO.ag cd13.2 (show agr [(1, 2), (1, 3), (6, 6), (6, 7), (6, 8), (6, 9), (6, 10)] [12, 13, 14] V11 V22 from (agr.tr (agr.up (agr.up agr.rf hV15 rfl) hV17 rfl) ajV22 (by decide) (by decide))) (fun _ => rfl) (fun _ => rfl)⟩
  have px86 : px V11 V22 b := px.tr (px.rf : px V11 V11 b) (px.ag (show agr [(1, 2), (1, 3), (6, 6), (6, 7), (6, 8), (6, 9), (6, 10)] [12, 13, 14] V11 V22 from (agr.tr (agr.up (agr.up agr.rf hV15 rfl) hV17 rfl) ajV22 (by decide) (by decide))) (fun _ => rfl) (fun _ => rfl) (fun _ => rfl))
  have tx87 : TX V22 b := TX.ag tx14 (show agr [(1, 2), (1, 3), (6, 6), (6, 7), (6, 8), (6, 9), (6, 10)] [12, 13, 14] V11 V22 from (agr.tr (agr.up (agr.up agr.rf hV15 rfl) hV17 rfl) ajV22 (by decide) (by decide))) px86 (fun _ => rfl) (fun _ => rfl) (fun _ => rfl) (fun _ => rfl) (fun _ => rfl) (fun _ => rfl)
  exact lp27 ((4000 - (Int32.toInt 0) + 1 : Int).toNat) 0 V22 L23 H locs ls (by decide) cd85 tx87 (show (V22 1 2).toInt = -1 ∨ (24 * (b : Int) ≤ (V22 1 2).toInt ∧ (V22 1 2).toInt < 24 * (b : Int) + 24) from by (first | exact om_0c2f92bdcdac pq83 | omega)) (show (V22 1 1).toInt = (b : Int) from by (first | exact om_adf531c77a0d r1 pq84 | omega)) (by (first | exact om_be7e3b1de7fd | omega)) alL23 agr.rf hMV22 fwV22 hP hD hS (lv_sub hl [0, 1, 2] rfl)
abbrev r_x_h_named : Room := { frames := 6, cells := 0, slots := 0, locals := 133 }
abbrev q_x_h_named (D : va_G) (ks : KS) (ad : Nat → Nat) (kk : Nat → ClassId) (V : Vf) (L : Lf) (Z : XZ) (p0 : Int32) (b : Nat) (A : Nat → Prop) : Array Value → State → Outcome → State → Prop := va_Qi (fun (r : Int32) (u : Vf × Lf) => rgd bX u.1 ∧ agr [(6, 5), (6, 6), (6, 7), (6, 8), (6, 9), (6, 10)] [12, 13, 14] V u.1 ∧ agL [6, 14] L u.2) (fun u t => gq D A (xw ad kk u.1 u.2 Z) (xty kk Z) t) A
end
section
/-! calls that make cells: what they leave says by how much the heap has grown -/
section GZ
variable {p : Program} {l : Launch} {e : Env} {R : Room} {s : State} {m : MethodId} {args : Array Value} {below : List Frame} {meth : Method} {c : Code} {H : Heap} {locs : List Loc} {cells slots : Nat} {Q : State → Prop}
variable {pc : Nat} {ls : Array Slot} {st0 rest : List Value} {D : va_G} {A : Nat → Prop} {ws : va_W}
def qZv {S : Type} (D : va_G) (post : S → Prop) (wq : S → va_W) (tq : S → List (ClassId × FieldType)) (zc zs : S → Nat) (A : Nat → Prop) : Array Value → State → Outcome → State → Prop := fun _ st oc t => (∃ u : S, oc = .returned none ∧ post u ∧ gq D A (wq u) (tq u) t ∧ t.heap.size ≤ st.heap.size + zc u ∧ tot t.heap ≤ tot st.heap + zs u) ∧ va_F A st t
def qZi {S : Type} (D : va_G) (post : Int32 → S → Prop) (wq : S → va_W) (tq : S → List (ClassId × FieldType)) (zc zs : S → Nat) (A : Nat → Prop) : Array Value → State → Outcome → State → Prop := fun _ st oc t => (∃ (r : Int32) (u : S), oc = .returned (some (.int r)) ∧ post r u ∧ gq D A (wq u) (tq u) t ∧ t.heap.size ≤ st.heap.size + zc u ∧ tot t.heap ≤ tot st.heap + zs u) ∧ va_F A st t
def qZr {S : Type} (D : va_G) (post : S → Prop) (ra : S → Nat) (wq : S → va_W) (tq : S → List (ClassId × FieldType)) (zc zs : S → Nat) (A : Nat → Prop) : Array Value → State → Outcome → State → Prop := fun _ st oc t => (∃ u : S, oc = .returned (some (.ref (ra u))) ∧ post u ∧ gq D A (wq u) (tq u) t ∧ t.heap.size ≤ st.heap.size + zc u ∧ tot t.heap ≤ tot st.heap + zs u) ∧ va_F A st t
theorem gZ_void {S : Type} {post : S → Prop} {wq : S → va_W} {tq : S → List (ClassId × FieldType)} {zc zs : S → Nat} {mc ms : Nat} {av : Array Value} (hr : va_Run p l e R s m args below meth c H locs cells slots mc ms (F0 m pc ls st0) rest (qZv D post wq tq zc zs (va_A ws H.size) av) (va_A ws H.size))
    (hD : va_D A ws) (hS : va_S A s.heap H locs) (hA : ∀ q, s.heap.size ≤ q → A q)
    (kk : ∀ (u : S) (H1 : Heap) (locs1 : List Loc), post u → va_P D vwCl (wq u) H1 → va_D A (wq u) → va_K D vwCl (tq u) s → va_S A s.heap H1 locs1 → H1.size ≤ H.size + zc u → tot H1 ≤ tot H + zs u → W p l e R s m args below meth c H1 locs1 (cells + mc) (slots + ms) Q (F0 m (pc + 3) ls rest)) : W p l e R s m args below meth c H locs cells slots Q (F0 m pc ls st0) := by
  have hF := gA_free hD hS hA
  intro T hT X
  obtain ⟨v, st₀, t, T', L, h0, X', hL, e1, e2, ⟨⟨u, hv, hp, hb, y1, y2⟩, hz, hk⟩, st⟩ := hr T hT X
  cases hv
  rw [h0] at hz hk y1 y2
  obtain ⟨hP1, hK1, hD1⟩ := hb
  have hvm : s.vm.Alike t.vm := by rw [← e2]; exact X'.warmed.alike
  obtain ⟨t2, a1, b1⟩ := kk u T'.heap (locs ++ L) hp (by rw [e1]; exact hP1) (hD1.weaken (fun _ _ _ h => hF _ h)) (va_K.moved hvm.symm hK1)
    ⟨Nat.le_trans hS.1 (by rw [e1]; exact hz), fun q h1 h2 => by rw [e1, hk q (Nat.lt_of_lt_of_le h1 hS.1) (fun z => h2 (hF q z))]; exact hS.2.1 q h1 h2, fun q hq => by
      rcases List.mem_append.mp hq with h | h
      · exact hS.2.2 q h
      · exact hF _ (hL q h)⟩ (by rw [e1]; exact y1) (by rw [e1]; exact y2) T' rfl X'
  exact ⟨t2, st t2 a1, b1⟩
theorem gZ_int {S : Type} {post : Int32 → S → Prop} {wq : S → va_W} {tq : S → List (ClassId × FieldType)} {zc zs : S → Nat} {mc ms : Nat} {av : Array Value} (hr : va_Run p l e R s m args below meth c H locs cells slots mc ms (F0 m pc ls st0) rest (qZi D post wq tq zc zs (va_A ws H.size) av) (va_A ws H.size))
    (hD : va_D A ws) (hS : va_S A s.heap H locs) (hA : ∀ q, s.heap.size ≤ q → A q)
    (kk : ∀ (r : Int32) (u : S) (H1 : Heap) (locs1 : List Loc), post r u → va_P D vwCl (wq u) H1 → va_D A (wq u) → va_K D vwCl (tq u) s → va_S A s.heap H1 locs1 → H1.size ≤ H.size + zc u → tot H1 ≤ tot H + zs u → W p l e R s m args below meth c H1 locs1 (cells + mc) (slots + ms) Q (F0 m (pc + 3) ls (.int r :: rest))) : W p l e R s m args below meth c H locs cells slots Q (F0 m pc ls st0) := by
  have hF := gA_free hD hS hA
  intro T hT X
  obtain ⟨v, st₀, t, T', L, h0, X', hL, e1, e2, ⟨⟨r, u, hv, hp, hb, y1, y2⟩, hz, hk⟩, st⟩ := hr T hT X
  cases hv
  rw [h0] at hz hk y1 y2
  obtain ⟨hP1, hK1, hD1⟩ := hb
  have hvm : s.vm.Alike t.vm := by rw [← e2]; exact X'.warmed.alike
  obtain ⟨t2, a1, b1⟩ := kk r u T'.heap (locs ++ L) hp (by rw [e1]; exact hP1) (hD1.weaken (fun _ _ _ h => hF _ h)) (va_K.moved hvm.symm hK1)
    ⟨Nat.le_trans hS.1 (by rw [e1]; exact hz), fun q h1 h2 => by rw [e1, hk q (Nat.lt_of_lt_of_le h1 hS.1) (fun z => h2 (hF q z))]; exact hS.2.1 q h1 h2, fun q hq => by
      rcases List.mem_append.mp hq with h | h
      · exact hS.2.2 q h
      · exact hF _ (hL q h)⟩ (by rw [e1]; exact y1) (by rw [e1]; exact y2) T' rfl X'
  exact ⟨t2, st t2 a1, b1⟩
theorem gZ_ref {S : Type} {post : S → Prop} {ra : S → Nat} {wq : S → va_W} {tq : S → List (ClassId × FieldType)} {zc zs : S → Nat} {mc ms : Nat} {av : Array Value} (hr : va_Run p l e R s m args below meth c H locs cells slots mc ms (F0 m pc ls st0) rest (qZr D post ra wq tq zc zs (va_A ws H.size) av) (va_A ws H.size))
    (hD : va_D A ws) (hS : va_S A s.heap H locs) (hA : ∀ q, s.heap.size ≤ q → A q)
    (kk : ∀ (u : S) (H1 : Heap) (locs1 : List Loc), post u → va_P D vwCl (wq u) H1 → va_D A (wq u) → va_K D vwCl (tq u) s → va_S A s.heap H1 locs1 → H1.size ≤ H.size + zc u → tot H1 ≤ tot H + zs u → W p l e R s m args below meth c H1 locs1 (cells + mc) (slots + ms) Q (F0 m (pc + 3) ls (.ref (ra u) :: rest))) : W p l e R s m args below meth c H locs cells slots Q (F0 m pc ls st0) := by
  have hF := gA_free hD hS hA
  intro T hT X
  obtain ⟨v, st₀, t, T', L, h0, X', hL, e1, e2, ⟨⟨u, hv, hp, hb, y1, y2⟩, hz, hk⟩, st⟩ := hr T hT X
  cases hv
  rw [h0] at hz hk y1 y2
  obtain ⟨hP1, hK1, hD1⟩ := hb
  have hvm : s.vm.Alike t.vm := by rw [← e2]; exact X'.warmed.alike
  obtain ⟨t2, a1, b1⟩ := kk u T'.heap (locs ++ L) hp (by rw [e1]; exact hP1) (hD1.weaken (fun _ _ _ h => hF _ h)) (va_K.moved hvm.symm hK1)
    ⟨Nat.le_trans hS.1 (by rw [e1]; exact hz), fun q h1 h2 => by rw [e1, hk q (Nat.lt_of_lt_of_le h1 hS.1) (fun z => h2 (hF q z))]; exact hS.2.1 q h1 h2, fun q hq => by
      rcases List.mem_append.mp hq with h | h
      · exact hS.2.2 q h
      · exact hF _ (hL q h)⟩ (by rw [e1]; exact y1) (by rw [e1]; exact y2) T' rfl X'
  exact ⟨t2, st t2 a1, b1⟩
end GZ
theorem more_fa {Z : XZ} {q i : Nat} (h : ¬ i = Z.nf) : (Z.more q).fa i = Z.fa i := if_neg h
theorem xb_frz {ad : Nat → Nat} {kk : Nat → ClassId} {V : Vf} {L : Lf} {Z : XZ} {q : Nat} {j : Nat} (h : j < 298 + Z.nf) : xb ad kk (frz V Z.nf) L (Z.more q) j = xb ad kk V L Z j := by
  unfold xb
  by_cases h0 : j < 2
  · rw [if_pos h0, if_pos h0]
    show xeBook ad kk (frz V Z.nf) L (Z.more q) _ = xeBook ad kk V L Z _
    unfold xeBook xfBook
    rw [frz_lo (V := V) (n := Z.nf) (c := 41) (by decide), frz_lo (V := V) (n := Z.nf) (c := 42) (by decide)]
  rw [if_neg h0, if_neg h0]
  by_cases h2 : j < 12
  · rw [if_pos h2, if_pos h2]
    show xeNames ad kk (frz V Z.nf) L (Z.more q) _ = xeNames ad kk V L Z _
    unfold xeNames xfNames
    rw [frz_lo (V := V) (n := Z.nf) (c := 43) (by decide)]
  rw [if_neg h2, if_neg h2]
  by_cases h12 : j < 22
  · rw [if_pos h12, if_pos h12]
    rfl
  rw [if_neg h12, if_neg h12]
  by_cases h22 : j < 24
  · rw [if_pos h22, if_pos h22]
    show xetypeUnder ad kk (frz V Z.nf) L (Z.more q) _ = xetypeUnder ad kk V L Z _
    unfold xetypeUnder
    rw [frz_lo (V := V) (n := Z.nf) (c := 45) (by decide)]
  rw [if_neg h22, if_neg h22]
  by_cases h24 : j < 26
  · rw [if_pos h24, if_pos h24]
    show xesettingValues ad kk (frz V Z.nf) L (Z.more q) _ = xesettingValues ad kk V L Z _
    unfold xesettingValues
    rw [frz_lo (V := V) (n := Z.nf) (c := 46) (by decide)]
  rw [if_neg h24, if_neg h24]
  by_cases h26 : j < 28
  · rw [if_pos h26, if_pos h26]
    rfl
  rw [if_neg h26, if_neg h26]
  by_cases h28 : j < 30
  · rw [if_pos h28, if_pos h28]
    rfl
  rw [if_neg h28, if_neg h28]
  by_cases h30 : j < 32
  · rw [if_pos h30, if_pos h30]
    show xewrapOrder ad kk (frz V Z.nf) L (Z.more q) _ = xewrapOrder ad kk V L Z _
    unfold xewrapOrder
    rw [frz_lo (V := V) (n := Z.nf) (c := 47) (by decide)]
  rw [if_neg h30, if_neg h30]
  by_cases h32 : j < 34
  · rw [if_pos h32, if_pos h32]
    show xecode ad kk (frz V Z.nf) L (Z.more q) _ = xecode ad kk V L Z _
    unfold xecode
    rw [frz_lo (V := V) (n := Z.nf) (c := 48) (by decide)]
  rw [if_neg h32, if_neg h32]
  by_cases h34 : j < 82
  · rw [if_pos h34, if_pos h34]
    show xeComp ad kk (frz V Z.nf) L (Z.more q) _ = xeComp ad kk V L Z _
    unfold xeComp xfComp
    rw [frz_lo (V := V) (n := Z.nf) (c := 49) (by decide), frz_lo (V := V) (n := Z.nf) (c := 50) (by decide), frz_lo (V := V) (n := Z.nf) (c := 51) (by decide), frz_lo (V := V) (n := Z.nf) (c := 52) (by decide), frz_lo (V := V) (n := Z.nf) (c := 53) (by decide), frz_lo (V := V) (n := Z.nf) (c := 54) (by decide), frz_lo (V := V) (n := Z.nf) (c := 55) (by decide), frz_lo (V := V) (n := Z.nf) (c := 56) (by decide), frz_lo (V := V) (n := Z.nf) (c := 57) (by decide)]
  rw [if_neg h34, if_neg h34]
  by_cases h82 : j < 130
  · rw [if_pos h82, if_pos h82]
    show xeneedTypes ad kk (frz V Z.nf) L (Z.more q) _ = xeneedTypes ad kk V L Z _
    unfold xeneedTypes
    rw [frz_lo (V := V) (n := Z.nf) (c := 58) (by decide)]
  rw [if_neg h82, if_neg h82]
  by_cases h130 : j < 178
  · rw [if_pos h130, if_pos h130]
    show xeneedWords ad kk (frz V Z.nf) L (Z.more q) _ = xeneedWords ad kk V L Z _
    unfold xeneedWords
    rw [frz_lo (V := V) (n := Z.nf) (c := 59) (by decide)]
  rw [if_neg h130, if_neg h130]
  by_cases h178 : j < 226
  · rw [if_pos h178, if_pos h178]
    show xeneedKinds ad kk (frz V Z.nf) L (Z.more q) _ = xeneedKinds ad kk V L Z _
    unfold xeneedKinds
    rw [frz_lo (V := V) (n := Z.nf) (c := 60) (by decide)]
  rw [if_neg h178, if_neg h178]
  by_cases h226 : j < 274
  · rw [if_pos h226, if_pos h226]
    show xemethodStarts ad kk (frz V Z.nf) L (Z.more q) _ = xemethodStarts ad kk V L Z _
    unfold xemethodStarts
    rw [frz_lo (V := V) (n := Z.nf) (c := 61) (by decide)]
  rw [if_neg h226, if_neg h226]
  by_cases h274 : j < 298
  · rw [if_pos h274, if_pos h274]
    show xeWrap ad kk (frz V Z.nf) L (Z.more q) _ = xeWrap ad kk V L Z _
    unfold xeWrap xfWrap
    rw [frz_lo (V := V) (n := Z.nf) (c := 62) (by decide), frz_lo (V := V) (n := Z.nf) (c := 63) (by decide), frz_lo (V := V) (n := Z.nf) (c := 64) (by decide), frz_lo (V := V) (n := Z.nf) (c := 65) (by decide), frz_lo (V := V) (n := Z.nf) (c := 66) (by decide)]
  rw [if_neg h274, if_neg h274]
  show xeFrame ad kk (frz V Z.nf) L (Z.more q) _ = xeFrame ad kk V L Z _
  unfold xeFrame xfFrame
  have e : ∀ c, frz V Z.nf c (j - 298) = V c (j - 298) := fun c => frz_k (by omega)
  have hne : ¬ (j - 298 = Z.nf) := by omega
  have ef : (Z.more q).fa (j - 298) = Z.fa (j - 298) := more_fa hne
  rw [ef, e 67, e 68, e 69, e 70, e 71, e 72, e 73, e 74, e 75, e 76, e 77, e 78, e 79, e 80, e 81, e 82, e 83, e 84, e 85]
theorem xs_frz {ad : Nat → Nat} {kk : Nat → ClassId} {V : Vf} {L : Lf} {Z : XZ} {q : Nat} : xs ad kk (frz V Z.nf) L (Z.more q) = (xs ad kk V L Z).set 35 (ad 35, .inl (kk 35, 400, .inr (.inr (.inr (.inr (va_up (fun j => if j < Z.nf then some (Z.fa j) else none) Z.nf (some q))))))) := by
  have ef : (fun j => if j < (Z.more q).nf then some ((Z.more q).fa j) else none) = va_up (fun j => if j < Z.nf then some (Z.fa j) else none) Z.nf (some q) := by
    funext j
    show (if j < Z.nf + 1 then some (if j = Z.nf then q else Z.fa j) else none) = if j = Z.nf then some q else if j < Z.nf then some (Z.fa j) else none
    by_cases h : j = Z.nf
    · rw [if_pos h, if_pos (by omega), if_pos h]
    · rw [if_neg h]
      by_cases h2 : j < Z.nf
      · rw [if_pos h2, if_pos (by omega), if_neg h]
      · have h3 : ¬ (j < Z.nf + 1) := by omega
        rw [if_neg h2, if_neg h3, if_neg h]
  unfold xs xfHouse xfReader xfChecker xfStock xfNotes xfMachine xfTape
  rw [frz_lo (V := V) (n := Z.nf) (c := 0) (by decide), frz_lo (V := V) (n := Z.nf) (c := 1) (by decide), frz_lo (V := V) (n := Z.nf) (c := 2) (by decide), frz_lo (V := V) (n := Z.nf) (c := 3) (by decide), frz_lo (V := V) (n := Z.nf) (c := 4) (by decide), frz_lo (V := V) (n := Z.nf) (c := 5) (by decide), frz_lo (V := V) (n := Z.nf) (c := 6) (by decide), frz_lo (V := V) (n := Z.nf) (c := 10) (by decide), frz_lo (V := V) (n := Z.nf) (c := 12) (by decide), frz_lo (V := V) (n := Z.nf) (c := 13) (by decide), frz_lo (V := V) (n := Z.nf) (c := 15) (by decide), frz_lo (V := V) (n := Z.nf) (c := 16) (by decide), frz_lo (V := V) (n := Z.nf) (c := 17) (by decide), frz_lo (V := V) (n := Z.nf) (c := 18) (by decide), frz_lo (V := V) (n := Z.nf) (c := 19) (by decide), frz_lo (V := V) (n := Z.nf) (c := 20) (by decide), frz_lo (V := V) (n := Z.nf) (c := 21) (by decide), frz_lo (V := V) (n := Z.nf) (c := 22) (by decide), frz_lo (V := V) (n := Z.nf) (c := 23) (by decide), frz_lo (V := V) (n := Z.nf) (c := 24) (by decide), frz_lo (V := V) (n := Z.nf) (c := 25) (by decide), frz_lo (V := V) (n := Z.nf) (c := 26) (by decide), frz_lo (V := V) (n := Z.nf) (c := 27) (by decide), frz_lo (V := V) (n := Z.nf) (c := 28) (by decide), frz_lo (V := V) (n := Z.nf) (c := 29) (by decide), frz_lo (V := V) (n := Z.nf) (c := 30) (by decide), frz_lo (V := V) (n := Z.nf) (c := 31) (by decide), frz_lo (V := V) (n := Z.nf) (c := 32) (by decide), frz_lo (V := V) (n := Z.nf) (c := 33) (by decide), frz_lo (V := V) (n := Z.nf) (c := 34) (by decide), frz_lo (V := V) (n := Z.nf) (c := 35) (by decide), frz_lo (V := V) (n := Z.nf) (c := 36) (by decide), frz_lo (V := V) (n := Z.nf) (c := 37) (by decide), frz_lo (V := V) (n := Z.nf) (c := 39) (by decide), frz_lo (V := V) (n := Z.nf) (c := 40) (by decide), ef]
  rfl
theorem xw_frz {ad : Nat → Nat} {kk : Nat → ClassId} {V : Vf} {L : Lf} {Z : XZ} {q : Nat} : (xw ad kk V L Z ++ ([(q, Sum.inr (4, xfFrame (frz V Z.nf) Z.nf))] : va_W)).set 35 (ad 35, .inl (kk 35, 400, .inr (.inr (.inr (.inr (va_up (fun j => if j < Z.nf then some (Z.fa j) else none) Z.nf (some q))))))) = xw ad kk (frz V Z.nf) L (Z.more q) := by
  unfold xw
  rw [show 298 + (Z.more q).nf = (298 + Z.nf) + 1 from rfl, List.range_succ, List.map_append, List.append_assoc, List.set_append_left _ _ (show 35 < (xs ad kk V L Z).length from by show 35 < 38; omega), xs_frz]
  have e1 : (List.range (298 + Z.nf)).map (xb ad kk (frz V Z.nf) L (Z.more q)) = (List.range (298 + Z.nf)).map (xb ad kk V L Z) := List.map_congr_left (fun j hj => xb_frz (List.mem_range.mp hj))
  have e2 : xb ad kk (frz V Z.nf) L (Z.more q) (298 + Z.nf) = (q, Sum.inr (4, xfFrame (frz V Z.nf) Z.nf)) := by
    rw [xjFrame (Z := Z.more q) (show Z.nf < (Z.more q).nf from Nat.lt_succ_self _)]
    unfold xeFrame
    rw [show (Z.more q).fa Z.nf = q from if_pos rfl]
  rw [e1, List.map_cons, List.map_nil, e2]
/-! how much may still be made -/
def zcc (Z : XZ) : Nat := (400 - Z.nf) + (262144 - Z.ln) / 256
def zss (Z : XZ) : Nat := 19 * (400 - Z.nf) + 4 * (262144 - Z.ln)
def ZL (Z Z' : XZ) : Prop := zcc Z' ≤ zcc Z ∧ zss Z' ≤ zss Z ∧ Z.nf ≤ Z'.nf ∧ Z.ln ≤ Z'.ln ∧ ∀ i, i < Z.nf → Z'.fa i = Z.fa i
theorem ZL.rf {Z : XZ} : ZL Z Z := ⟨Nat.le_refl _, Nat.le_refl _, Nat.le_refl _, Nat.le_refl _, fun _ _ => rfl⟩
theorem ZL.tr {Z Z' Y : XZ} (h : ZL Z Z') (k : ZL Z' Y) : ZL Z Y := ⟨Nat.le_trans k.1 h.1, Nat.le_trans k.2.1 h.2.1, Nat.le_trans h.2.2.1 k.2.2.1, Nat.le_trans h.2.2.2.1 k.2.2.2.1, fun i hi => (k.2.2.2.2 i (Nat.lt_of_lt_of_le hi h.2.2.1)).trans (h.2.2.2.2 i hi)⟩
theorem zc_more {Z : XZ} (h : Z.nf < 400) (q : Nat) : zcc (Z.more q) + 1 = zcc Z ∧ zss (Z.more q) + 19 = zss Z := by
  unfold zcc zss
  have e1 : (Z.more q).nf = Z.nf + 1 := rfl
  have e2 : (Z.more q).ln = Z.ln := rfl
  rw [e1, e2]
  constructor <;> omega
theorem ZL.more {Z : XZ} {q : Nat} (h : Z.nf < 400) : ZL Z (Z.more q) := ⟨by have := zc_more h q; omega, by have := zc_more h q; omega, Nat.le_succ _, Nat.le_refl _, fun i hi => more_fa (by omega)⟩
theorem z0 {a b : Nat} : a - b + 0 ≤ a := Nat.sub_le _ _
theorem z1 {a b : Nat} (h : b ≤ a) : a - b + b ≤ a := by omega
theorem frz_z {V : Vf} {n c : Nat} (h : 67 ≤ c ∧ c ≤ 85) : frz V n c n = 0 := if_pos ⟨h, rfl⟩
theorem xf_frz {V : Vf} {n : Nat} : xfFrame (frz V n) n = [.int 0, .int 0, .int 0, .int 0, .int 0, .int 0, .int 0, .int 0, .int 0, .int 0, .int 0, .int 0, .int 0, .int 0, .int 0, .int 0, .int 0, .int 0, .int 0] := by
  unfold xfFrame
  rw [frz_z (V := V) (n := n) (c := 67) (by decide), frz_z (V := V) (n := n) (c := 68) (by decide), frz_z (V := V) (n := n) (c := 69) (by decide), frz_z (V := V) (n := n) (c := 70) (by decide), frz_z (V := V) (n := n) (c := 71) (by decide), frz_z (V := V) (n := n) (c := 72) (by decide), frz_z (V := V) (n := n) (c := 73) (by decide), frz_z (V := V) (n := n) (c := 74) (by decide), frz_z (V := V) (n := n) (c := 75) (by decide), frz_z (V := V) (n := n) (c := 76) (by decide), frz_z (V := V) (n := n) (c := 77) (by decide), frz_z (V := V) (n := n) (c := 78) (by decide), frz_z (V := V) (n := n) (c := 79) (by decide), frz_z (V := V) (n := n) (c := 80) (by decide), frz_z (V := V) (n := n) (c := 81) (by decide), frz_z (V := V) (n := n) (c := 82) (by decide), frz_z (V := V) (n := n) (c := 83) (by decide), frz_z (V := V) (n := n) (c := 84) (by decide), frz_z (V := V) (n := n) (c := 85) (by decide)]
theorem rgd_frz {V : Vf} {n : Nat} (h : rgd bX V) : rgd bX (frz V n) := by
  intro c k
  by_cases q : (67 ≤ c ∧ c ≤ 85) ∧ k = n
  · have e : frz V n c k = 0 := if_pos q
    rw [e]
    have hc : c = 67 ∨ c = 68 ∨ c = 69 ∨ c = 70 ∨ c = 71 ∨ c = 72 ∨ c = 73 ∨ c = 74 ∨ c = 75 ∨ c = 76 ∨ c = 77 ∨ c = 78 ∨ c = 79 ∨ c = 80 ∨ c = 81 ∨ c = 82 ∨ c = 83 ∨ c = 84 ∨ c = 85 := by omega
    rcases hc with rfl | rfl | rfl | rfl | rfl | rfl | rfl | rfl | rfl | rfl | rfl | rfl | rfl | rfl | rfl | rfl | rfl | rfl | rfl
    · exact ⟨(show ((-2147483648) : Int) ≤ Int32.toInt 0 from by decide), (show Int32.toInt 0 ≤ (2147483647 : Int) from by decide)⟩
    · exact ⟨(show ((-2147483648) : Int) ≤ Int32.toInt 0 from by decide), (show Int32.toInt 0 ≤ (2147483647 : Int) from by decide)⟩
    · exact ⟨(show ((-2147483648) : Int) ≤ Int32.toInt 0 from by decide), (show Int32.toInt 0 ≤ (2147483647 : Int) from by decide)⟩
    · exact ⟨(show ((-2147483648) : Int) ≤ Int32.toInt 0 from by decide), (show Int32.toInt 0 ≤ (2147483647 : Int) from by decide)⟩
    · exact ⟨(show ((-1) : Int) ≤ Int32.toInt 0 from by decide), (show Int32.toInt 0 ≤ (23 : Int) from by decide)⟩
    · exact ⟨(show (0 : Int) ≤ Int32.toInt 0 from by decide), (show Int32.toInt 0 ≤ (39 : Int) from by decide)⟩
    · exact ⟨(show (0 : Int) ≤ Int32.toInt 0 from by decide), (show Int32.toInt 0 ≤ (19 : Int) from by decide)⟩
    · exact ⟨(show ((-2147483648) : Int) ≤ Int32.toInt 0 from by decide), (show Int32.toInt 0 ≤ (2147483647 : Int) from by decide)⟩
    · exact ⟨(show (0 : Int) ≤ Int32.toInt 0 from by decide), (show Int32.toInt 0 ≤ (12 : Int) from by decide)⟩
    · exact ⟨(show ((-2147483648) : Int) ≤ Int32.toInt 0 from by decide), (show Int32.toInt 0 ≤ (2147483647 : Int) from by decide)⟩
    · exact ⟨(show (0 : Int) ≤ Int32.toInt 0 from by decide), (show Int32.toInt 0 ≤ (19 : Int) from by decide)⟩
    · exact ⟨(show ((-2147483648) : Int) ≤ Int32.toInt 0 from by decide), (show Int32.toInt 0 ≤ (2147483647 : Int) from by decide)⟩
    · exact ⟨(show ((-2147483648) : Int) ≤ Int32.toInt 0 from by decide), (show Int32.toInt 0 ≤ (2147483647 : Int) from by decide)⟩
    · exact ⟨(show (0 : Int) ≤ Int32.toInt 0 from by decide), (show Int32.toInt 0 ≤ (300 : Int) from by decide)⟩
    · exact ⟨(show ((-2147483648) : Int) ≤ Int32.toInt 0 from by decide), (show Int32.toInt 0 ≤ (2147483647 : Int) from by decide)⟩
    · exact ⟨(show ((-2147483648) : Int) ≤ Int32.toInt 0 from by decide), (show Int32.toInt 0 ≤ (2147483647 : Int) from by decide)⟩
    · exact ⟨(show (0 : Int) ≤ Int32.toInt 0 from by decide), (show Int32.toInt 0 ≤ (1 : Int) from by decide)⟩
    · exact ⟨(show (0 : Int) ≤ Int32.toInt 0 from by decide), (show Int32.toInt 0 ≤ (2147483647 : Int) from by decide)⟩
    · exact ⟨(show (0 : Int) ≤ Int32.toInt 0 from by decide), (show Int32.toInt 0 ≤ (2048 : Int) from by decide)⟩
  · have e : frz V n c k = V c k := if_neg q
    rw [e]
    exact h c k
theorem frz_ag {V : Vf} {n : Nat} : agr [] [67, 68, 69, 70, 71, 72, 73, 74, 75, 76, 77, 78, 79, 80, 81, 82, 83, 84, 85] V (frz V n) := by
  intro c k h
  by_cases q : 67 ≤ c ∧ c ≤ 85
  · exfalso
    have hc : c = 67 ∨ c = 68 ∨ c = 69 ∨ c = 70 ∨ c = 71 ∨ c = 72 ∨ c = 73 ∨ c = 74 ∨ c = 75 ∨ c = 76 ∨ c = 77 ∨ c = 78 ∨ c = 79 ∨ c = 80 ∨ c = 81 ∨ c = 82 ∨ c = 83 ∨ c = 84 ∨ c = 85 := by omega
    rcases hc with rfl | rfl | rfl | rfl | rfl | rfl | rfl | rfl | rfl | rfl | rfl | rfl | rfl | rfl | rfl | rfl | rfl | rfl | rfl <;> exact Bool.noConfusion (show true = false from h)
  · unfold frz
    rw [if_neg (fun a => q a.1)]
theorem xw_len {ad : Nat → Nat} {kk : Nat → ClassId} {V : Vf} {L : Lf} {Z : XZ} : (xw ad kk V L Z).length = 336 + Z.nf := by
  unfold xw
  rw [List.length_append, List.length_map, List.length_range, show (xs ad kk V L Z).length = 38 from rfl]
  omega
theorem xw_new {ad : Nat → Nat} {kk : Nat → ClassId} {V : Vf} {L : Lf} {Z : XZ} {e : Nat × va_E} : (xw ad kk V L Z ++ [e])[336 + Z.nf]? = some e := by
  rw [List.getElem?_append_right (by rw [xw_len]; exact Nat.le_refl _), xw_len, Nat.sub_self]
  rfl
theorem xw_frz2 {ad : Nat → Nat} {kk : Nat → ClassId} {V : Vf} {L : Lf} {Z : XZ} {q i : Nat} (h : i = Z.nf) : (xw ad kk V L Z ++ ([(q, Sum.inr (4, [.int 0, .int 0, .int 0, .int 0, .int 0, .int 0, .int 0, .int 0, .int 0, .int 0, .int 0, .int 0, .int 0, .int 0, .int 0, .int 0, .int 0, .int 0, .int 0]))] : va_W)).set 35 (ad 35, .inl (kk 35, 400, .inr (.inr (.inr (.inr (va_up (fun j => if j < Z.nf then some (Z.fa j) else none) i (some q))))))) = xw ad kk (frz V Z.nf) L (Z.more q) := by
  rw [h, ← xf_frz (V := V) (n := Z.nf)]
  exact xw_frz

theorem w1188 : Cond.methodLink RX4 1 objectInit ∈ GW := gw_k tk9_5 73 (by decide +kernel) rfl
theorem dk9_dX4_init_0_0 : dOk cX4_init [(0, .aload_n 0, 1), (1, .invokespecial 1, 3), (4, .return_, 1)] = true := by decide +kernel
theorem dX4_init_0 : decode cX4_init 0 = .ok (.aload_n 0, 1) := dr9 dk9_dX4_init_0_0 0 (0, .aload_n 0, 1) rfl
theorem dX4_init_1 : decode cX4_init 1 = .ok (.invokespecial 1, 3) := dr9 dk9_dX4_init_0_0 1 (1, .invokespecial 1, 3) rfl
theorem dX4_init_4 : decode cX4_init 4 = .ok (.return_, 1) := dr9 dk9_dX4_init_0_0 2 (4, .return_, 1) rfl
abbrev r_c_Frame_init : Room := { frames := 1, cells := 0, slots := 0, locals := 20 }
abbrev q_c_Frame_init (D : va_G) (h0 : Nat) (A : Nat → Prop) : Array Value → State → Outcome → State → Prop := va_Qv (fun (_ : Unit) => True) (fun u t => gq D A ((fun (_ : Unit) => []) u) ((fun (_ : Unit) => ([] : List (ClassId × FieldType))) u) t) A
set_option maxHeartbeats 4000000 in
set_option maxRecDepth 100000 in
theorem c_Frame_init (l : Launch) (D : va_G) (ks : KS) (sz : Nat) (h0 : Nat) : Met l yX4_init (Cond.code yX4_init cX4_init 1 none :: GW) r_c_Frame_init (va_Pc [.ref h0] (gp D ks [] [] sz)) (q_c_Frame_init D h0 (va_A [] sz)) 0 0 (va_A [] sz) := by
  refine g_met (q_c_Frame_init D h0) (by decide) (Nat.le_of_ble_eq_true rfl) ?_
  intro p e s m below meth c A ls H locs hx hb hr hml hown hg hlocks hin hnw hgk hP hK hD hS hA hl
  have hown : s.vm.findClass RX4 = some m.cls := hown
  have hin : meth.name = "<init>" := hin
  have hl : lv_has ls 1 [(0, .ref h0)] := hl
  refine lv_aload_n hx hb dX4_init_0 rfl (lv_at hl 0 rfl) ?_
  refine W.objInit hx hb hown (hg _ w1188) (hg _ w188) (hg _ wobj) rfl (by rw [hml]; exact hl.1) rfl dX4_init_1 (Nat.le_of_ble_eq_true rfl) (Nat.le_of_ble_eq_true rfl) ?_
  refine W.eq (g2 := F0 m 4 ls []) rfl ?_
  refine W.widen (k := 0) (n := 0) (Nat.le_of_ble_eq_true rfl) (Nat.le_of_ble_eq_true rfl) ?_
  have hP9 := hP.sub (ws' := []) [] rfl
  have hD9 := hD.sub (ws' := []) [] (by decide) rfl
  have hK9 := hK.sub (tys' := []) [] rfl
  exact W.vret hx hb hr (fun t ht hW => ⟨⟨(), rfl, (by first | rfl | trivial | assumption | decide), by rw [ht]; exact hP9, va_K.moved hW.alike hK9, hD9⟩, hS.F ht⟩) hS.2.2 dX4_init_4
end
section
/-! the Machine: what a run keeps -/
def BE (V W : Vf) : Prop := ∀ c k : Nat, 41 ≤ c → c ≤ 66 → W c k = V c k
theorem BE.p0 {V W : Vf} {b : Nat} (h : BE V W) : p0x V W b := ⟨by rw [h 42 b (by decide) (by decide)]; exact Int.le_refl _, fun k _ => h 48 _ (by decide) (by decide)⟩
theorem BE.bd {V W : Vf} {b : Nat} (h : BE V W) (p : Nat) : bdp W b p = bdp V b p := bd_ext p (fun k _ => h 48 _ (by decide) (by decide))
theorem TX.be {V W : Vf} {b : Nat} (h : TX V b) (e : BE V W) : TX W b := by
  refine ⟨fun c hc => ?_, fun w hw => ?_, fun x hx => ?_⟩
  · rw [e 43 _ (by decide) (by decide)] at hc
    have z := h.1 c hc
    rw [e 56 _ (by decide) (by decide), e 57 _ (by decide) (by decide)]
    refine ⟨z.1.up e.p0, z.2.1.up e.p0, fun m hm => ?_⟩
    rw [e 61 _ (by decide) (by decide)]
    exact (z.2.2 m hm).up e.p0
  · rw [e 41 _ (by decide) (by decide)] at hw
    rw [e 66 _ (by decide) (by decide)]
    exact (h.2.1 w hw).up e.p0
  · rw [e 41 _ (by decide) (by decide)] at hx ⊢
    rw [e 47 _ (by decide) (by decide)]
    exact h.2.2 x hx
theorem CD.be {V W : Vf} {b : Nat} (h : CD V b) (e : BE V W) : CD W b := by
  have e42 := e 42 b (by decide) (by decide)
  have e48 : ∀ k, W 48 k = V 48 k := fun k => e 48 k (by decide) (by decide)
  have eo : ∀ x y, okO V b x y → okO W b x y := fun x y z => by
    unfold okO at z ⊢
    rw [e42]
    first | exact z | (simp only [e.bd]; exact z)
  refine ⟨⟨?_, ?_⟩, ?_⟩
  · rw [e42, e.bd]
    exact h.1.1
  · intro p hp hb
    rw [e42] at hp
    rw [e.bd] at hb
    rw [e48, e48]
    exact eo _ _ (h.1.2 p hp hb)
  · intro p hp hb
    rw [e42] at hp
    rw [e.bd] at hb
    rw [e48]
    exact h.2 p hp hb
def sm (g : Nat → Nat) : Nat → Nat
  | 0 => 0
  | n + 1 => sm g n + g n
theorem sm_ext {g f : Nat → Nat} : ∀ n, (∀ k, k < n → f k = g k) → sm f n = sm g n
  | 0, _ => rfl
  | n + 1, h => by
    show sm f n + f n = sm g n + g n
    rw [sm_ext n (fun k hk => h k (by omega)), h n (by omega)]
/-- a late need that waits; the answer is an object whose component is not made anew -/
def W7 (V : Vf) (i : Nat) : Prop := (V 67 i).toInt = 4 ∧ (V 68 i).toInt = 7
def NN (V : Vf) (b : Nat) : Prop := ∃ o : Nat, (V 5 10).toInt = (o : Int) ∧ (o : Int) < (V 3 13).toInt ∧ (V 51 (24 * b + Int32.toNatClampNeg (V 26 o))).toInt ≠ 3
def QN (V : Vf) (b : Nat) : Prop := (V 5 9).toInt = 1 ∧ ¬ NN V b
def PT (V : Vf) : Prop := ∀ k : Nat, k < 960 → (V 25 k).toInt < (V 3 13).toInt ∧ ∀ o : Nat, (V 25 k).toInt = (o : Int) → (V 26 o).toInt = ((k % 24 : Nat) : Int)
theorem QN.eq {V W : Vf} {b : Nat} (e9 : W 5 9 = V 5 9) (e10 : W 5 10 = V 5 10) (e13 : W 3 13 = V 3 13) (e26 : ∀ k, W 26 k = V 26 k) (eB : BE V W) (h : QN W b) : QN V b := by
  refine ⟨by rw [← e9]; exact h.1, fun n => h.2 ?_⟩
  obtain ⟨o, a1, a2, a3⟩ := n
  exact ⟨o, by rw [e10]; exact a1, by rw [e13]; exact a2, by rw [e26, eB 51 _ (by decide) (by decide)]; exact a3⟩
/-- a frame's row; x: how many links it may still make -/
def FK (V : Vf) (b : Nat) (x : Nat) (i : Nat) (w v : Prop) : Prop :=
  ((V 67 i).toInt ≠ 0 → 0 ≤ (V 71 i).toInt ∧ (V 71 i).toInt < (V 43 (5 * b + 2)).toInt) ∧
  ((V 67 i).toInt ≠ 0 → ¬ ((V 67 i).toInt = 2 ∧ (V 68 i).toInt = 0) → 0 ≤ (V 70 i).toInt ∧ (V 70 i).toInt < (V 3 13).toInt) ∧
  ((V 67 i).toInt = 4 → (V 42 b).toInt ≤ (V 84 i).toInt ∨ (bdp V b (V 84 i).toInt.toNat).1 = true) ∧
  ((V 67 i).toInt = 4 → ((V 68 i).toInt = 6 ∨ (V 68 i).toInt = 7) → (V 75 i).toInt ≤ 7) ∧
  ((V 67 i).toInt = 1 → 0 ≤ (V 76 i).toInt ∧ (V 76 i).toInt ≤ 25 ∧ (V 75 i).toInt ≤ 8) ∧
  ((V 67 i).toInt = 1 → 1 ≤ (x : Int) ∧ ((V 68 i).toInt ≠ 1 → 25 * (8 - (V 75 i).toInt) - (V 76 i).toInt + 1 ≤ (x : Int) ∧ (w → (V 75 i).toInt ≤ 7 ∧ 25 * (8 - (V 75 i).toInt) - (V 76 i).toInt + 2 ≤ (x : Int)))) ∧
  ((V 67 i).toInt = 0 → (V 80 i).toInt ≤ (V 5 8).toInt) ∧
  ((V 67 i).toInt = 2 → (V 68 i).toInt = 0 ∨ (V 68 i).toInt = 1 ∨ (V 75 i).toInt ≤ (V 41 b).toInt) ∧
  ((V 67 i).toInt = 3 → (V 68 i).toInt = 0 ∨ (V 68 i).toInt = 1 ∨ (V 68 i).toInt = 4 ∨ (V 75 i).toInt ≤ (V 41 b).toInt) ∧
  ((V 67 i).toInt = 4 → (V 68 i).toInt = 7 → v → 1 ≤ x)
/-- of which rows a late need that waits has a credit -/
def vI (V : Vf) (n : Nat) (v u : Prop) (i : Nat) : Prop := (i + 1 < n ∧ (i + 2 = n → (V 67 (n - 1)).toInt ≠ 0 ∨ u)) ∨ (i + 1 = n ∧ v)
def LN (n : Nat) : Prop := n = 512 ∨ n = 1024 ∨ n = 2048 ∨ n = 4096 ∨ n = 8192 ∨ n = 16384 ∨ n = 32768 ∨ n = 65536 ∨ n = 131072 ∨ n = 262144
def MI (V : Vf) (Z : XZ) (b : Nat) (g : Nat → Nat) (n r : Nat) (w v u : Prop) : Prop :=
  (SL V Z) ∧
  (Z.nf ≤ 400) ∧
  (n ≤ Z.nf) ∧
  (0 < (V 43 (5 * b + 2)).toInt) ∧
  (∀ o : Nat, (o : Int) < (V 3 13).toInt → (V 26 o).toInt < (V 43 (5 * b + 2)).toInt) ∧
  (∀ i : Nat, (i : Int) < (V 5 8).toInt → (V 40 i).toInt < (V 3 13).toInt) ∧
  (∀ i j : Nat, i < j → j < n → (V 67 i).toInt = 0 → (V 67 j).toInt = 0 → (V 80 i).toInt ≤ (V 80 j).toInt) ∧
  (∀ i, i < n → FK V b (g i) i (i + 1 < n ∨ w) (vI V n v u i)) ∧
  ((0 ≤ (V 3 13).toInt ∧ (V 3 13).toInt ≤ 300) ∧ 0 ≤ (V 3 15).toInt ∧ 0 ≤ (V 5 8).toInt) ∧
  ((V 3 15).toInt + (V 5 8).toInt + (sm g n + r : Nat) + 203 * (300 - (V 3 13).toInt) ≤ (V 44 0).toInt ∧ (V 44 0).toInt ≤ 250000) ∧
  (TX V b) ∧
  (CD V b) ∧
  ((V 5 5).toInt = (b : Int)) ∧
  (LN Z.ln) ∧
  (PT V)
theorem MI.sl {V : Vf} {Z : XZ} {b : Nat} {g : Nat → Nat} {n r : Nat} {w v u : Prop} (h : MI V Z b g n r w v u) : SL V Z := h.1
theorem MI.nf {V : Vf} {Z : XZ} {b : Nat} {g : Nat → Nat} {n r : Nat} {w v u : Prop} (h : MI V Z b g n r w v u) : Z.nf ≤ 400 := h.2.1
theorem MI.dn {V : Vf} {Z : XZ} {b : Nat} {g : Nat → Nat} {n r : Nat} {w v u : Prop} (h : MI V Z b g n r w v u) : n ≤ Z.nf := h.2.2.1
theorem MI.sz {V : Vf} {Z : XZ} {b : Nat} {g : Nat → Nat} {n r : Nat} {w v u : Prop} (h : MI V Z b g n r w v u) : 0 < (V 43 (5 * b + 2)).toInt := h.2.2.2.1
theorem MI.oc {V : Vf} {Z : XZ} {b : Nat} {g : Nat → Nat} {n r : Nat} {w v u : Prop} (h : MI V Z b g n r w v u) : ∀ o : Nat, (o : Int) < (V 3 13).toInt → (V 26 o).toInt < (V 43 (5 * b + 2)).toInt := h.2.2.2.2.1
theorem MI.md {V : Vf} {Z : XZ} {b : Nat} {g : Nat → Nat} {n r : Nat} {w v u : Prop} (h : MI V Z b g n r w v u) : ∀ i : Nat, (i : Int) < (V 5 8).toInt → (V 40 i).toInt < (V 3 13).toInt := h.2.2.2.2.2.1
theorem MI.mk2 {V : Vf} {Z : XZ} {b : Nat} {g : Nat → Nat} {n r : Nat} {w v u : Prop} (h : MI V Z b g n r w v u) : ∀ i j : Nat, i < j → j < n → (V 67 i).toInt = 0 → (V 67 j).toInt = 0 → (V 80 i).toInt ≤ (V 80 j).toInt := h.2.2.2.2.2.2.1
theorem MI.fk {V : Vf} {Z : XZ} {b : Nat} {g : Nat → Nat} {n r : Nat} {w v u : Prop} (h : MI V Z b g n r w v u) : ∀ i, i < n → FK V b (g i) i (i + 1 < n ∨ w) (vI V n v u i) := h.2.2.2.2.2.2.2.1
theorem MI.o0 {V : Vf} {Z : XZ} {b : Nat} {g : Nat → Nat} {n r : Nat} {w v u : Prop} (h : MI V Z b g n r w v u) : (0 ≤ (V 3 13).toInt ∧ (V 3 13).toInt ≤ 300) ∧ 0 ≤ (V 3 15).toInt ∧ 0 ≤ (V 5 8).toInt := h.2.2.2.2.2.2.2.2.1
theorem MI.pot {V : Vf} {Z : XZ} {b : Nat} {g : Nat → Nat} {n r : Nat} {w v u : Prop} (h : MI V Z b g n r w v u) : (V 3 15).toInt + (V 5 8).toInt + (sm g n + r : Nat) + 203 * (300 - (V 3 13).toInt) ≤ (V 44 0).toInt ∧ (V 44 0).toInt ≤ 250000 := h.2.2.2.2.2.2.2.2.2.1
theorem MI.tx {V : Vf} {Z : XZ} {b : Nat} {g : Nat → Nat} {n r : Nat} {w v u : Prop} (h : MI V Z b g n r w v u) : TX V b := h.2.2.2.2.2.2.2.2.2.2.1
theorem MI.cd {V : Vf} {Z : XZ} {b : Nat} {g : Nat → Nat} {n r : Nat} {w v u : Prop} (h : MI V Z b g n r w v u) : CD V b := h.2.2.2.2.2.2.2.2.2.2.2.1
theorem MI.mb {V : Vf} {Z : XZ} {b : Nat} {g : Nat → Nat} {n r : Nat} {w v u : Prop} (h : MI V Z b g n r w v u) : (V 5 5).toInt = (b : Int) := h.2.2.2.2.2.2.2.2.2.2.2.2.1
theorem MI.ln {V : Vf} {Z : XZ} {b : Nat} {g : Nat → Nat} {n r : Nat} {w v u : Prop} (h : MI V Z b g n r w v u) : LN Z.ln := h.2.2.2.2.2.2.2.2.2.2.2.2.2.1
theorem MI.pt {V : Vf} {Z : XZ} {b : Nat} {g : Nat → Nat} {n r : Nat} {w v u : Prop} (h : MI V Z b g n r w v u) : PT V := h.2.2.2.2.2.2.2.2.2.2.2.2.2.2
/-- what does not matter to it has changed -/
def ME (V W : Vf) (n : Nat) : Prop := BE V W ∧ (∀ c k : Nat, 67 ≤ c → c ≤ 85 → k < n → W c k = V c k) ∧ (W 3 13 = V 3 13 ∧ W 3 15 = V 3 15 ∧ W 5 5 = V 5 5 ∧ W 5 8 = V 5 8) ∧ (∀ k, W 26 k = V 26 k) ∧ (∀ k, W 30 k = V 30 k) ∧ (∀ k, W 32 k = V 32 k) ∧ (∀ k, W 40 k = V 40 k) ∧ (∀ k, W 25 k = V 25 k ∨ (W 25 k).toInt = -1)
theorem ME.rf {V : Vf} {n : Nat} : ME V V n := ⟨fun _ _ _ _ => rfl, fun _ _ _ _ _ => rfl, ⟨rfl, rfl, rfl, rfl⟩, fun _ => rfl, fun _ => rfl, fun _ => rfl, fun _ => rfl, fun _ => Or.inl rfl⟩
theorem ME.tr {V W X : Vf} {n : Nat} (h : ME V W n) (k : ME W X n) : ME V X n :=
  ⟨fun c i a q => (k.1 c i a q).trans (h.1 c i a q), fun c i a q z => (k.2.1 c i a q z).trans (h.2.1 c i a q z), ⟨k.2.2.1.1.trans h.2.2.1.1, k.2.2.1.2.1.trans h.2.2.1.2.1, k.2.2.1.2.2.1.trans h.2.2.1.2.2.1, k.2.2.1.2.2.2.trans h.2.2.1.2.2.2⟩, fun i => (k.2.2.2.1 i).trans (h.2.2.2.1 i), fun i => (k.2.2.2.2.1 i).trans (h.2.2.2.2.1 i), fun i => (k.2.2.2.2.2.1 i).trans (h.2.2.2.2.2.1 i), fun i => (k.2.2.2.2.2.2.1 i).trans (h.2.2.2.2.2.2.1 i), fun i => by
    rcases k.2.2.2.2.2.2.2 i with a | a
    · rcases h.2.2.2.2.2.2.2 i with c | c
      · exact Or.inl (a.trans c)
      · exact Or.inr (by rw [a]; exact c)
    · exact Or.inr a⟩
theorem ME.up {V V1 W : Vf} {c k n : Nat} {x : Int32} (h : ME V V1 n) (e : W = up2 V1 c k x) (q : (67 ≤ c ∧ c ≤ 85 ∧ n ≤ k) ∨ (c ≤ 40 ∧ (c = 25 → x.toInt = -1) ∧ c ≠ 26 ∧ c ≠ 30 ∧ c ≠ 32 ∧ c ≠ 40 ∧ ¬ (c = 3 ∧ k = 13) ∧ ¬ (c = 3 ∧ k = 15) ∧ ¬ (c = 5 ∧ k = 5) ∧ ¬ (c = 5 ∧ k = 8))) : ME V W n := by
  have o : ∀ c' k', ¬ (c' = c ∧ k' = k) → W c' k' = V1 c' k' := fun c' k' hn => by rw [e]; exact up2_pl hn
  refine h.tr ⟨fun c' k' a1 a2 => o c' k' (by omega), fun c' k' a1 a2 a3 => o c' k' (by omega), ⟨o _ _ (by omega), o _ _ (by omega), o _ _ (by omega), o _ _ (by omega)⟩, fun k' => o _ _ (by omega), fun k' => o _ _ (by omega), fun k' => o _ _ (by omega), fun k' => o _ _ (by omega), fun k' => ?_⟩
  by_cases z : 25 = c ∧ k' = k
  · right
    rw [e, z.1, z.2, up2_ss]
    omega
  · exact Or.inl (o _ _ z)
def mrl (fs : List (Nat × Nat)) (cs : List Nat) : Bool := fs.all (fun y => decide (y.1 ≤ 6) && !([(3, 13), (3, 15), (5, 5), (5, 8)].contains y)) && cs.all (fun c => decide (7 ≤ c) && decide (c ≤ 40) && !([25, 26, 30, 32, 40].contains c))
theorem mrl_no {fs : List (Nat × Nat)} {cs : List Nat} (q : mrl fs cs = true) {c k : Nat} (h : (41 ≤ c) ∨ (c = 25 ∨ c = 26 ∨ c = 30 ∨ c = 32 ∨ c = 40) ∨ (c, k) = (3, 13) ∨ (c, k) = (3, 15) ∨ (c, k) = (5, 5) ∨ (c, k) = (5, 8)) : wrL fs cs c k = false := by
  unfold mrl at q
  rw [Bool.and_eq_true, List.all_eq_true, List.all_eq_true] at q
  unfold wrL
  rw [Bool.or_eq_false_iff]
  refine ⟨?_, ?_⟩
  · rw [← Bool.not_eq_true]
    intro z
    have y := q.1 _ (List.contains_iff_mem.mp z)
    rw [Bool.and_eq_true] at y
    have y1 : c ≤ 6 := of_decide_eq_true y.1
    have y2 := y.2
    rcases h with h | h | h | h | h | h
    · omega
    · omega
    all_goals (rw [h] at y2; exact absurd y2 (by decide))
  · rw [← Bool.not_eq_true]
    intro z
    have y := q.2 _ (List.contains_iff_mem.mp z)
    rw [Bool.and_eq_true, Bool.and_eq_true] at y
    have y1 : c ≤ 40 := of_decide_eq_true y.1.2
    have y0 : 7 ≤ c := of_decide_eq_true y.1.1
    have y2 := y.2
    rcases h with h | h | h | h | h | h
    · omega
    · rcases h with h | h | h | h | h <;> (rw [h] at y2; exact absurd y2 (by decide))
    all_goals (have := congrArg Prod.fst h; simp only at this; omega)
theorem ME.ag {fs : List (Nat × Nat)} {cs : List Nat} {V W : Vf} {n : Nat} (a : agr fs cs V W) (q : mrl fs cs = true) : ME V W n :=
  ⟨fun c k h1 _ => a c k (mrl_no q (Or.inl h1)), fun c k h1 _ _ => a c k (mrl_no q (Or.inl (by omega))), ⟨a _ _ (mrl_no q (by simp)), a _ _ (mrl_no q (by simp)), a _ _ (mrl_no q (by simp)), a _ _ (mrl_no q (by simp))⟩, fun k => a _ _ (mrl_no q (by simp)), fun k => a _ _ (mrl_no q (by simp)), fun k => a _ _ (mrl_no q (by simp)), fun k => a _ _ (mrl_no q (by simp)), fun k => Or.inl (a _ _ (mrl_no q (by simp)))⟩
theorem ME.lo {V W : Vf} {n m : Nat} (h : ME V W n) (q : m ≤ n) : ME V W m := ⟨h.1, fun c k a1 a2 a3 => h.2.1 c k a1 a2 (by omega), h.2.2⟩
theorem FK.cg {V W : Vf} {b x i : Nat} {w v : Prop} (h : FK V b x i w v) (hB : BE V W) (e : ∀ c, 67 ≤ c → c ≤ 85 → W c i = V c i) (e13 : W 3 13 = V 3 13) (e8 : W 5 8 = V 5 8) : FK W b x i w v := by
  unfold FK
  rw [e 67 (by decide) (by decide), e 68 (by decide) (by decide), e 70 (by decide) (by decide), e 71 (by decide) (by decide), e 75 (by decide) (by decide), e 76 (by decide) (by decide), e 80 (by decide) (by decide), e 84 (by decide) (by decide), hB 43 _ (by decide) (by decide), hB 42 _ (by decide) (by decide), hB 41 _ (by decide) (by decide), e13, e8, hB.bd]
  exact h
theorem FK.me {V W : Vf} {b x i n : Nat} {w v : Prop} (h : FK V b x i w v) (m : ME V W n) (hi : i < n) : FK W b x i w v := h.cg m.1 (fun c a1 a2 => m.2.1 c i a1 a2 hi) m.2.2.1.1 m.2.2.1.2.2.2
theorem FK.w {V : Vf} {b x y i : Nat} {w v w' v' : Prop} (h : FK V b x i w v) (q1 : w' → w) (q2 : v' → v) (q : x ≤ y) : FK V b y i w' v' :=
  ⟨h.1, h.2.1, h.2.2.1, h.2.2.2.1, h.2.2.2.2.1, fun a1 => ⟨by have := (h.2.2.2.2.2.1 a1).1; omega, fun a2 => ⟨by have := ((h.2.2.2.2.2.1 a1).2 a2).1; omega, fun z => ⟨(((h.2.2.2.2.2.1 a1).2 a2).2 (q1 z)).1, by have := (((h.2.2.2.2.2.1 a1).2 a2).2 (q1 z)).2; omega⟩⟩⟩, h.2.2.2.2.2.2.1, h.2.2.2.2.2.2.2.1, h.2.2.2.2.2.2.2.2.1, fun a1 a2 z => Nat.le_trans (h.2.2.2.2.2.2.2.2.2 a1 a2 (q2 z)) q⟩
theorem MI.me {V W : Vf} {Z : XZ} {b n r : Nat} {g : Nat → Nat} {w v u : Prop} (h : MI V Z b g n r w v u) (m : ME V W n) : MI W Z b g n r w v u := by
  obtain ⟨mB, mR, ⟨m13, m15, m5, m8⟩, m26, m30, m32, m40, m25⟩ := id m
  have e43 := mB 43 (5 * b + 2) (by decide) (by decide)
  refine ⟨?_, h.nf, h.dn, by rw [e43]; exact h.sz, ?_, ?_, ?_, fun i hi => ?_, by rw [m13, m15, m8]; exact h.o0, ?_, h.tx.be mB, h.cd.be mB, by rw [m5]; exact h.mb, h.ln, ?_⟩
  · unfold SL
    rw [m15, m13]
    exact ⟨h.sl.1, h.sl.2.1, fun o k a1 a2 => by rw [m30]; exact h.sl.2.2.1 o k a1 a2, fun i a1 => by rw [m32]; exact h.sl.2.2.2 i a1⟩
  · intro o ho
    rw [m13] at ho
    rw [m26, e43]
    exact h.oc o ho
  · intro i hi
    rw [m8] at hi
    rw [m40, m13]
    exact h.md i hi
  · intro i j hij hj
    rw [mR 67 i (by decide) (by decide) (by omega), mR 67 j (by decide) (by decide) hj, mR 80 i (by decide) (by decide) (by omega), mR 80 j (by decide) (by decide) hj]
    exact h.mk2 i j hij hj
  · have e : vI W n v u i = vI V n v u i := by unfold vI; rw [mR 67 (n - 1) (by decide) (by decide) (by omega)]
    rw [e]
    exact (h.fk i hi).me m hi
  · rw [m15, m13, m8, mB 44 0 (by decide) (by decide)]
    exact h.pot
  · intro k hk
    rw [m13]
    rcases m25 k with a | a
    · rw [a]
      refine ⟨(h.pt k hk).1, fun o h1 => ?_⟩
      rw [m26]
      exact (h.pt k hk).2 o h1
    · refine ⟨by have := h.o0; omega, fun o h1 => ?_⟩
      omega
theorem MI.z {V : Vf} {Z Z' : XZ} {b n r : Nat} {g : Nat → Nat} {w v u : Prop} (h : MI V Z b g n r w v u) (e : Z'.ln = Z.ln) (h1 : n ≤ Z'.nf) (h2 : Z'.nf ≤ 400) : MI V Z' b g n r w v u :=
  ⟨by unfold SL; rw [e]; exact h.sl, h2, h1, h.sz, h.oc, h.md, h.mk2, h.fk, h.o0, h.pot, h.tx, h.cd, h.mb, by rw [e]; exact h.ln, h.pt⟩
theorem MI.w {V : Vf} {Z : XZ} {b n r r' : Nat} {g : Nat → Nat} {w v u w' v' u' : Prop} (h : MI V Z b g n r w v u) (q1 : w' → w) (q2 : v' → v) (q3 : u' → u) (q : r' ≤ r) : MI V Z b g n r' w' v' u' :=
  ⟨h.sl, h.nf, h.dn, h.sz, h.oc, h.md, h.mk2, fun i hi => (h.fk i hi).w (fun z => z.elim Or.inl (fun a => Or.inr (q1 a))) (fun z => z.elim (fun a => Or.inl ⟨a.1, fun e => (a.2 e).elim Or.inl (fun c => Or.inr (q3 c))⟩) (fun a => Or.inr ⟨a.1, q2 a.2⟩)) (Nat.le_refl _), h.o0, by have := h.pot; omega, h.tx, h.cd, h.mb, h.ln, h.pt⟩
theorem MI.pop {V : Vf} {Z : XZ} {b n r : Nat} {g : Nat → Nat} {w v u : Prop} (h : MI V Z b g (n + 1) r w v u) : MI V Z b g n (r + g n) True ((V 67 n).toInt ≠ 0 ∨ u) True :=
  ⟨h.sl, h.nf, by have := h.dn; omega, h.sz, h.oc, h.md, fun i j a1 a2 => h.mk2 i j a1 (by omega), fun i hi => (h.fk i (by omega)).w (fun _ => Or.inl (by omega)) (fun z => Or.inl ⟨by omega, fun e => by
    rcases z with z | z
    · omega
    · exact z.2⟩) (Nat.le_refl _), h.o0, by
    have p := h.pot
    have e : sm g (n + 1) = sm g n + g n := rfl
    omega, h.tx, h.cd, h.mb, h.ln, h.pt⟩
theorem MI.row {V : Vf} {Z : XZ} {b n r x : Nat} {g : Nat → Nat} {w v u : Prop} (h : MI V Z b g n r True ((V 67 n).toInt ≠ 0 ∨ u) True) (hx : x ≤ r) (hn : n + 1 ≤ Z.nf) (f : FK V b x n w v) (hm : (V 67 n).toInt = 0 → ∀ i, i < n → (V 67 i).toInt = 0 → (V 80 i).toInt ≤ (V 80 n).toInt) : MI V Z b (fun i => if i = n then x else g i) (n + 1) (r - x) w v u := by
  refine ⟨h.sl, h.nf, hn, h.sz, h.oc, h.md, ?_, ?_, h.o0, ?_, h.tx, h.cd, h.mb, h.ln, h.pt⟩
  · intro i j a1 a2 k1 k2
    by_cases e : j = n
    · subst e
      exact hm k2 i a1 k1
    · exact h.mk2 i j a1 (by omega) k1 k2
  · intro i hi
    show FK V b (if i = n then x else g i) i (i + 1 < n + 1 ∨ w) (vI V (n + 1) v u i)
    by_cases e : i = n
    · rw [if_pos e, e]
      refine f.w (fun z => z.elim (fun q => absurd q (by omega)) id) (fun z => ?_) (Nat.le_refl _)
      rcases z with z | z
      · exact absurd z.1 (by omega)
      · exact z.2
    · rw [if_neg e]
      refine (h.fk i (by omega)).w (fun _ => Or.inr trivial) (fun z => ?_) (Nat.le_refl _)
      rcases z with z | z
      · by_cases e2 : i + 1 = n
        · exact Or.inr ⟨e2, z.2 (by omega)⟩
        · exact Or.inl ⟨by omega, fun _ => Or.inr trivial⟩
      · omega
  · have p := h.pot
    have e : sm (fun i => if i = n then x else g i) (n + 1) = sm g n + x := by
      show sm (fun i => if i = n then x else g i) n + (if n = n then x else g n) = sm g n + x
      rw [if_pos rfl, sm_ext n (fun k hk => if_neg (by omega))]
    rw [e]
    omega
theorem sm_bump {g : Nat → Nat} (m : Nat) : ∀ n, sm (fun i => if i + 2 = m then g i + 1 else g i) n ≤ sm g n + (if m < n + 2 then 1 else 0)
  | 0 => Nat.zero_le _
  | n + 1 => by
    have ih := sm_bump (g := g) m n
    show sm (fun i => if i + 2 = m then g i + 1 else g i) n + (if n + 2 = m then g n + 1 else g n) ≤ sm g n + g n + _
    by_cases h : n + 2 = m
    · rw [if_pos h, if_pos (by omega)]
      rw [if_neg (by omega)] at ih
      omega
    · rw [if_neg h]
      by_cases h2 : m < n + 2
      · rw [if_pos h2] at ih
        rw [if_pos (by omega)]
        omega
      · rw [if_neg h2] at ih
        rw [if_neg (by omega)]
        omega
/-- the one below the top gets a credit -/
theorem MI.bump {V : Vf} {Z : XZ} {b n r : Nat} {g : Nat → Nat} {w v u : Prop} (h : MI V Z b g n r w v u) (hr : 1 ≤ r) : MI V Z b (fun i => if i + 2 = n then g i + 1 else g i) n (r - 1) w v True := by
  refine ⟨h.sl, h.nf, h.dn, h.sz, h.oc, h.md, h.mk2, ?_, h.o0, ?_, h.tx, h.cd, h.mb, h.ln, h.pt⟩
  · intro i hi
    show FK V b (if i + 2 = n then g i + 1 else g i) i (i + 1 < n ∨ w) (vI V n v True i)
    have f := h.fk i hi
    by_cases e : i + 2 = n
    · rw [if_pos e]
      have f2 := f.w (y := g i + 1) (w' := i + 1 < n ∨ w) (v' := False) id False.elim (Nat.le_succ _)
      exact ⟨f2.1, f2.2.1, f2.2.2.1, f2.2.2.2.1, f2.2.2.2.2.1, f2.2.2.2.2.2.1, f2.2.2.2.2.2.2.1, f2.2.2.2.2.2.2.2.1, f2.2.2.2.2.2.2.2.2.1, fun _ _ _ => Nat.succ_le_succ (Nat.zero_le _)⟩
    · rw [if_neg e]
      exact f.w id (fun z => z.elim (fun a => Or.inl ⟨a.1, fun q => absurd q e⟩) Or.inr) (Nat.le_refl _)
  · have p := h.pot
    have s := sm_bump (g := g) n n
    have : (if n < n + 2 then 1 else 0) = 1 := if_pos (by omega)
    omega
def MJ (V : Vf) (Z : XZ) (b : Nat) : Prop := ∃ g r, MI V Z b g (V 5 6).toInt.toNat r True (QN V b) (QN V b)
def MT (V : Vf) (Z : XZ) (b : Nat) : Prop := ∃ g r, MI V Z b g (V 5 6).toInt.toNat r True True True
def MTr (V : Vf) (Z : XZ) (b : Nat) : Prop := ∃ g r, MI V Z b g (V 5 6).toInt.toNat r True False True
def MTw (V : Vf) (Z : XZ) (b : Nat) : Prop := ∃ g r, MI V Z b g (V 5 6).toInt.toNat r True True False
/-- the top frame, and what lies under it -/
def MO (V : Vf) (Z : XZ) (b d : Nat) (w v u : Prop) : Prop := ∃ g r x, MI V Z b g d r True ((V 67 d).toInt ≠ 0 ∨ u) True ∧ x ≤ r ∧ FK V b x d w v ∧ ((V 67 d).toInt = 0 → ∀ i, i < d → (V 67 i).toInt = 0 → (V 80 i).toInt ≤ (V 80 d).toInt)
theorem MI.op {V : Vf} {Z : XZ} {b d r : Nat} {g : Nat → Nat} {w v u : Prop} (h : MI V Z b g (d + 1) r w v u) : MO V Z b d w v u :=
  ⟨g, r + g d, g d, h.pop, by omega, (h.fk d (by omega)).w Or.inr (fun z => Or.inr ⟨rfl, z⟩) (Nat.le_refl _), fun k i a1 a2 => h.mk2 i d a1 (by omega) a2 k⟩
theorem MJ.op {V : Vf} {Z : XZ} {b d : Nat} (h : MJ V Z b) (e : (V 5 6).toInt = (d : Int) + 1) : MO V Z b d True (QN V b) (QN V b) := by
  obtain ⟨g, r, h⟩ := h
  rw [show (V 5 6).toInt.toNat = d + 1 from by omega] at h
  exact h.op
theorem MO.w {V : Vf} {Z : XZ} {b d : Nat} {w v u w' v' u' : Prop} (h : MO V Z b d w v u) (q1 : w' → w) (q2 : v' → v) (q3 : u' → (V 67 d).toInt ≠ 0 ∨ u) : MO V Z b d w' v' u' := by
  obtain ⟨g, r, x, h1, h2, h3, h4⟩ := h
  exact ⟨g, r, x, h1.w id (fun z => z.elim Or.inl q3) id (Nat.le_refl _), h2, h3.w q1 q2 (Nat.le_refl _), h4⟩
/-- the top frame's row has changed -/
theorem MO.ch {V W : Vf} {Z : XZ} {b d : Nat} {w v u w' v' u' : Prop} (h : MO V Z b d w v u) (m : ME V W d) (e67 : W 67 d = V 67 d) (e80 : W 80 d = V 80 d) (q3 : u' → (V 67 d).toInt ≠ 0 ∨ u) (f : ∀ x, FK V b x d w v → FK W b x d w' v') : MO W Z b d w' v' u' := by
  obtain ⟨g, r, x, h1, h2, h3, h4⟩ := h
  refine ⟨g, r, x, ?_, h2, f x h3, fun k i a1 a2 => ?_⟩
  · rw [e67]
    exact (h1.me m).w id (fun z => z.elim Or.inl q3) id (Nat.le_refl _)
  · rw [e80, m.2.1 80 i (by decide) (by decide) a1]
    rw [e67] at k
    rw [m.2.1 67 i (by decide) (by decide) a1] at a2
    exact h4 k i a1 a2
theorem MO.cl {V : Vf} {Z : XZ} {b d : Nat} {w v u : Prop} (h : MO V Z b d w v u) (hn : d + 1 ≤ Z.nf) : ∃ g r, MI V Z b g (d + 1) r w v u := by
  obtain ⟨g, r, x, h1, h2, h3, h4⟩ := h
  exact ⟨_, _, h1.row h2 hn h3 h4⟩
theorem MO.cl2 {V : Vf} {Z : XZ} {b d : Nat} {w v u : Prop} (h : MO V Z b d w v u) (hn : d + 1 ≤ Z.nf) (e : (V 5 6).toInt = (d : Int) + 1) : ∃ g r, MI V Z b g (V 5 6).toInt.toNat r w v u := by
  rw [show (V 5 6).toInt.toNat = d + 1 from by omega]
  exact h.cl hn
theorem MO.mj {V : Vf} {Z : XZ} {b d : Nat} {w v u : Prop} (h : MO V Z b d w v u) (hn : d + 1 ≤ Z.nf) (e : (V 5 6).toInt = (d : Int) + 1) (q1 : True → w) (q2 : QN V b → v) (q3 : QN V b → (V 67 d).toInt ≠ 0 ∨ u) : MJ V Z b := (h.w q1 q2 q3).cl2 hn e
theorem MO.mt {V : Vf} {Z : XZ} {b d : Nat} (h : MO V Z b d True True True) (hn : d + 1 ≤ Z.nf) (e : (V 5 6).toInt = (d : Int) + 1) : MT V Z b := h.cl2 hn e
theorem MO.mtr {V : Vf} {Z : XZ} {b d : Nat} (h : MO V Z b d True False True) (hn : d + 1 ≤ Z.nf) (e : (V 5 6).toInt = (d : Int) + 1) : MTr V Z b := h.cl2 hn e
theorem MO.mtw {V : Vf} {Z : XZ} {b d : Nat} (h : MO V Z b d True True False) (hn : d + 1 ≤ Z.nf) (e : (V 5 6).toInt = (d : Int) + 1) : MTw V Z b := h.cl2 hn e
/-- what lies under the top -/
def MP (V : Vf) (Z : XZ) (b d : Nat) (v : Prop) : Prop := ∃ g r, MI V Z b g d r True v True
theorem MO.mp {V : Vf} {Z : XZ} {b d : Nat} {w v u : Prop} (h : MO V Z b d w v u) : MP V Z b d ((V 67 d).toInt ≠ 0 ∨ u) := by
  obtain ⟨g, r, x, h1, _⟩ := h
  exact ⟨g, r, h1⟩
/-- the top frame is left -/
theorem MP.lv {V W : Vf} {Z : XZ} {b d : Nat} {v : Prop} (h : MP V Z b d v) (m : ME V W d) (e : (W 5 6).toInt = (d : Int)) (q : QN W b → v) : MJ W Z b := by
  obtain ⟨g, r, h1⟩ := h
  exact ⟨g, r, by rw [show (W 5 6).toInt.toNat = d from by omega]; exact (h1.me m).w (fun _ => trivial) q (fun _ => trivial) (Nat.le_refl _)⟩
/-- a frame is put on it -/
theorem MI.pu {V W : Vf} {Z Z' : XZ} {b f r x : Nat} {g : Nat → Nat} {w v v0 : Prop} (h : MI V Z b g (V 5 6).toInt.toNat r True v0 True) (hxr : x ≤ r) (hf : (f : Int) ≤ (V 5 6).toInt ∧ (V 5 6).toInt ≤ (f : Int) + 1) (m : ME V W f) (ez : Z'.ln = Z.ln) (h1 : f + 1 ≤ Z'.nf) (h2 : Z'.nf ≤ 400) (hx : FK W b x f w v) (hm : (W 67 f).toInt = 0 → W 80 f = W 5 8) (e : (W 5 6).toInt = (f : Int) + 1) (q1 : w) (q2 : QN W b → v) (q3 : (W 67 f).toInt ≠ 0 ∨ QN W b → v0) : MJ W Z' b := by
  have h' : ∃ r, x ≤ r ∧ MI V Z b g f r True ((W 67 f).toInt ≠ 0 ∨ QN W b) True := by
    by_cases e : (V 5 6).toInt.toNat = f
    · rw [e] at h; exact ⟨r, hxr, h.w id q3 id (Nat.le_refl _)⟩
    · rw [show (V 5 6).toInt.toNat = f + 1 from by omega] at h; exact ⟨_, by omega, h.pop.w id (fun _ => Or.inr trivial) id (Nat.le_refl _)⟩
  obtain ⟨r, hxr, h'⟩ := h'
  have h3 := (h'.me m).z ez (by omega) h2
  refine MO.mj ⟨g, r, x, h3, hxr, hx, fun k i a1 a2 => ?_⟩ h1 e (fun _ => q1) q2 Or.inr
  rw [hm k]
  exact (h3.fk i a1).2.2.2.2.2.2.1 a2
theorem MT.pu {V W : Vf} {Z Z' : XZ} {b f : Nat} {v : Prop} (h : MT V Z b) (hf : (f : Int) ≤ (V 5 6).toInt ∧ (V 5 6).toInt ≤ (f : Int) + 1) (m : ME V W f) (ez : Z'.ln = Z.ln) (h1 : f + 1 ≤ Z'.nf) (h2 : Z'.nf ≤ 400) (hx : FK W b 0 f True v) (hm : (W 67 f).toInt = 0 → W 80 f = W 5 8) (e : (W 5 6).toInt = (f : Int) + 1) (q : ¬ (W 5 9).toInt = 1) : MJ W Z' b := by
  obtain ⟨g, r, h⟩ := h
  exact h.pu (Nat.zero_le _) hf m ez h1 h2 hx hm e trivial (fun z => absurd z.1 q) (fun _ => trivial)
/-- a ROOT is put on it -/
theorem MTr.pu {V W : Vf} {Z Z' : XZ} {b f : Nat} {v : Prop} (h : MTr V Z b) (hf : (f : Int) ≤ (V 5 6).toInt ∧ (V 5 6).toInt ≤ (f : Int) + 1) (m : ME V W f) (ez : Z'.ln = Z.ln) (h1 : f + 1 ≤ Z'.nf) (h2 : Z'.nf ≤ 400) (hx : FK W b 0 f True v) (hm : (W 67 f).toInt = 0 → W 80 f = W 5 8) (e : (W 5 6).toInt = (f : Int) + 1) (q : ¬ (W 5 9).toInt = 1) (h0 : (W 67 f).toInt = 0) : MJ W Z' b := by
  obtain ⟨g, r, h⟩ := h
  exact h.pu (Nat.zero_le _) hf m ez h1 h2 hx hm e trivial (fun z => absurd z.1 q) (fun z => z.elim (fun a => a h0) (fun a => q a.1))
theorem ME.zz {V : Vf} {n f : Nat} (h : f ≤ n) : ME V (frz V n) f := by
  have lo : ∀ c k, ¬ (67 ≤ c ∧ c ≤ 85) → frz V n c k = V c k := fun c k q => congrFun (frz_lo q) k
  exact ⟨fun c k a1 a2 => lo c k (by omega), fun c k a1 a2 a3 => frz_k (by omega), ⟨lo _ _ (by decide), lo _ _ (by decide), lo _ _ (by decide), lo _ _ (by decide)⟩, fun k => lo _ _ (by decide), fun k => lo _ _ (by decide), fun k => lo _ _ (by decide), fun k => lo _ _ (by decide), fun k => Or.inl (lo _ _ (by decide))⟩
theorem FK.k0 {V : Vf} {b x i : Nat} {w v : Prop} (hk : (V 67 i).toInt = 0) (hm : (V 80 i).toInt ≤ (V 5 8).toInt) : FK V b x i w v :=
  ⟨fun h => absurd hk h, fun h => absurd hk h, fun h => absurd h (by omega), fun h => absurd h (by omega), fun h => absurd h (by omega), fun h => absurd h (by omega), fun _ => hm, fun h => absurd h (by omega), fun h => absurd h (by omega), fun h _ _ => absurd h (by omega)⟩
theorem FK.k3 {V : Vf} {b x i : Nat} {w v : Prop} (hk : (V 67 i).toInt = 3) (h1 : 0 ≤ (V 71 i).toInt ∧ (V 71 i).toInt < (V 43 (5 * b + 2)).toInt) (h2 : 0 ≤ (V 70 i).toInt ∧ (V 70 i).toInt < (V 3 13).toInt) (h3 : (V 68 i).toInt = 0 ∨ (V 68 i).toInt = 1 ∨ (V 68 i).toInt = 4 ∨ (V 75 i).toInt ≤ (V 41 b).toInt) : FK V b x i w v :=
  ⟨fun _ => h1, fun _ _ => h2, fun h => absurd h (by omega), fun h => absurd h (by omega), fun h => absurd h (by omega), fun h => absurd h (by omega), fun h => absurd h (by omega), fun h => absurd h (by omega), fun _ => h3, fun h _ _ => absurd h (by omega)⟩
theorem FK.k5 {V : Vf} {b x i : Nat} {w v : Prop} (hk : (V 67 i).toInt ≠ 0 ∧ (V 67 i).toInt ≠ 1 ∧ (V 67 i).toInt ≠ 2 ∧ (V 67 i).toInt ≠ 3 ∧ (V 67 i).toInt ≠ 4) (h1 : 0 ≤ (V 71 i).toInt ∧ (V 71 i).toInt < (V 43 (5 * b + 2)).toInt) (h2 : 0 ≤ (V 70 i).toInt ∧ (V 70 i).toInt < (V 3 13).toInt) : FK V b x i w v :=
  ⟨fun _ => h1, fun _ _ => h2, fun h => absurd h (by omega), fun h => absurd h (by omega), fun h => absurd h (by omega), fun h => absurd h (by omega), fun h => absurd h (by omega), fun h => absurd h (by omega), fun h => absurd h (by omega), fun h _ _ => absurd h (by omega)⟩
theorem FK.k2 {V : Vf} {b x i : Nat} {w v : Prop} (hk : (V 67 i).toInt = 2) (h1 : 0 ≤ (V 71 i).toInt ∧ (V 71 i).toInt < (V 43 (5 * b + 2)).toInt) (h2 : (V 68 i).toInt = 0 ∨ (0 ≤ (V 70 i).toInt ∧ (V 70 i).toInt < (V 3 13).toInt)) (h3 : (V 68 i).toInt = 0 ∨ (V 68 i).toInt = 1 ∨ (V 75 i).toInt ≤ (V 41 b).toInt) : FK V b x i w v :=
  ⟨fun _ => h1, fun _ q => by rcases h2 with h2 | h2; exact absurd ⟨hk, h2⟩ q; exact h2, fun h => absurd h (by omega), fun h => absurd h (by omega), fun h => absurd h (by omega), fun h => absurd h (by omega), fun h => absurd h (by omega), fun _ => h3, fun h => absurd h (by omega), fun h _ _ => absurd h (by omega)⟩
theorem FK.k4 {V : Vf} {b x i : Nat} {w v : Prop} (hk : (V 67 i).toInt = 4) (h1 : 0 ≤ (V 71 i).toInt ∧ (V 71 i).toInt < (V 43 (5 * b + 2)).toInt) (h2 : 0 ≤ (V 70 i).toInt ∧ (V 70 i).toInt < (V 3 13).toInt) (h3 : (V 42 b).toInt ≤ (V 84 i).toInt ∨ (bdp V b (V 84 i).toInt.toNat).1 = true) (h4 : ((V 68 i).toInt = 6 ∨ (V 68 i).toInt = 7) → (V 75 i).toInt ≤ 7) (h5 : (V 68 i).toInt = 7 → v → 1 ≤ x) : FK V b x i w v :=
  ⟨fun _ => h1, fun _ _ => h2, fun _ => h3, fun _ => h4, fun h => absurd h (by omega), fun h => absurd h (by omega), fun h => absurd h (by omega), fun h => absurd h (by omega), fun h => absurd h (by omega), fun _ => h5⟩
theorem FK.k1 {V : Vf} {b x i : Nat} {w v : Prop} (hk : (V 67 i).toInt = 1) (h1 : 0 ≤ (V 71 i).toInt ∧ (V 71 i).toInt < (V 43 (5 * b + 2)).toInt) (h2 : 0 ≤ (V 70 i).toInt ∧ (V 70 i).toInt < (V 3 13).toInt) (h3 : 0 ≤ (V 76 i).toInt ∧ (V 76 i).toInt ≤ 25 ∧ (V 75 i).toInt ≤ 8) (h0 : 1 ≤ (x : Int)) (h4 : (V 68 i).toInt ≠ 1 → 25 * (8 - (V 75 i).toInt) - (V 76 i).toInt + 1 ≤ (x : Int) ∧ (w → (V 75 i).toInt ≤ 7 ∧ 25 * (8 - (V 75 i).toInt) - (V 76 i).toInt + 2 ≤ (x : Int))) : FK V b x i w v :=
  ⟨fun _ => h1, fun _ _ => h2, fun h => absurd h (by omega), fun h => absurd h (by omega), fun _ => h3, fun _ => ⟨h0, h4⟩, fun h => absurd h (by omega), fun h => absurd h (by omega), fun h => absurd h (by omega), fun h _ _ => absurd h (by omega)⟩
theorem MI.dn2 {V : Vf} {Z : XZ} {b n r : Nat} {g : Nat → Nat} {w v u : Prop} (h : MI V Z b g n r w v u) (e : n = (V 5 6).toInt.toNat) (h0 : 0 ≤ (V 5 6).toInt) : (V 5 6).toInt ≤ (Z.nf : Int) ∧ (Z.nf : Int) ≤ 400 := by
  have a := h.dn
  have b := h.nf
  omega
theorem MI.up {V : Vf} {Z : XZ} {b n r : Nat} {g : Nat → Nat} {w v u : Prop} (h : MI V Z b g n r w v u) : 0 < (V 43 (5 * b + 2)).toInt ∧ TX V b ∧ CD V b ∧ (V 5 5).toInt = (b : Int) ∧ SL V Z ∧ (∀ o : Nat, (o : Int) < (V 3 13).toInt → (V 26 o).toInt < (V 43 (5 * b + 2)).toInt) ∧ (∀ i : Nat, (i : Int) < (V 5 8).toInt → (V 40 i).toInt < (V 3 13).toInt) ∧ PT V ∧ (V 3 15).toInt ≤ 250000 ∧ LN Z.ln := ⟨h.sz, h.tx, h.cd, h.mb, h.sl, h.oc, h.md, h.pt, by have := h.pot; have := h.o0; omega, h.ln⟩
theorem MT.dn {V : Vf} {Z : XZ} {b : Nat} (h : MT V Z b) (h0 : 0 ≤ (V 5 6).toInt) : (V 5 6).toInt ≤ (Z.nf : Int) ∧ (Z.nf : Int) ≤ 400 := by
  obtain ⟨g, r, h⟩ := h
  exact h.dn2 rfl h0
theorem MT.up {V : Vf} {Z : XZ} {b : Nat} (h : MT V Z b) : 0 < (V 43 (5 * b + 2)).toInt ∧ TX V b ∧ CD V b ∧ (V 5 5).toInt = (b : Int) ∧ SL V Z ∧ (∀ o : Nat, (o : Int) < (V 3 13).toInt → (V 26 o).toInt < (V 43 (5 * b + 2)).toInt) ∧ (∀ i : Nat, (i : Int) < (V 5 8).toInt → (V 40 i).toInt < (V 3 13).toInt) ∧ PT V ∧ (V 3 15).toInt ≤ 250000 ∧ LN Z.ln := by
  obtain ⟨g, r, h⟩ := h
  exact h.up
theorem MTr.dn {V : Vf} {Z : XZ} {b : Nat} (h : MTr V Z b) (h0 : 0 ≤ (V 5 6).toInt) : (V 5 6).toInt ≤ (Z.nf : Int) ∧ (Z.nf : Int) ≤ 400 := by
  obtain ⟨g, r, h⟩ := h
  exact h.dn2 rfl h0
theorem MTr.up {V : Vf} {Z : XZ} {b : Nat} (h : MTr V Z b) : 0 < (V 43 (5 * b + 2)).toInt ∧ TX V b ∧ CD V b ∧ (V 5 5).toInt = (b : Int) ∧ SL V Z ∧ (∀ o : Nat, (o : Int) < (V 3 13).toInt → (V 26 o).toInt < (V 43 (5 * b + 2)).toInt) ∧ (∀ i : Nat, (i : Int) < (V 5 8).toInt → (V 40 i).toInt < (V 3 13).toInt) ∧ PT V ∧ (V 3 15).toInt ≤ 250000 ∧ LN Z.ln := by
  obtain ⟨g, r, h⟩ := h
  exact h.up
theorem MTw.dn {V : Vf} {Z : XZ} {b : Nat} (h : MTw V Z b) (h0 : 0 ≤ (V 5 6).toInt) : (V 5 6).toInt ≤ (Z.nf : Int) ∧ (Z.nf : Int) ≤ 400 := by
  obtain ⟨g, r, h⟩ := h
  exact h.dn2 rfl h0
theorem MTw.up {V : Vf} {Z : XZ} {b : Nat} (h : MTw V Z b) : 0 < (V 43 (5 * b + 2)).toInt ∧ TX V b ∧ CD V b ∧ (V 5 5).toInt = (b : Int) ∧ SL V Z ∧ (∀ o : Nat, (o : Int) < (V 3 13).toInt → (V 26 o).toInt < (V 43 (5 * b + 2)).toInt) ∧ (∀ i : Nat, (i : Int) < (V 5 8).toInt → (V 40 i).toInt < (V 3 13).toInt) ∧ PT V ∧ (V 3 15).toInt ≤ 250000 ∧ LN Z.ln := by
  obtain ⟨g, r, h⟩ := h
  exact h.up
theorem MJ.dn {V : Vf} {Z : XZ} {b : Nat} (h : MJ V Z b) (h0 : 0 ≤ (V 5 6).toInt) : (V 5 6).toInt ≤ (Z.nf : Int) ∧ (Z.nf : Int) ≤ 400 := by
  obtain ⟨g, r, h⟩ := h
  exact h.dn2 rfl h0
theorem MJ.up {V : Vf} {Z : XZ} {b : Nat} (h : MJ V Z b) : 0 < (V 43 (5 * b + 2)).toInt ∧ TX V b ∧ CD V b ∧ (V 5 5).toInt = (b : Int) ∧ SL V Z ∧ (∀ o : Nat, (o : Int) < (V 3 13).toInt → (V 26 o).toInt < (V 43 (5 * b + 2)).toInt) ∧ (∀ i : Nat, (i : Int) < (V 5 8).toInt → (V 40 i).toInt < (V 3 13).toInt) ∧ PT V ∧ (V 3 15).toInt ≤ 250000 ∧ LN Z.ln := by
  obtain ⟨g, r, h⟩ := h
  exact h.up
theorem MT.me {V W : Vf} {Z : XZ} {b : Nat} (h : MT V Z b) (m : ME V W 400) (e : W 5 6 = V 5 6) : MT W Z b := by
  obtain ⟨g, r, h⟩ := h
  have := h.dn
  have := h.nf
  exact ⟨g, r, by rw [e]; exact h.me (m.lo (by omega))⟩
theorem MTr.me {V W : Vf} {Z : XZ} {b : Nat} (h : MTr V Z b) (m : ME V W 400) (e : W 5 6 = V 5 6) : MTr W Z b := by
  obtain ⟨g, r, h⟩ := h
  have := h.dn
  have := h.nf
  exact ⟨g, r, by rw [e]; exact h.me (m.lo (by omega))⟩
theorem MTw.me {V W : Vf} {Z : XZ} {b : Nat} (h : MTw V Z b) (m : ME V W 400) (e : W 5 6 = V 5 6) : MTw W Z b := by
  obtain ⟨g, r, h⟩ := h
  have := h.dn
  have := h.nf
  exact ⟨g, r, by rw [e]; exact h.me (m.lo (by omega))⟩
theorem MT.mj {V : Vf} {Z : XZ} {b : Nat} (h : MT V Z b) : MJ V Z b := by
  obtain ⟨g, r, h⟩ := h
  exact ⟨g, r, h.w (fun _ => trivial) (fun _ => trivial) (fun _ => trivial) (Nat.le_refl _)⟩
theorem MTw.mj {V : Vf} {Z : XZ} {b : Nat} (h : MTw V Z b) (q : ¬ QN V b) : MJ V Z b := by
  obtain ⟨g, r, h⟩ := h
  exact ⟨g, r, h.w (fun _ => trivial) (fun _ => trivial) (fun z => q z) (Nat.le_refl _)⟩
/-- what is known of the top frame -/
theorem MO.fk {V : Vf} {Z : XZ} {b d : Nat} {w v u : Prop} (h : MO V Z b d w v u) : ∃ x, FK V b x d w v := by
  obtain ⟨g, r, x, _, _, h3, _⟩ := h
  exact ⟨x, h3⟩
theorem MO.up {V : Vf} {Z : XZ} {b d : Nat} {w v u : Prop} (h : MO V Z b d w v u) : 0 < (V 43 (5 * b + 2)).toInt ∧ TX V b ∧ CD V b ∧ (V 5 5).toInt = (b : Int) ∧ SL V Z ∧ (∀ o : Nat, (o : Int) < (V 3 13).toInt → (V 26 o).toInt < (V 43 (5 * b + 2)).toInt) ∧ (∀ i : Nat, (i : Int) < (V 5 8).toInt → (V 40 i).toInt < (V 3 13).toInt) ∧ PT V ∧ (V 3 15).toInt ≤ 250000 ∧ LN Z.ln := by
  obtain ⟨g, r, x, h, _⟩ := h
  exact h.up
theorem gs.fk {V : Vf} {b : Nat} {s : Int} (h : gs V b s) (h8 : (V 42 b).toInt ≤ 8200) : (V 42 b).toInt ≤ s ∨ (bdp V b s.toNat).1 = true := by
  rcases h with h | h
  · exact Or.inl (by omega)
  · exact Or.inr h.2.2

theorem w669 : Cond.fieldLink RX5 13 "WiringHouse$Machine" "frames" "[LWiringHouse$Frame;" ∈ GW := gw_k tk9_3 34 (by decide +kernel) rfl
theorem n1189 : lw_tbl[1189]? = some (Cond.fieldLinkNest RX5 71 "WiringHouse$Frame" "kind" "I" "WiringHouse") := la9 (n := 155) (i := 1034) lz9 (la9 (n := 240) (i := 794) ln9_1 (la9 (n := 240) (i := 554) ln9_2 (la9 (n := 240) (i := 314) ln9_3 (la9 (n := 240) (i := 74) ln9_4 (lb9 (i := 74) (by decide +kernel))))))
theorem n1190 : lw_tbl[1190]? = some (Cond.fieldLinkNest RX5 94 "WiringHouse$Frame" "phase" "I" "WiringHouse") := la9 (n := 155) (i := 1035) lz9 (la9 (n := 240) (i := 795) ln9_1 (la9 (n := 240) (i := 555) ln9_2 (la9 (n := 240) (i := 315) ln9_3 (la9 (n := 240) (i := 75) ln9_4 (lb9 (i := 75) (by decide +kernel))))))
theorem n1191 : lw_tbl[1191]? = some (Cond.fieldLinkNest RX5 97 "WiringHouse$Frame" "level" "I" "WiringHouse") := la9 (n := 155) (i := 1036) lz9 (la9 (n := 240) (i := 796) ln9_1 (la9 (n := 240) (i := 556) ln9_2 (la9 (n := 240) (i := 316) ln9_3 (la9 (n := 240) (i := 76) ln9_4 (lb9 (i := 76) (by decide +kernel))))))
theorem n1197 : lw_tbl[1197]? = some (Cond.fieldLinkNest RX5 109 "WiringHouse$Frame" "position" "I" "WiringHouse") := la9 (n := 155) (i := 1042) lz9 (la9 (n := 240) (i := 802) ln9_1 (la9 (n := 240) (i := 562) ln9_2 (la9 (n := 240) (i := 322) ln9_3 (la9 (n := 240) (i := 82) ln9_4 (lb9 (i := 82) (by decide +kernel))))))
theorem n1198 : lw_tbl[1198]? = some (Cond.fieldLinkNest RX5 112 "WiringHouse$Frame" "item" "I" "WiringHouse") := la9 (n := 155) (i := 1043) lz9 (la9 (n := 240) (i := 803) ln9_1 (la9 (n := 240) (i := 563) ln9_2 (la9 (n := 240) (i := 323) ln9_3 (la9 (n := 240) (i := 83) ln9_4 (lb9 (i := 83) (by decide +kernel))))))
theorem n1205 : lw_tbl[1205]? = some (Cond.fieldLinkNest RX5 115 "WiringHouse$Frame" "spent" "Z" "WiringHouse") := la9 (n := 155) (i := 1050) lz9 (la9 (n := 240) (i := 810) ln9_1 (la9 (n := 240) (i := 570) ln9_2 (la9 (n := 240) (i := 330) ln9_3 (la9 (n := 240) (i := 90) ln9_4 (lb9 (i := 90) (by decide +kernel))))))
theorem nfX4 : ∀ j, j < 19 → defaultValue (tyX4 j) = vp_V [.int 0, .int 0, .int 0, .int 0, .int 0, .int 0, .int 0, .int 0, .int 0, .int 0, .int 0, .int 0, .int 0, .int 0, .int 0, .int 0, .int 0, .int 0, .int 0] j := by decide +kernel
theorem w665 : Cond.classLink RX5 11 "WiringHouse$Frame" ∈ GW := gw_k tk9_3 30 (by decide +kernel) rfl
theorem w1184 : Cond.instantiable RX4 19 ∈ GW := gw_k tk9_5 69 (by decide +kernel) rfl
theorem w180 : Cond.initialized RX4 ∈ GW := gw_k tk9_1 25 (by decide +kernel) rfl
theorem w1187 : Cond.code yX4_init cX4_init 1 none ∈ GW := gw_k tk9_5 72 (rfl) rfl
theorem w1186 : Cond.instanceMethod yX4_init ∈ GW := gw_k tk9_5 71 (by decide +kernel) rfl
theorem n1185 : lw_tbl[1185]? = some (Cond.methodLinkNest RX5 93 yX4_init "WiringHouse") := la9 (n := 155) (i := 1030) lz9 (la9 (n := 240) (i := 790) ln9_1 (la9 (n := 240) (i := 550) ln9_2 (la9 (n := 240) (i := 310) ln9_3 (la9 (n := 240) (i := 70) ln9_4 (lb9 (i := 70) (by decide +kernel))))))
theorem hdS_yX4_init : yX4_init.cls ≠ "java/lang/invoke/MethodHandle" ∧ yX4_init.cls ≠ "java/lang/invoke/VarHandle" ∧ (parseMethodDescriptor yX4_init.desc).map (fun d => d.parameters.length) = some 0 := by decide +kernel
theorem dk9_dX5_push_0_0 : dOk cX5_push [(0, .aload_n 0, 1), (1, .getfield 39, 3), (4, .sipush 400, 3), (7, .if_icmp .ge 31, 3), (38, .aload_n 0, 1), (39, .getfield 13, 3), (42, .aload_n 0, 1), (43, .getfield 39, 3), (46, .sipush 400, 3), (49, .if_icmp .ge 17, 3), (66, .sipush 399, 3), (69, .aaload, 1), (70, .astore 6, 2), (72, .aload 6, 2), (74, .iload_n 1, 1), (75, .putfield 71, 3), (78, .aload 6, 2), (80, .iconst 0, 1), (81, .putfield 94, 3), (84, .aload 6, 2), (86, .iload_n 2, 1), (87, .putfield 97, 3), (90, .aload 6, 2), (92, .iload_n 3, 1)] = true ∧ dOk cX5_push [(93, .putfield 100, 3), (96, .aload 6, 2), (98, .iload 4, 2), (100, .putfield 103, 3), (103, .aload 6, 2), (105, .iload 5, 2), (107, .putfield 106, 3), (110, .aload 6, 2), (112, .iconst 0, 1), (113, .putfield 109, 3), (116, .aload 6, 2), (118, .iconst 0, 1), (119, .putfield 112, 3), (122, .aload 6, 2), (124, .iconst 0, 1), (125, .putfield 115, 3), (128, .aload_n 0, 1), (129, .iconst 0, 1), (130, .putfield 49, 3), (133, .aload 6, 2), (135, .areturn, 1), (10, .aload_n 0, 1), (11, .getfield 13, 3), (14, .aload_n 0, 1)] = true ∧ dOk cX5_push [(15, .getfield 39, 3), (18, .aaload, 1), (19, .ifnonnull 19, 3), (52, .aload_n 0, 1), (53, .dup, 1), (54, .getfield 39, 3), (57, .dup_x1, 1), (58, .iconst 1, 1), (59, .iadd, 1), (60, .putfield 39, 3), (63, .goto 6, 3), (22, .aload_n 0, 1), (23, .getfield 13, 3), (26, .aload_n 0, 1), (27, .getfield 39, 3), (30, .new 11, 3), (33, .dup, 1), (34, .invokespecial 93, 3), (37, .aastore, 1)] = true := by decide +kernel
theorem dX5_push_0 : decode cX5_push 0 = .ok (.aload_n 0, 1) := dr9 dk9_dX5_push_0_0.1 0 (0, .aload_n 0, 1) rfl
theorem dX5_push_1 : decode cX5_push 1 = .ok (.getfield 39, 3) := dr9 dk9_dX5_push_0_0.1 1 (1, .getfield 39, 3) rfl
theorem dX5_push_4 : decode cX5_push 4 = .ok (.sipush 400, 3) := dr9 dk9_dX5_push_0_0.1 2 (4, .sipush 400, 3) rfl
theorem dX5_push_7 : decode cX5_push 7 = .ok (.if_icmp .ge 31, 3) := dr9 dk9_dX5_push_0_0.1 3 (7, .if_icmp .ge 31, 3) rfl
theorem dX5_push_38 : decode cX5_push 38 = .ok (.aload_n 0, 1) := dr9 dk9_dX5_push_0_0.1 4 (38, .aload_n 0, 1) rfl
theorem dX5_push_39 : decode cX5_push 39 = .ok (.getfield 13, 3) := dr9 dk9_dX5_push_0_0.1 5 (39, .getfield 13, 3) rfl
theorem dX5_push_42 : decode cX5_push 42 = .ok (.aload_n 0, 1) := dr9 dk9_dX5_push_0_0.1 6 (42, .aload_n 0, 1) rfl
theorem dX5_push_43 : decode cX5_push 43 = .ok (.getfield 39, 3) := dr9 dk9_dX5_push_0_0.1 7 (43, .getfield 39, 3) rfl
theorem dX5_push_46 : decode cX5_push 46 = .ok (.sipush 400, 3) := dr9 dk9_dX5_push_0_0.1 8 (46, .sipush 400, 3) rfl
theorem dX5_push_49 : decode cX5_push 49 = .ok (.if_icmp .ge 17, 3) := dr9 dk9_dX5_push_0_0.1 9 (49, .if_icmp .ge 17, 3) rfl
theorem dX5_push_66 : decode cX5_push 66 = .ok (.sipush 399, 3) := dr9 dk9_dX5_push_0_0.1 10 (66, .sipush 399, 3) rfl
theorem dX5_push_69 : decode cX5_push 69 = .ok (.aaload, 1) := dr9 dk9_dX5_push_0_0.1 11 (69, .aaload, 1) rfl
theorem dX5_push_70 : decode cX5_push 70 = .ok (.astore 6, 2) := dr9 dk9_dX5_push_0_0.1 12 (70, .astore 6, 2) rfl
theorem dX5_push_72 : decode cX5_push 72 = .ok (.aload 6, 2) := dr9 dk9_dX5_push_0_0.1 13 (72, .aload 6, 2) rfl
theorem dX5_push_74 : decode cX5_push 74 = .ok (.iload_n 1, 1) := dr9 dk9_dX5_push_0_0.1 14 (74, .iload_n 1, 1) rfl
theorem dX5_push_75 : decode cX5_push 75 = .ok (.putfield 71, 3) := dr9 dk9_dX5_push_0_0.1 15 (75, .putfield 71, 3) rfl
theorem dX5_push_78 : decode cX5_push 78 = .ok (.aload 6, 2) := dr9 dk9_dX5_push_0_0.1 16 (78, .aload 6, 2) rfl
theorem dX5_push_80 : decode cX5_push 80 = .ok (.iconst 0, 1) := dr9 dk9_dX5_push_0_0.1 17 (80, .iconst 0, 1) rfl
theorem dX5_push_81 : decode cX5_push 81 = .ok (.putfield 94, 3) := dr9 dk9_dX5_push_0_0.1 18 (81, .putfield 94, 3) rfl
theorem dX5_push_84 : decode cX5_push 84 = .ok (.aload 6, 2) := dr9 dk9_dX5_push_0_0.1 19 (84, .aload 6, 2) rfl
theorem dX5_push_86 : decode cX5_push 86 = .ok (.iload_n 2, 1) := dr9 dk9_dX5_push_0_0.1 20 (86, .iload_n 2, 1) rfl
theorem dX5_push_87 : decode cX5_push 87 = .ok (.putfield 97, 3) := dr9 dk9_dX5_push_0_0.1 21 (87, .putfield 97, 3) rfl
theorem dX5_push_90 : decode cX5_push 90 = .ok (.aload 6, 2) := dr9 dk9_dX5_push_0_0.1 22 (90, .aload 6, 2) rfl
theorem dX5_push_92 : decode cX5_push 92 = .ok (.iload_n 3, 1) := dr9 dk9_dX5_push_0_0.1 23 (92, .iload_n 3, 1) rfl
theorem dX5_push_93 : decode cX5_push 93 = .ok (.putfield 100, 3) := dr9 dk9_dX5_push_0_0.2.1 0 (93, .putfield 100, 3) rfl
theorem dX5_push_96 : decode cX5_push 96 = .ok (.aload 6, 2) := dr9 dk9_dX5_push_0_0.2.1 1 (96, .aload 6, 2) rfl
theorem dX5_push_98 : decode cX5_push 98 = .ok (.iload 4, 2) := dr9 dk9_dX5_push_0_0.2.1 2 (98, .iload 4, 2) rfl
theorem dX5_push_100 : decode cX5_push 100 = .ok (.putfield 103, 3) := dr9 dk9_dX5_push_0_0.2.1 3 (100, .putfield 103, 3) rfl
theorem dX5_push_103 : decode cX5_push 103 = .ok (.aload 6, 2) := dr9 dk9_dX5_push_0_0.2.1 4 (103, .aload 6, 2) rfl
theorem dX5_push_105 : decode cX5_push 105 = .ok (.iload 5, 2) := dr9 dk9_dX5_push_0_0.2.1 5 (105, .iload 5, 2) rfl
theorem dX5_push_107 : decode cX5_push 107 = .ok (.putfield 106, 3) := dr9 dk9_dX5_push_0_0.2.1 6 (107, .putfield 106, 3) rfl
theorem dX5_push_110 : decode cX5_push 110 = .ok (.aload 6, 2) := dr9 dk9_dX5_push_0_0.2.1 7 (110, .aload 6, 2) rfl
theorem dX5_push_112 : decode cX5_push 112 = .ok (.iconst 0, 1) := dr9 dk9_dX5_push_0_0.2.1 8 (112, .iconst 0, 1) rfl
theorem dX5_push_113 : decode cX5_push 113 = .ok (.putfield 109, 3) := dr9 dk9_dX5_push_0_0.2.1 9 (113, .putfield 109, 3) rfl
theorem dX5_push_116 : decode cX5_push 116 = .ok (.aload 6, 2) := dr9 dk9_dX5_push_0_0.2.1 10 (116, .aload 6, 2) rfl
theorem dX5_push_118 : decode cX5_push 118 = .ok (.iconst 0, 1) := dr9 dk9_dX5_push_0_0.2.1 11 (118, .iconst 0, 1) rfl
theorem dX5_push_119 : decode cX5_push 119 = .ok (.putfield 112, 3) := dr9 dk9_dX5_push_0_0.2.1 12 (119, .putfield 112, 3) rfl
theorem dX5_push_122 : decode cX5_push 122 = .ok (.aload 6, 2) := dr9 dk9_dX5_push_0_0.2.1 13 (122, .aload 6, 2) rfl
theorem dX5_push_124 : decode cX5_push 124 = .ok (.iconst 0, 1) := dr9 dk9_dX5_push_0_0.2.1 14 (124, .iconst 0, 1) rfl
theorem dX5_push_125 : decode cX5_push 125 = .ok (.putfield 115, 3) := dr9 dk9_dX5_push_0_0.2.1 15 (125, .putfield 115, 3) rfl
theorem dX5_push_128 : decode cX5_push 128 = .ok (.aload_n 0, 1) := dr9 dk9_dX5_push_0_0.2.1 16 (128, .aload_n 0, 1) rfl
theorem dX5_push_129 : decode cX5_push 129 = .ok (.iconst 0, 1) := dr9 dk9_dX5_push_0_0.2.1 17 (129, .iconst 0, 1) rfl
theorem dX5_push_130 : decode cX5_push 130 = .ok (.putfield 49, 3) := dr9 dk9_dX5_push_0_0.2.1 18 (130, .putfield 49, 3) rfl
theorem dX5_push_133 : decode cX5_push 133 = .ok (.aload 6, 2) := dr9 dk9_dX5_push_0_0.2.1 19 (133, .aload 6, 2) rfl
theorem dX5_push_135 : decode cX5_push 135 = .ok (.areturn, 1) := dr9 dk9_dX5_push_0_0.2.1 20 (135, .areturn, 1) rfl
theorem dX5_push_10 : decode cX5_push 10 = .ok (.aload_n 0, 1) := dr9 dk9_dX5_push_0_0.2.1 21 (10, .aload_n 0, 1) rfl
theorem dX5_push_11 : decode cX5_push 11 = .ok (.getfield 13, 3) := dr9 dk9_dX5_push_0_0.2.1 22 (11, .getfield 13, 3) rfl
theorem dX5_push_14 : decode cX5_push 14 = .ok (.aload_n 0, 1) := dr9 dk9_dX5_push_0_0.2.1 23 (14, .aload_n 0, 1) rfl
theorem dX5_push_15 : decode cX5_push 15 = .ok (.getfield 39, 3) := dr9 dk9_dX5_push_0_0.2.2 0 (15, .getfield 39, 3) rfl
theorem dX5_push_18 : decode cX5_push 18 = .ok (.aaload, 1) := dr9 dk9_dX5_push_0_0.2.2 1 (18, .aaload, 1) rfl
theorem dX5_push_19 : decode cX5_push 19 = .ok (.ifnonnull 19, 3) := dr9 dk9_dX5_push_0_0.2.2 2 (19, .ifnonnull 19, 3) rfl
theorem dX5_push_52 : decode cX5_push 52 = .ok (.aload_n 0, 1) := dr9 dk9_dX5_push_0_0.2.2 3 (52, .aload_n 0, 1) rfl
theorem dX5_push_53 : decode cX5_push 53 = .ok (.dup, 1) := dr9 dk9_dX5_push_0_0.2.2 4 (53, .dup, 1) rfl
theorem dX5_push_54 : decode cX5_push 54 = .ok (.getfield 39, 3) := dr9 dk9_dX5_push_0_0.2.2 5 (54, .getfield 39, 3) rfl
theorem dX5_push_57 : decode cX5_push 57 = .ok (.dup_x1, 1) := dr9 dk9_dX5_push_0_0.2.2 6 (57, .dup_x1, 1) rfl
theorem dX5_push_58 : decode cX5_push 58 = .ok (.iconst 1, 1) := dr9 dk9_dX5_push_0_0.2.2 7 (58, .iconst 1, 1) rfl
theorem dX5_push_59 : decode cX5_push 59 = .ok (.iadd, 1) := dr9 dk9_dX5_push_0_0.2.2 8 (59, .iadd, 1) rfl
theorem dX5_push_60 : decode cX5_push 60 = .ok (.putfield 39, 3) := dr9 dk9_dX5_push_0_0.2.2 9 (60, .putfield 39, 3) rfl
theorem dX5_push_63 : decode cX5_push 63 = .ok (.goto 6, 3) := dr9 dk9_dX5_push_0_0.2.2 10 (63, .goto 6, 3) rfl
theorem dX5_push_22 : decode cX5_push 22 = .ok (.aload_n 0, 1) := dr9 dk9_dX5_push_0_0.2.2 11 (22, .aload_n 0, 1) rfl
theorem dX5_push_23 : decode cX5_push 23 = .ok (.getfield 13, 3) := dr9 dk9_dX5_push_0_0.2.2 12 (23, .getfield 13, 3) rfl
theorem dX5_push_26 : decode cX5_push 26 = .ok (.aload_n 0, 1) := dr9 dk9_dX5_push_0_0.2.2 13 (26, .aload_n 0, 1) rfl
theorem dX5_push_27 : decode cX5_push 27 = .ok (.getfield 39, 3) := dr9 dk9_dX5_push_0_0.2.2 14 (27, .getfield 39, 3) rfl
theorem dX5_push_30 : decode cX5_push 30 = .ok (.new 11, 3) := dr9 dk9_dX5_push_0_0.2.2 15 (30, .new 11, 3) rfl
theorem dX5_push_33 : decode cX5_push 33 = .ok (.dup, 1) := dr9 dk9_dX5_push_0_0.2.2 16 (33, .dup, 1) rfl
theorem dX5_push_34 : decode cX5_push 34 = .ok (.invokespecial 93, 3) := dr9 dk9_dX5_push_0_0.2.2 17 (34, .invokespecial 93, 3) rfl
theorem dX5_push_37 : decode cX5_push 37 = .ok (.aastore, 1) := dr9 dk9_dX5_push_0_0.2.2 18 (37, .aastore, 1) rfl
abbrev r_x_push (Z : XZ) : Room := { frames := 2, cells := zcc Z, slots := zss Z, locals := 40 }
abbrev q_x_push (D : va_G) (ks : KS) (ad : Nat → Nat) (kk : Nat → ClassId) (V : Vf) (L : Lf) (Z : XZ) (p0 : Int32) (p1 : Int32) (p2 : Int32) (p3 : Int32) (p4 : Int32) (A : Nat → Prop) : Array Value → State → Outcome → State → Prop := qZr D (fun (u : Vf × Lf × XZ × Nat) => rgd bX u.1 ∧ agr [(5, 6), (5, 9)] [67, 68, 69, 70, 71, 72, 73, 74, 75, 76, 77, 78, 79, 80, 81, 82, 83, 84, 85] V u.1 ∧ u.2.1 = L ∧ ZL Z u.2.2.1 ∧ (u.2.2.2 < u.2.2.1.nf) ∧ (ME V u.1 u.2.2.2) ∧ (u.1 67 u.2.2.2 = p0 ∧ u.1 68 u.2.2.2 = 0 ∧ u.1 70 u.2.2.2 = p2 ∧ u.1 71 u.2.2.2 = p3 ∧ u.1 75 u.2.2.2 = 0 ∧ u.1 76 u.2.2.2 = 0) ∧ ((u.2.2.2 : Int) + 1 = (u.1 5 6).toInt) ∧ ((u.2.2.2 : Int) ≤ (V 5 6).toInt ∧ (V 5 6).toInt ≤ (u.2.2.2 : Int) + 1) ∧ ((u.1 5 9).toInt = 0) ∧ (u.2.2.1.ln = Z.ln ∧ u.2.2.1.nf ≤ 400)) (fun u => u.2.2.1.fa u.2.2.2) (fun u => xw ad kk u.1 u.2.1 u.2.2.1) (fun u => xty kk u.2.2.1) (fun u => zcc Z - zcc u.2.2.1) (fun u => zss Z - zss u.2.2.1) A
set_option maxHeartbeats 4000000 in
set_option maxRecDepth 100000 in
theorem x_push (l : Launch) (D : va_G) (ks : KS) (sz : Nat) (ad : Nat → Nat) (kk : Nat → ClassId) (V : Vf) (L : Lf) (Z : XZ) (p0 : Int32) (p1 : Int32) (p2 : Int32) (p3 : Int32) (p4 : Int32) (hMV : rgd bX V) (rg_p3 : (-1) ≤ p3.toInt ∧ p3.toInt ≤ 23) (rg_p4 : 0 ≤ p4.toInt ∧ p4.toInt ≤ 39) (hdn : (V 5 6).toInt ≤ (Z.nf : Int)) (hnf : (Z.nf : Int) ≤ 400)  : Met l yX5_push (Cond.code yX5_push cX5_push 7 (some (.object "WiringHouse$Frame")) :: GW) (r_x_push Z) (va_Pc [.ref (ad 5), .int p0, .int p1, .int p2, .int p3, .int p4] (gp D ks (xw ad kk V L Z) (xty kk Z) sz)) (q_x_push D ks ad kk V L Z p0 p1 p2 p3 p4 (va_A (xw ad kk V L Z) sz)) (zcc Z) (zss Z) (va_A (xw ad kk V L Z) sz) := by
  refine g_met (q_x_push D ks ad kk V L Z p0 p1 p2 p3 p4) (by decide) (Nat.le_of_ble_eq_true rfl) ?_
  intro p e s m below meth c A ls H locs hx hb hr hml hown hg hlocks hin hnw hgk hP hK hD hS hA hl
  have hown : s.vm.findClass RX5 = some m.cls := hown
  have hl : lv_has ls 7 [(0, .ref (ad 5)), (1, .int p0), (2, .int p1), (3, .int p2), (4, .int p3), (5, .int p4)] := hl
  have hP : va_P D vwCl (xw ad kk V L Z) H := hP
  have hD : va_D A (xw ad kk V L Z) := hD
  have hK : va_K D vwCl (xty kk Z) s := hK
  have agV : agr [(5, 6), (5, 9)] [67, 68, 69, 70, 71, 72, 73, 74, 75, 76, 77, 78, 79, 80, 81, 82, 83, 84, 85] V V := agr.rf
  have zoZ : ZL Z Z := ZL.rf
  refine W.know (fun ka kb => ?_)
  refine W.tight (k := zcc Z - zcc Z) (n := zss Z - zss Z) (by omega) (by omega) ?_
  have r1 : 0 ≤ ((V 5 6)).toInt ∧ ((V 5 6)).toInt ≤ 400 := hMV 5 6
  have kdp := i_clamp (x := V 5 6) rfl (by (first | exact om_eafa9039069c r1.1 | omega))
  refine lv_aload_n hx hb dX5_push_0 rfl (lv_at hl 0 rfl) ?_
  refine va_get (D := D) (ci := 5) (v := .int (V 5 6)) (fs := (xfMachine ad V L Z)) (C := RX5) (T := TX5) (N := 15) hx hb hg inX5 hown hK hP 5 xgMachine rfl 6 (by decide) (hg _ w673) (fun _ h9 => h9) rfl dX5_push_1 ?_
  refine lv_sipush (v := 400) hx hb dX5_push_4 (by decide) ?_
  refine lv_icmp_ge (tgt := 38) hx hb dX5_push_7 (by decide) (fun c2 => ?_) (fun c2 => ?_)
  · skip
    have f3 : 400 ≤ ((V 5 6)).toInt := b_le (by decide) rfl c2
    refine lv_aload_n hx hb dX5_push_38 rfl (lv_at hl 0 rfl) ?_
    refine va_get (D := D) (ci := 5) (v := .ref (ad 35)) (fs := (xfMachine ad V L Z)) (C := RX5) (T := TX5) (N := 15) hx hb hg inX5 hown hK hP 5 xgMachine rfl 2 (by decide) (hg _ w669) (fun _ h9 => h9) rfl dX5_push_39 ?_
    refine lv_aload_n hx hb dX5_push_42 rfl (lv_at hl 0 rfl) ?_
    refine va_get (D := D) (ci := 5) (v := .int (V 5 6)) (fs := (xfMachine ad V L Z)) (C := RX5) (T := TX5) (N := 15) hx hb hg inX5 hown hK hP 5 xgMachine rfl 6 (by decide) (hg _ w673) (fun _ h9 => h9) rfl dX5_push_43 ?_
    refine lv_sipush (v := 400) hx hb dX5_push_46 (by decide) ?_
    refine lv_icmp_ge (tgt := 66) hx hb dX5_push_49 (by decide) (fun c4 => ?_) (fun c4 => ?_)
    · skip
      have f5 : 400 ≤ ((V 5 6)).toInt := b_le (by decide) rfl c4
      refine lv_sipush (v := 399) hx hb dX5_push_66 (by decide) ?_
      refine va_aldq (D := D) (i := 399) hx hb hK hP 35 28 rfl rfl (i_in (a := 399) (by decide) (by decide)) dX5_push_69 ?_
      refine g_topv (v := .ref (Z.fa 399)) (by rw [show Int32.toNatClampNeg 399 = 399 from by decide]; exact congrArg va_rf (if_pos (by omega))) ?_
      have il6 : 399 < Z.nf := by (first | exact om_41b7f2c202b6 hdn f3 | omega)
      refine lv_astore (lv' := [(6, .ref (Z.fa 399)), (0, .ref (ad 5)), (1, .int p0), (2, .int p1), (3, .int p2), (4, .int p3), (5, .int p4)]) hx hb dX5_push_70 hl (by decide) rfl (fun ls hl => ?_)
      refine lv_aload hx hb dX5_push_72 (lv_at hl 0 rfl) ?_
      refine lv_iload_n hx hb dX5_push_74 rfl (lv_at hl 2 rfl) ?_
      refine va_putN (D := D) (ci := 4) (v := .int p0) (ty := tyX4 0) (fs := (xfFrame V 399)) (C := RX4) (T := TX4) (N := 19) hx hb hg inX4 tyX4 tyX4_ok nmX4 hown hK hP hD hS (336 + 399) (xgFrame il6) rfl 0 (by decide) (hnw.use 1189 n1189 rfl) (fun _ h9 => h9) rfl (tyX4_ok 0 (by decide)) rfl rfl (Nat.le_of_ble_eq_true rfl) dX5_push_75 (fun H locs hP hD hS => ?_)
      obtain ⟨V7, hV7⟩ : ∃ z, z = up2 V 67 399 p0 := ⟨_, rfl⟩
      have ew8 : (xw ad kk V L Z).set (336 + 399) ((Z.fa 399), .inr (4, (xfFrame V 399).set 0 (.int p0))) = xw ad kk V7 L Z := by rw [hV7]; exact xpFrame_kind il6
      have hP : va_P D vwCl (xw ad kk V7 L Z) H := by rw [← ew8]; exact hP
      have hD : va_D A (xw ad kk V7 L Z) := by rw [← ew8]; exact hD
      have hMV7 : rgd bX V7 := hMV.put hV7 (i_full _)
      have agV7 : agr [(5, 6), (5, 9)] [67, 68, 69, 70, 71, 72, 73, 74, 75, 76, 77, 78, 79, 80, 81, 82, 83, 84, 85] V V7 := agV.up hV7 rfl
      refine lv_aload hx hb dX5_push_78 (lv_at hl 0 rfl) ?_
      refine lv_iconst (v := 0) hx hb dX5_push_80 (by decide) ?_
      refine va_putN (D := D) (ci := 4) (v := .int 0) (ty := tyX4 1) (fs := (xfFrame V7 399)) (C := RX4) (T := TX4) (N := 19) hx hb hg inX4 tyX4 tyX4_ok nmX4 hown hK hP hD hS (336 + 399) (xgFrame il6) rfl 1 (by decide) (hnw.use 1190 n1190 rfl) (fun _ h9 => h9) rfl (tyX4_ok 1 (by decide)) rfl rfl (Nat.le_of_ble_eq_true rfl) dX5_push_81 (fun H locs hP hD hS => ?_)
      obtain ⟨V9, hV9⟩ : ∃ z, z = up2 V7 68 399 0 := ⟨_, rfl⟩
      have ew10 : (xw ad kk V7 L Z).set (336 + 399) ((Z.fa 399), .inr (4, (xfFrame V7 399).set 1 (.int 0))) = xw ad kk V9 L Z := by rw [hV9]; exact xpFrame_phase il6
      have hP : va_P D vwCl (xw ad kk V9 L Z) H := by rw [← ew10]; exact hP
      have hD : va_D A (xw ad kk V9 L Z) := by rw [← ew10]; exact hD
      have hMV9 : rgd bX V9 := hMV7.put hV9 (i_full _)
      have agV9 : agr [(5, 6), (5, 9)] [67, 68, 69, 70, 71, 72, 73, 74, 75, 76, 77, 78, 79, 80, 81, 82, 83, 84, 85] V V9 := agV7.up hV9 rfl
      refine lv_aload hx hb dX5_push_84 (lv_at hl 0 rfl) ?_
      refine lv_iload_n hx hb dX5_push_86 rfl (lv_at hl 3 rfl) ?_
      refine va_putN (D := D) (ci := 4) (v := .int p1) (ty := tyX4 2) (fs := (xfFrame V9 399)) (C := RX4) (T := TX4) (N := 19) hx hb hg inX4 tyX4 tyX4_ok nmX4 hown hK hP hD hS (336 + 399) (xgFrame il6) rfl 2 (by decide) (hnw.use 1191 n1191 rfl) (fun _ h9 => h9) rfl (tyX4_ok 2 (by decide)) rfl rfl (Nat.le_of_ble_eq_true rfl) dX5_push_87 (fun H locs hP hD hS => ?_)
      obtain ⟨V11, hV11⟩ : ∃ z, z = up2 V9 69 399 p1 := ⟨_, rfl⟩
      have ew12 : (xw ad kk V9 L Z).set (336 + 399) ((Z.fa 399), .inr (4, (xfFrame V9 399).set 2 (.int p1))) = xw ad kk V11 L Z := by rw [hV11]; exact xpFrame_level il6
      have hP : va_P D vwCl (xw ad kk V11 L Z) H := by rw [← ew12]; exact hP
      have hD : va_D A (xw ad kk V11 L Z) := by rw [← ew12]; exact hD
      have hMV11 : rgd bX V11 := hMV9.put hV11 (i_full _)
      have agV11 : agr [(5, 6), (5, 9)] [67, 68, 69, 70, 71, 72, 73, 74, 75, 76, 77, 78, 79, 80, 81, 82, 83, 84, 85] V V11 := agV9.up hV11 rfl
      refine lv_aload hx hb dX5_push_90 (lv_at hl 0 rfl) ?_
      refine lv_iload_n hx hb dX5_push_92 rfl (lv_at hl 4 rfl) ?_
      refine va_putN (D := D) (ci := 4) (v := .int p2) (ty := tyX4 3) (fs := (xfFrame V11 399)) (C := RX4) (T := TX4) (N := 19) hx hb hg inX4 tyX4 tyX4_ok nmX4 hown hK hP hD hS (336 + 399) (xgFrame il6) rfl 3 (by decide) (hnw.use 1192 n1192 rfl) (fun _ h9 => h9) rfl (tyX4_ok 3 (by decide)) rfl rfl (Nat.le_of_ble_eq_true rfl) dX5_push_93 (fun H locs hP hD hS => ?_)
      obtain ⟨V13, hV13⟩ : ∃ z, z = up2 V11 70 399 p2 := ⟨_, rfl⟩
      have ew14 : (xw ad kk V11 L Z).set (336 + 399) ((Z.fa 399), .inr (4, (xfFrame V11 399).set 3 (.int p2))) = xw ad kk V13 L Z := by rw [hV13]; exact xpFrame_object il6
      have hP : va_P D vwCl (xw ad kk V13 L Z) H := by rw [← ew14]; exact hP
      have hD : va_D A (xw ad kk V13 L Z) := by rw [← ew14]; exact hD
      have hMV13 : rgd bX V13 := hMV11.put hV13 (i_full _)
      have agV13 : agr [(5, 6), (5, 9)] [67, 68, 69, 70, 71, 72, 73, 74, 75, 76, 77, 78, 79, 80, 81, 82, 83, 84, 85] V V13 := agV11.up hV13 rfl
      refine lv_aload hx hb dX5_push_96 (lv_at hl 0 rfl) ?_
      refine lv_iload hx hb dX5_push_98 (lv_at hl 5 rfl) ?_
      refine va_putN (D := D) (ci := 4) (v := .int p3) (ty := tyX4 4) (fs := (xfFrame V13 399)) (C := RX4) (T := TX4) (N := 19) hx hb hg inX4 tyX4 tyX4_ok nmX4 hown hK hP hD hS (336 + 399) (xgFrame il6) rfl 4 (by decide) (hnw.use 1193 n1193 rfl) (fun _ h9 => h9) rfl (tyX4_ok 4 (by decide)) rfl rfl (Nat.le_of_ble_eq_true rfl) dX5_push_100 (fun H locs hP hD hS => ?_)
      obtain ⟨V15, hV15⟩ : ∃ z, z = up2 V13 71 399 p3 := ⟨_, rfl⟩
      have ew16 : (xw ad kk V13 L Z).set (336 + 399) ((Z.fa 399), .inr (4, (xfFrame V13 399).set 4 (.int p3))) = xw ad kk V15 L Z := by rw [hV15]; exact xpFrame_component il6
      have hP : va_P D vwCl (xw ad kk V15 L Z) H := by rw [← ew16]; exact hP
      have hD : va_D A (xw ad kk V15 L Z) := by rw [← ew16]; exact hD
      have hMV15 : rgd bX V15 := hMV13.put hV15 (show (-1) ≤ p3.toInt ∧ p3.toInt ≤ 23 from by (first | exact om_b5ea211f5a81 rg_p3.1 rg_p3.2 | omega))
      have agV15 : agr [(5, 6), (5, 9)] [67, 68, 69, 70, 71, 72, 73, 74, 75, 76, 77, 78, 79, 80, 81, 82, 83, 84, 85] V V15 := agV13.up hV15 rfl
      refine lv_aload hx hb dX5_push_103 (lv_at hl 0 rfl) ?_
      refine lv_iload hx hb dX5_push_105 (lv_at hl 6 rfl) ?_
      refine va_putN (D := D) (ci := 4) (v := .int p4) (ty := tyX4 5) (fs := (xfFrame V15 399)) (C := RX4) (T := TX4) (N := 19) hx hb hg inX4 tyX4 tyX4_ok nmX4 hown hK hP hD hS (336 + 399) (xgFrame il6) rfl 5 (by decide) (hnw.use 1194 n1194 rfl) (fun _ h9 => h9) rfl (tyX4_ok 5 (by decide)) rfl rfl (Nat.le_of_ble_eq_true rfl) dX5_push_107 (fun H locs hP hD hS => ?_)
      obtain ⟨V17, hV17⟩ : ∃ z, z = up2 V15 72 399 p4 := ⟨_, rfl⟩
      have ew18 : (xw ad kk V15 L Z).set (336 + 399) ((Z.fa 399), .inr (4, (xfFrame V15 399).set 5 (.int p4))) = xw ad kk V17 L Z := by rw [hV17]; exact xpFrame_scope il6
      have hP : va_P D vwCl (xw ad kk V17 L Z) H := by rw [← ew18]; exact hP
      have hD : va_D A (xw ad kk V17 L Z) := by rw [← ew18]; exact hD
      have hMV17 : rgd bX V17 := hMV15.put hV17 (show 0 ≤ p4.toInt ∧ p4.toInt ≤ 39 from by (first | exact om_13ba01c174fe rg_p4.1 rg_p4.2 | omega))
      have agV17 : agr [(5, 6), (5, 9)] [67, 68, 69, 70, 71, 72, 73, 74, 75, 76, 77, 78, 79, 80, 81, 82, 83, 84, 85] V V17 := agV15.up hV17 rfl
      refine lv_aload hx hb dX5_push_110 (lv_at hl 0 rfl) ?_
      refine lv_iconst (v := 0) hx hb dX5_push_112 (by decide) ?_
      refine va_putN (D := D) (ci := 4) (v := .int 0) (ty := tyX4 8) (fs := (xfFrame V17 399)) (C := RX4) (T := TX4) (N := 19) hx hb hg inX4 tyX4 tyX4_ok nmX4 hown hK hP hD hS (336 + 399) (xgFrame il6) rfl 8 (by decide) (hnw.use 1197 n1197 rfl) (fun _ h9 => h9) rfl (tyX4_ok 8 (by decide)) rfl rfl (Nat.le_of_ble_eq_true rfl) dX5_push_113 (fun H locs hP hD hS => ?_)
      obtain ⟨V19, hV19⟩ : ∃ z, z = up2 V17 75 399 0 := ⟨_, rfl⟩
      have ew20 : (xw ad kk V17 L Z).set (336 + 399) ((Z.fa 399), .inr (4, (xfFrame V17 399).set 8 (.int 0))) = xw ad kk V19 L Z := by rw [hV19]; exact xpFrame_position il6
      have hP : va_P D vwCl (xw ad kk V19 L Z) H := by rw [← ew20]; exact hP
      have hD : va_D A (xw ad kk V19 L Z) := by rw [← ew20]; exact hD
      have hMV19 : rgd bX V19 := hMV17.put hV19 (show 0 ≤ Int32.toInt 0 ∧ Int32.toInt 0 ≤ 12 from by decide)
      have agV19 : agr [(5, 6), (5, 9)] [67, 68, 69, 70, 71, 72, 73, 74, 75, 76, 77, 78, 79, 80, 81, 82, 83, 84, 85] V V19 := agV17.up hV19 rfl
      refine lv_aload hx hb dX5_push_116 (lv_at hl 0 rfl) ?_
      refine lv_iconst (v := 0) hx hb dX5_push_118 (by decide) ?_
      refine va_putN (D := D) (ci := 4) (v := .int 0) (ty := tyX4 9) (fs := (xfFrame V19 399)) (C := RX4) (T := TX4) (N := 19) hx hb hg inX4 tyX4 tyX4_ok nmX4 hown hK hP hD hS (336 + 399) (xgFrame il6) rfl 9 (by decide) (hnw.use 1198 n1198 rfl) (fun _ h9 => h9) rfl (tyX4_ok 9 (by decide)) rfl rfl (Nat.le_of_ble_eq_true rfl) dX5_push_119 (fun H locs hP hD hS => ?_)
      obtain ⟨V21, hV21⟩ : ∃ z, z = up2 V19 76 399 0 := ⟨_, rfl⟩
      have ew22 : (xw ad kk V19 L Z).set (336 + 399) ((Z.fa 399), .inr (4, (xfFrame V19 399).set 9 (.int 0))) = xw ad kk V21 L Z := by rw [hV21]; exact xpFrame_item il6
      have hP : va_P D vwCl (xw ad kk V21 L Z) H := by rw [← ew22]; exact hP
      have hD : va_D A (xw ad kk V21 L Z) := by rw [← ew22]; exact hD
      have hMV21 : rgd bX V21 := hMV19.put hV21 (i_full _)
      have agV21 : agr [(5, 6), (5, 9)] [67, 68, 69, 70, 71, 72, 73, 74, 75, 76, 77, 78, 79, 80, 81, 82, 83, 84, 85] V V21 := agV19.up hV21 rfl
      refine lv_aload hx hb dX5_push_122 (lv_at hl 0 rfl) ?_
      refine lv_iconst (v := 0) hx hb dX5_push_124 (by decide) ?_
      refine va_putN (D := D) (ci := 4) (v := .int 0) (ty := tyX4 16) (fs := (xfFrame V21 399)) (C := RX4) (T := TX4) (N := 19) hx hb hg inX4 tyX4 tyX4_ok nmX4 hown hK hP hD hS (336 + 399) (xgFrame il6) rfl 16 (by decide) (hnw.use 1205 n1205 rfl) (fun _ h9 => h9) rfl (tyX4_ok 16 (by decide)) rfl rfl (Nat.le_of_ble_eq_true rfl) dX5_push_125 (fun H locs hP hD hS => ?_)
      obtain ⟨V23, hV23⟩ : ∃ z, z = up2 V21 83 399 0 := ⟨_, rfl⟩
      have ew24 : (xw ad kk V21 L Z).set (336 + 399) ((Z.fa 399), .inr (4, (xfFrame V21 399).set 16 (.int 0))) = xw ad kk V23 L Z := by rw [hV23]; exact xpFrame_spent il6
      have hP : va_P D vwCl (xw ad kk V23 L Z) H := by rw [← ew24]; exact hP
      have hD : va_D A (xw ad kk V23 L Z) := by rw [← ew24]; exact hD
      have hMV23 : rgd bX V23 := hMV21.put hV23 (show 0 ≤ Int32.toInt 0 ∧ Int32.toInt 0 ≤ 1 from by decide)
      have agV23 : agr [(5, 6), (5, 9)] [67, 68, 69, 70, 71, 72, 73, 74, 75, 76, 77, 78, 79, 80, 81, 82, 83, 84, 85] V V23 := agV21.up hV23 rfl
      refine lv_aload_n hx hb dX5_push_128 rfl (lv_at hl 1 rfl) ?_
      refine lv_iconst (v := 0) hx hb dX5_push_129 (by decide) ?_
      refine va_put (D := D) (ci := 5) (v := .int 0) (ty := tyX5 9) (fs := (xfMachine ad V23 L Z)) (C := RX5) (T := TX5) (N := 15) hx hb hg inX5 tyX5 tyX5_ok nmX5 hown hK hP hD hS 5 xgMachine rfl 9 (by decide) (hg _ w676) (fun _ h9 => h9) rfl (tyX5_ok 9 (by decide)) rfl rfl (Nat.le_of_ble_eq_true rfl) dX5_push_130 (fun H locs hP hD hS => ?_)
      obtain ⟨V25, hV25⟩ : ∃ z, z = up2 V23 5 9 0 := ⟨_, rfl⟩
      have ew26 : (xw ad kk V23 L Z).set 5 ((ad 5), .inr (5, (xfMachine ad V23 L Z).set 9 (.int 0))) = xw ad kk V25 L Z := by rw [hV25]; exact xw_ss (by decide) rfl (xb_si (by decide))
      have hP : va_P D vwCl (xw ad kk V25 L Z) H := by rw [← ew26]; exact hP
      have hD : va_D A (xw ad kk V25 L Z) := by rw [← ew26]; exact hD
      have hMV25 : rgd bX V25 := hMV23.put hV25 (by decide)
      have agV25 : agr [(5, 6), (5, 9)] [67, 68, 69, 70, 71, 72, 73, 74, 75, 76, 77, 78, 79, 80, 81, 82, 83, 84, 85] V V25 := agV23.up hV25 rfl
      refine lv_aload hx hb dX5_push_133 (lv_at hl 0 rfl) ?_
      have pq27 : (V25 5 6).toInt = ((V 5 6)).toInt := congrArg Int32.toInt ((up2_k hV25 (by decide)).trans ((up2_o hV23 (by decide)).trans ((up2_o hV21 (by decide)).trans ((up2_o hV19 (by decide)).trans ((up2_o hV17 (by decide)).trans ((up2_o hV15 (by decide)).trans ((up2_o hV13 (by decide)).trans ((up2_o hV11 (by decide)).trans ((up2_o hV9 (by decide)).trans (up2_o hV7 (by decide)))))))))))
      have pq28 : (V25 5 9).toInt = 0 := (congrArg Int32.toInt (up2_s hV25)).trans (by decide)
      have me29 : ME V V25 399 := (ME.up (ME.up (ME.up (ME.up (ME.up (ME.up (ME.up (ME.up (ME.up (ME.up ME.rf hV7 (Or.inl ⟨by decide, by decide, Nat.le_refl _⟩)) hV9 (Or.inl ⟨by decide, by decide, Nat.le_refl _⟩)) hV11 (Or.inl ⟨by decide, by decide, Nat.le_refl _⟩)) hV13 (Or.inl ⟨by decide, by decide, Nat.le_refl _⟩)) hV15 (Or.inl ⟨by decide, by decide, Nat.le_refl _⟩)) hV17 (Or.inl ⟨by decide, by decide, Nat.le_refl _⟩)) hV19 (Or.inl ⟨by decide, by decide, Nat.le_refl _⟩)) hV21 (Or.inl ⟨by decide, by decide, Nat.le_refl _⟩)) hV23 (Or.inl ⟨by decide, by decide, Nat.le_refl _⟩)) hV25 (Or.inr (by omega)))
      have rp30 : Z.ln = Z.ln ∧ Z.nf ≤ 400 := ⟨rfl, by omega⟩
      refine W.know (fun kr1 kr2 => ?_)
      refine W.widen (k := zcc Z) (n := zss Z) (Nat.sub_le _ _) (Nat.sub_le _ _) ?_
      exact W.aret (v := .ref (Z.fa 399)) hx hb hr (Or.inl ⟨_, rfl⟩) (Or.inr ⟨_, rfl⟩) (fun t ht hW => ⟨⟨(V25, L, Z, 399), rfl, ⟨hMV25, agV25, rfl, zoZ, il6, me29, ⟨((up2_o hV25 (by decide)).trans ((up2_o hV23 (by decide)).trans ((up2_o hV21 (by decide)).trans ((up2_o hV19 (by decide)).trans ((up2_o hV17 (by decide)).trans ((up2_o hV15 (by decide)).trans ((up2_o hV13 (by decide)).trans ((up2_o hV11 (by decide)).trans ((up2_o hV9 (by decide)).trans (up2_s hV7)))))))))), ((up2_o hV25 (by decide)).trans ((up2_o hV23 (by decide)).trans ((up2_o hV21 (by decide)).trans ((up2_o hV19 (by decide)).trans ((up2_o hV17 (by decide)).trans ((up2_o hV15 (by decide)).trans ((up2_o hV13 (by decide)).trans ((up2_o hV11 (by decide)).trans (up2_s hV9))))))))), ((up2_o hV25 (by decide)).trans ((up2_o hV23 (by decide)).trans ((up2_o hV21 (by decide)).trans ((up2_o hV19 (by decide)).trans ((up2_o hV17 (by decide)).trans ((up2_o hV15 (by decide)).trans (up2_s hV13))))))), ((up2_o hV25 (by decide)).trans ((up2_o hV23 (by decide)).trans ((up2_o hV21 (by decide)).trans ((up2_o hV19 (by decide)).trans ((up2_o hV17 (by decide)).trans (up2_s hV15)))))), ((up2_o hV25 (by decide)).trans ((up2_o hV23 (by decide)).trans ((up2_o hV21 (by decide)).trans (up2_s hV19)))), ((up2_o hV25 (by decide)).trans ((up2_o hV23 (by decide)).trans (up2_s hV21)))⟩, (show (399 : Int) + 1 = (V25 5 6).toInt from by (first | exact om_0ad81450c1c5 r1.2 f3 pq27 | omega)), (show (399 : Int) ≤ (V 5 6).toInt ∧ (V 5 6).toInt ≤ (399 : Int) + 1 from by (first | exact om_67f84156d2ff r1.2 f3 | omega)), (show (V25 5 9).toInt = 0 from by (first | exact om_b66ba74381d5 pq28 | omega)), rp30⟩, ⟨by rw [ht]; exact hP, va_K.moved hW.alike hK, hD⟩, by rw [ht]; exact kr1, by rw [ht]; exact kr2⟩, hS.F ht⟩) hS.2.2 dX5_push_135
    · skip
      have f31 : ((V 5 6)).toInt < 400 := b_nle (by decide) rfl c4
      exfalso; (first | exact om_71687dbe419e f3 f31 | omega)
  · skip
    have f32 : ((V 5 6)).toInt < 400 := b_nle (by decide) rfl c2
    refine lv_aload_n hx hb dX5_push_10 rfl (lv_at hl 0 rfl) ?_
    refine va_get (D := D) (ci := 5) (v := .ref (ad 35)) (fs := (xfMachine ad V L Z)) (C := RX5) (T := TX5) (N := 15) hx hb hg inX5 hown hK hP 5 xgMachine rfl 2 (by decide) (hg _ w669) (fun _ h9 => h9) rfl dX5_push_11 ?_
    refine lv_aload_n hx hb dX5_push_14 rfl (lv_at hl 0 rfl) ?_
    refine va_get (D := D) (ci := 5) (v := .int (V 5 6)) (fs := (xfMachine ad V L Z)) (C := RX5) (T := TX5) (N := 15) hx hb hg inX5 hown hK hP 5 xgMachine rfl 6 (by decide) (hg _ w673) (fun _ h9 => h9) rfl dX5_push_15 ?_
    refine va_aldq (D := D) (i := (V 5 6)) hx hb hK hP 35 28 rfl rfl (i_in (a := ((V 5 6)).toInt) rfl (by (first | exact om_d5d4521689a6 r1.1 f32 | omega))) dX5_push_18 ?_
    have kc33 := i_clamp (x := (V 5 6)) rfl (by (first | exact om_eafa9039069c r1.1 | omega))
    by_cases hfn : (Int32.toNatClampNeg (V 5 6)) < Z.nf
    · skip
      refine g_topv (v := .ref (Z.fa (Int32.toNatClampNeg (V 5 6)))) (congrArg va_rf (if_pos hfn)) ?_
      refine lv_ifnonnull (tgt := 38) hx hb dX5_push_19 (by decide) ?_
      refine lv_aload_n hx hb dX5_push_38 rfl (lv_at hl 0 rfl) ?_
      refine va_get (D := D) (ci := 5) (v := .ref (ad 35)) (fs := (xfMachine ad V L Z)) (C := RX5) (T := TX5) (N := 15) hx hb hg inX5 hown hK hP 5 xgMachine rfl 2 (by decide) (hg _ w669) (fun _ h9 => h9) rfl dX5_push_39 ?_
      refine lv_aload_n hx hb dX5_push_42 rfl (lv_at hl 0 rfl) ?_
      refine va_get (D := D) (ci := 5) (v := .int (V 5 6)) (fs := (xfMachine ad V L Z)) (C := RX5) (T := TX5) (N := 15) hx hb hg inX5 hown hK hP 5 xgMachine rfl 6 (by decide) (hg _ w673) (fun _ h9 => h9) rfl dX5_push_43 ?_
      refine lv_sipush (v := 400) hx hb dX5_push_46 (by decide) ?_
      refine lv_icmp_ge (tgt := 66) hx hb dX5_push_49 (by decide) (fun c34 => ?_) (fun c34 => ?_)
      · skip
        have f35 : 400 ≤ ((V 5 6)).toInt := b_le (by decide) rfl c34
        exfalso; (first | exact om_f1788462d221 f32 f35 | omega)
      · skip
        have f36 : ((V 5 6)).toInt < 400 := b_nle (by decide) rfl c34
        refine lv_aload_n hx hb dX5_push_52 rfl (lv_at hl 0 rfl) ?_
        refine lv_dup hx hb dX5_push_53 rfl ?_
        refine va_get (D := D) (ci := 5) (v := .int (V 5 6)) (fs := (xfMachine ad V L Z)) (C := RX5) (T := TX5) (N := 15) hx hb hg inX5 hown hK hP 5 xgMachine rfl 6 (by decide) (hg _ w673) (fun _ h9 => h9) rfl dX5_push_54 ?_
        refine lv_dup_x1 hx hb dX5_push_57 rfl rfl ?_
        refine lv_iconst (v := 1) hx hb dX5_push_58 (by decide) ?_
        refine lv_iadd hx hb dX5_push_59 ?_
        refine lv_topi (fun z37 ez37 => ?_)
        have hz37 : z37.toInt = ((V 5 6)).toInt + 1 := i_add ez37 rfl (by decide) (by (first | exact om_8a7a47e90f89 r1.1 f32 | omega))
        refine va_put (D := D) (ci := 5) (v := .int z37) (ty := tyX5 6) (fs := (xfMachine ad V L Z)) (C := RX5) (T := TX5) (N := 15) hx hb hg inX5 tyX5 tyX5_ok nmX5 hown hK hP hD hS 5 xgMachine rfl 6 (by decide) (hg _ w673) (fun _ h9 => h9) rfl (tyX5_ok 6 (by decide)) rfl rfl (Nat.le_of_ble_eq_true rfl) dX5_push_60 (fun H locs hP hD hS => ?_)
        obtain ⟨V38, hV38⟩ : ∃ z, z = up2 V 5 6 z37 := ⟨_, rfl⟩
        have ew39 : (xw ad kk V L Z).set 5 ((ad 5), .inr (5, (xfMachine ad V L Z).set 6 (.int z37))) = xw ad kk V38 L Z := by rw [hV38]; exact xw_ss (by decide) rfl (xb_si (by decide))
        have hP : va_P D vwCl (xw ad kk V38 L Z) H := by rw [← ew39]; exact hP
        have hD : va_D A (xw ad kk V38 L Z) := by rw [← ew39]; exact hD
        have hMV38 : rgd bX V38 := hMV.put hV38 (show 0 ≤ z37.toInt ∧ z37.toInt ≤ 400 from by (first | exact om_fe57dcb39c04 r1.1 f32 hz37 | omega))
        have agV38 : agr [(5, 6), (5, 9)] [67, 68, 69, 70, 71, 72, 73, 74, 75, 76, 77, 78, 79, 80, 81, 82, 83, 84, 85] V V38 := agV.up hV38 rfl
        refine lv_goto (tgt := 69) hx hb dX5_push_63 (by decide) ?_
        refine va_aldq (D := D) (i := (V 5 6)) hx hb hK hP 35 28 rfl rfl (i_in (a := ((V 5 6)).toInt) rfl (by (first | exact om_d5d4521689a6 r1.1 f32 | omega))) dX5_push_69 ?_
        refine g_topv (v := .ref (Z.fa (Int32.toNatClampNeg (V 5 6)))) (by exact congrArg va_rf (if_pos (by omega))) ?_
        have il40 : (Int32.toNatClampNeg (V 5 6)) < Z.nf := by omega
        refine lv_astore (lv' := [(6, .ref (Z.fa (Int32.toNatClampNeg (V 5 6)))), (0, .ref (ad 5)), (1, .int p0), (2, .int p1), (3, .int p2), (4, .int p3), (5, .int p4)]) hx hb dX5_push_70 hl (by decide) rfl (fun ls hl => ?_)
        refine lv_aload hx hb dX5_push_72 (lv_at hl 0 rfl) ?_
        refine lv_iload_n hx hb dX5_push_74 rfl (lv_at hl 2 rfl) ?_
        refine va_putN (D := D) (ci := 4) (v := .int p0) (ty := tyX4 0) (fs := (xfFrame V38 (Int32.toNatClampNeg (V 5 6)))) (C := RX4) (T := TX4) (N := 19) hx hb hg inX4 tyX4 tyX4_ok nmX4 hown hK hP hD hS (336 + (Int32.toNatClampNeg (V 5 6))) (xgFrame il40) rfl 0 (by decide) (hnw.use 1189 n1189 rfl) (fun _ h9 => h9) rfl (tyX4_ok 0 (by decide)) rfl rfl (Nat.le_of_ble_eq_true rfl) dX5_push_75 (fun H locs hP hD hS => ?_)
        obtain ⟨V41, hV41⟩ : ∃ z, z = up2 V38 67 (Int32.toNatClampNeg (V 5 6)) p0 := ⟨_, rfl⟩
        have ew42 : (xw ad kk V38 L Z).set (336 + (Int32.toNatClampNeg (V 5 6))) ((Z.fa (Int32.toNatClampNeg (V 5 6))), .inr (4, (xfFrame V38 (Int32.toNatClampNeg (V 5 6))).set 0 (.int p0))) = xw ad kk V41 L Z := by rw [hV41]; exact xpFrame_kind il40
        have hP : va_P D vwCl (xw ad kk V41 L Z) H := by rw [← ew42]; exact hP
        have hD : va_D A (xw ad kk V41 L Z) := by rw [← ew42]; exact hD
        have hMV41 : rgd bX V41 := hMV38.put hV41 (i_full _)
        have agV41 : agr [(5, 6), (5, 9)] [67, 68, 69, 70, 71, 72, 73, 74, 75, 76, 77, 78, 79, 80, 81, 82, 83, 84, 85] V V41 := agV38.up hV41 rfl
        refine lv_aload hx hb dX5_push_78 (lv_at hl 0 rfl) ?_
        refine lv_iconst (v := 0) hx hb dX5_push_80 (by decide) ?_
        refine va_putN (D := D) (ci := 4) (v := .int 0) (ty := tyX4 1) (fs := (xfFrame V41 (Int32.toNatClampNeg (V 5 6)))) (C := RX4) (T := TX4) (N := 19) hx hb hg inX4 tyX4 tyX4_ok nmX4 hown hK hP hD hS (336 + (Int32.toNatClampNeg (V 5 6))) (xgFrame il40) rfl 1 (by decide) (hnw.use 1190 n1190 rfl) (fun _ h9 => h9) rfl (tyX4_ok 1 (by decide)) rfl rfl (Nat.le_of_ble_eq_true rfl) dX5_push_81 (fun H locs hP hD hS => ?_)
        obtain ⟨V43, hV43⟩ : ∃ z, z = up2 V41 68 (Int32.toNatClampNeg (V 5 6)) 0 := ⟨_, rfl⟩
        have ew44 : (xw ad kk V41 L Z).set (336 + (Int32.toNatClampNeg (V 5 6))) ((Z.fa (Int32.toNatClampNeg (V 5 6))), .inr (4, (xfFrame V41 (Int32.toNatClampNeg (V 5 6))).set 1 (.int 0))) = xw ad kk V43 L Z := by rw [hV43]; exact xpFrame_phase il40
        have hP : va_P D vwCl (xw ad kk V43 L Z) H := by rw [← ew44]; exact hP
        have hD : va_D A (xw ad kk V43 L Z) := by rw [← ew44]; exact hD
        have hMV43 : rgd bX V43 := hMV41.put hV43 (i_full _)
        have agV43 : agr [(5, 6), (5, 9)] [67, 68, 69, 70, 71, 72, 73, 74, 75, 76, 77, 78, 79, 80, 81, 82, 83, 84, 85] V V43 := agV41.up hV43 rfl
        refine lv_aload hx hb dX5_push_84 (lv_at hl 0 rfl) ?_
        refine lv_iload_n hx hb dX5_push_86 rfl (lv_at hl 3 rfl) ?_
        refine va_putN (D := D) (ci := 4) (v := .int p1) (ty := tyX4 2) (fs := (xfFrame V43 (Int32.toNatClampNeg (V 5 6)))) (C := RX4) (T := TX4) (N := 19) hx hb hg inX4 tyX4 tyX4_ok nmX4 hown hK hP hD hS (336 + (Int32.toNatClampNeg (V 5 6))) (xgFrame il40) rfl 2 (by decide) (hnw.use 1191 n1191 rfl) (fun _ h9 => h9) rfl (tyX4_ok 2 (by decide)) rfl rfl (Nat.le_of_ble_eq_true rfl) dX5_push_87 (fun H locs hP hD hS => ?_)
        obtain ⟨V45, hV45⟩ : ∃ z, z = up2 V43 69 (Int32.toNatClampNeg (V 5 6)) p1 := ⟨_, rfl⟩
        have ew46 : (xw ad kk V43 L Z).set (336 + (Int32.toNatClampNeg (V 5 6))) ((Z.fa (Int32.toNatClampNeg (V 5 6))), .inr (4, (xfFrame V43 (Int32.toNatClampNeg (V 5 6))).set 2 (.int p1))) = xw ad kk V45 L Z := by rw [hV45]; exact xpFrame_level il40
        have hP : va_P D vwCl (xw ad kk V45 L Z) H := by rw [← ew46]; exact hP
        have hD : va_D A (xw ad kk V45 L Z) := by rw [← ew46]; exact hD
        have hMV45 : rgd bX V45 := hMV43.put hV45 (i_full _)
        have agV45 : agr [(5, 6), (5, 9)] [67, 68, 69, 70, 71, 72, 73, 74, 75, 76, 77, 78, 79, 80, 81, 82, 83, 84, 85] V V45 := agV43.up hV45 rfl
        refine lv_aload hx hb dX5_push_90 (lv_at hl 0 rfl) ?_
        refine lv_iload_n hx hb dX5_push_92 rfl (lv_at hl 4 rfl) ?_
        refine va_putN (D := D) (ci := 4) (v := .int p2) (ty := tyX4 3) (fs := (xfFrame V45 (Int32.toNatClampNeg (V 5 6)))) (C := RX4) (T := TX4) (N := 19) hx hb hg inX4 tyX4 tyX4_ok nmX4 hown hK hP hD hS (336 + (Int32.toNatClampNeg (V 5 6))) (xgFrame il40) rfl 3 (by decide) (hnw.use 1192 n1192 rfl) (fun _ h9 => h9) rfl (tyX4_ok 3 (by decide)) rfl rfl (Nat.le_of_ble_eq_true rfl) dX5_push_93 (fun H locs hP hD hS => ?_)
        obtain ⟨V47, hV47⟩ : ∃ z, z = up2 V45 70 (Int32.toNatClampNeg (V 5 6)) p2 := ⟨_, rfl⟩
        have ew48 : (xw ad kk V45 L Z).set (336 + (Int32.toNatClampNeg (V 5 6))) ((Z.fa (Int32.toNatClampNeg (V 5 6))), .inr (4, (xfFrame V45 (Int32.toNatClampNeg (V 5 6))).set 3 (.int p2))) = xw ad kk V47 L Z := by rw [hV47]; exact xpFrame_object il40
        have hP : va_P D vwCl (xw ad kk V47 L Z) H := by rw [← ew48]; exact hP
        have hD : va_D A (xw ad kk V47 L Z) := by rw [← ew48]; exact hD
        have hMV47 : rgd bX V47 := hMV45.put hV47 (i_full _)
        have agV47 : agr [(5, 6), (5, 9)] [67, 68, 69, 70, 71, 72, 73, 74, 75, 76, 77, 78, 79, 80, 81, 82, 83, 84, 85] V V47 := agV45.up hV47 rfl
        refine lv_aload hx hb dX5_push_96 (lv_at hl 0 rfl) ?_
        refine lv_iload hx hb dX5_push_98 (lv_at hl 5 rfl) ?_
        refine va_putN (D := D) (ci := 4) (v := .int p3) (ty := tyX4 4) (fs := (xfFrame V47 (Int32.toNatClampNeg (V 5 6)))) (C := RX4) (T := TX4) (N := 19) hx hb hg inX4 tyX4 tyX4_ok nmX4 hown hK hP hD hS (336 + (Int32.toNatClampNeg (V 5 6))) (xgFrame il40) rfl 4 (by decide) (hnw.use 1193 n1193 rfl) (fun _ h9 => h9) rfl (tyX4_ok 4 (by decide)) rfl rfl (Nat.le_of_ble_eq_true rfl) dX5_push_100 (fun H locs hP hD hS => ?_)
        obtain ⟨V49, hV49⟩ : ∃ z, z = up2 V47 71 (Int32.toNatClampNeg (V 5 6)) p3 := ⟨_, rfl⟩
        have ew50 : (xw ad kk V47 L Z).set (336 + (Int32.toNatClampNeg (V 5 6))) ((Z.fa (Int32.toNatClampNeg (V 5 6))), .inr (4, (xfFrame V47 (Int32.toNatClampNeg (V 5 6))).set 4 (.int p3))) = xw ad kk V49 L Z := by rw [hV49]; exact xpFrame_component il40
        have hP : va_P D vwCl (xw ad kk V49 L Z) H := by rw [← ew50]; exact hP
        have hD : va_D A (xw ad kk V49 L Z) := by rw [← ew50]; exact hD
        have hMV49 : rgd bX V49 := hMV47.put hV49 (show (-1) ≤ p3.toInt ∧ p3.toInt ≤ 23 from by (first | exact om_b5ea211f5a81 rg_p3.1 rg_p3.2 | omega))
        have agV49 : agr [(5, 6), (5, 9)] [67, 68, 69, 70, 71, 72, 73, 74, 75, 76, 77, 78, 79, 80, 81, 82, 83, 84, 85] V V49 := agV47.up hV49 rfl
        refine lv_aload hx hb dX5_push_103 (lv_at hl 0 rfl) ?_
        refine lv_iload hx hb dX5_push_105 (lv_at hl 6 rfl) ?_
        refine va_putN (D := D) (ci := 4) (v := .int p4) (ty := tyX4 5) (fs := (xfFrame V49 (Int32.toNatClampNeg (V 5 6)))) (C := RX4) (T := TX4) (N := 19) hx hb hg inX4 tyX4 tyX4_ok nmX4 hown hK hP hD hS (336 + (Int32.toNatClampNeg (V 5 6))) (xgFrame il40) rfl 5 (by decide) (hnw.use 1194 n1194 rfl) (fun _ h9 => h9) rfl (tyX4_ok 5 (by decide)) rfl rfl (Nat.le_of_ble_eq_true rfl) dX5_push_107 (fun H locs hP hD hS => ?_)
        obtain ⟨V51, hV51⟩ : ∃ z, z = up2 V49 72 (Int32.toNatClampNeg (V 5 6)) p4 := ⟨_, rfl⟩
        have ew52 : (xw ad kk V49 L Z).set (336 + (Int32.toNatClampNeg (V 5 6))) ((Z.fa (Int32.toNatClampNeg (V 5 6))), .inr (4, (xfFrame V49 (Int32.toNatClampNeg (V 5 6))).set 5 (.int p4))) = xw ad kk V51 L Z := by rw [hV51]; exact xpFrame_scope il40
        have hP : va_P D vwCl (xw ad kk V51 L Z) H := by rw [← ew52]; exact hP
        have hD : va_D A (xw ad kk V51 L Z) := by rw [← ew52]; exact hD
        have hMV51 : rgd bX V51 := hMV49.put hV51 (show 0 ≤ p4.toInt ∧ p4.toInt ≤ 39 from by (first | exact om_13ba01c174fe rg_p4.1 rg_p4.2 | omega))
        have agV51 : agr [(5, 6), (5, 9)] [67, 68, 69, 70, 71, 72, 73, 74, 75, 76, 77, 78, 79, 80, 81, 82, 83, 84, 85] V V51 := agV49.up hV51 rfl
        refine lv_aload hx hb dX5_push_110 (lv_at hl 0 rfl) ?_
        refine lv_iconst (v := 0) hx hb dX5_push_112 (by decide) ?_
        refine va_putN (D := D) (ci := 4) (v := .int 0) (ty := tyX4 8) (fs := (xfFrame V51 (Int32.toNatClampNeg (V 5 6)))) (C := RX4) (T := TX4) (N := 19) hx hb hg inX4 tyX4 tyX4_ok nmX4 hown hK hP hD hS (336 + (Int32.toNatClampNeg (V 5 6))) (xgFrame il40) rfl 8 (by decide) (hnw.use 1197 n1197 rfl) (fun _ h9 => h9) rfl (tyX4_ok 8 (by decide)) rfl rfl (Nat.le_of_ble_eq_true rfl) dX5_push_113 (fun H locs hP hD hS => ?_)
        obtain ⟨V53, hV53⟩ : ∃ z, z = up2 V51 75 (Int32.toNatClampNeg (V 5 6)) 0 := ⟨_, rfl⟩
        have ew54 : (xw ad kk V51 L Z).set (336 + (Int32.toNatClampNeg (V 5 6))) ((Z.fa (Int32.toNatClampNeg (V 5 6))), .inr (4, (xfFrame V51 (Int32.toNatClampNeg (V 5 6))).set 8 (.int 0))) = xw ad kk V53 L Z := by rw [hV53]; exact xpFrame_position il40
        have hP : va_P D vwCl (xw ad kk V53 L Z) H := by rw [← ew54]; exact hP
        have hD : va_D A (xw ad kk V53 L Z) := by rw [← ew54]; exact hD
        have hMV53 : rgd bX V53 := hMV51.put hV53 (show 0 ≤ Int32.toInt 0 ∧ Int32.toInt 0 ≤ 12 from by decide)
        have agV53 : agr [(5, 6), (5, 9)] [67, 68, 69, 70, 71, 72, 73, 74, 75, 76, 77, 78, 79, 80, 81, 82, 83, 84, 85] V V53 := agV51.up hV53 rfl
        refine lv_aload hx hb dX5_push_116 (lv_at hl 0 rfl) ?_
        refine lv_iconst (v := 0) hx hb dX5_push_118 (by decide) ?_
        refine va_putN (D := D) (ci := 4) (v := .int 0) (ty := tyX4 9) (fs := (xfFrame V53 (Int32.toNatClampNeg (V 5 6)))) (C := RX4) (T := TX4) (N := 19) hx hb hg inX4 tyX4 tyX4_ok nmX4 hown hK hP hD hS (336 + (Int32.toNatClampNeg (V 5 6))) (xgFrame il40) rfl 9 (by decide) (hnw.use 1198 n1198 rfl) (fun _ h9 => h9) rfl (tyX4_ok 9 (by decide)) rfl rfl (Nat.le_of_ble_eq_true rfl) dX5_push_119 (fun H locs hP hD hS => ?_)
        obtain ⟨V55, hV55⟩ : ∃ z, z = up2 V53 76 (Int32.toNatClampNeg (V 5 6)) 0 := ⟨_, rfl⟩
        have ew56 : (xw ad kk V53 L Z).set (336 + (Int32.toNatClampNeg (V 5 6))) ((Z.fa (Int32.toNatClampNeg (V 5 6))), .inr (4, (xfFrame V53 (Int32.toNatClampNeg (V 5 6))).set 9 (.int 0))) = xw ad kk V55 L Z := by rw [hV55]; exact xpFrame_item il40
        have hP : va_P D vwCl (xw ad kk V55 L Z) H := by rw [← ew56]; exact hP
        have hD : va_D A (xw ad kk V55 L Z) := by rw [← ew56]; exact hD
        have hMV55 : rgd bX V55 := hMV53.put hV55 (i_full _)
        have agV55 : agr [(5, 6), (5, 9)] [67, 68, 69, 70, 71, 72, 73, 74, 75, 76, 77, 78, 79, 80, 81, 82, 83, 84, 85] V V55 := agV53.up hV55 rfl
        refine lv_aload hx hb dX5_push_122 (lv_at hl 0 rfl) ?_
        refine lv_iconst (v := 0) hx hb dX5_push_124 (by decide) ?_
        refine va_putN (D := D) (ci := 4) (v := .int 0) (ty := tyX4 16) (fs := (xfFrame V55 (Int32.toNatClampNeg (V 5 6)))) (C := RX4) (T := TX4) (N := 19) hx hb hg inX4 tyX4 tyX4_ok nmX4 hown hK hP hD hS (336 + (Int32.toNatClampNeg (V 5 6))) (xgFrame il40) rfl 16 (by decide) (hnw.use 1205 n1205 rfl) (fun _ h9 => h9) rfl (tyX4_ok 16 (by decide)) rfl rfl (Nat.le_of_ble_eq_true rfl) dX5_push_125 (fun H locs hP hD hS => ?_)
        obtain ⟨V57, hV57⟩ : ∃ z, z = up2 V55 83 (Int32.toNatClampNeg (V 5 6)) 0 := ⟨_, rfl⟩
        have ew58 : (xw ad kk V55 L Z).set (336 + (Int32.toNatClampNeg (V 5 6))) ((Z.fa (Int32.toNatClampNeg (V 5 6))), .inr (4, (xfFrame V55 (Int32.toNatClampNeg (V 5 6))).set 16 (.int 0))) = xw ad kk V57 L Z := by rw [hV57]; exact xpFrame_spent il40
        have hP : va_P D vwCl (xw ad kk V57 L Z) H := by rw [← ew58]; exact hP
        have hD : va_D A (xw ad kk V57 L Z) := by rw [← ew58]; exact hD
        have hMV57 : rgd bX V57 := hMV55.put hV57 (show 0 ≤ Int32.toInt 0 ∧ Int32.toInt 0 ≤ 1 from by decide)
        have agV57 : agr [(5, 6), (5, 9)] [67, 68, 69, 70, 71, 72, 73, 74, 75, 76, 77, 78, 79, 80, 81, 82, 83, 84, 85] V V57 := agV55.up hV57 rfl
        refine lv_aload_n hx hb dX5_push_128 rfl (lv_at hl 1 rfl) ?_
        refine lv_iconst (v := 0) hx hb dX5_push_129 (by decide) ?_
        refine va_put (D := D) (ci := 5) (v := .int 0) (ty := tyX5 9) (fs := (xfMachine ad V57 L Z)) (C := RX5) (T := TX5) (N := 15) hx hb hg inX5 tyX5 tyX5_ok nmX5 hown hK hP hD hS 5 xgMachine rfl 9 (by decide) (hg _ w676) (fun _ h9 => h9) rfl (tyX5_ok 9 (by decide)) rfl rfl (Nat.le_of_ble_eq_true rfl) dX5_push_130 (fun H locs hP hD hS => ?_)
        obtain ⟨V59, hV59⟩ : ∃ z, z = up2 V57 5 9 0 := ⟨_, rfl⟩
        have ew60 : (xw ad kk V57 L Z).set 5 ((ad 5), .inr (5, (xfMachine ad V57 L Z).set 9 (.int 0))) = xw ad kk V59 L Z := by rw [hV59]; exact xw_ss (by decide) rfl (xb_si (by decide))
        have hP : va_P D vwCl (xw ad kk V59 L Z) H := by rw [← ew60]; exact hP
        have hD : va_D A (xw ad kk V59 L Z) := by rw [← ew60]; exact hD
        have hMV59 : rgd bX V59 := hMV57.put hV59 (by decide)
        have agV59 : agr [(5, 6), (5, 9)] [67, 68, 69, 70, 71, 72, 73, 74, 75, 76, 77, 78, 79, 80, 81, 82, 83, 84, 85] V V59 := agV57.up hV59 rfl
        refine lv_aload hx hb dX5_push_133 (lv_at hl 0 rfl) ?_
        have pq61 : (V59 5 6).toInt = z37.toInt := congrArg Int32.toInt ((up2_k hV59 (by decide)).trans ((up2_o hV57 (by decide)).trans ((up2_o hV55 (by decide)).trans ((up2_o hV53 (by decide)).trans ((up2_o hV51 (by decide)).trans ((up2_o hV49 (by decide)).trans ((up2_o hV47 (by decide)).trans ((up2_o hV45 (by decide)).trans ((up2_o hV43 (by decide)).trans ((up2_o hV41 (by decide)).trans (up2_s hV38)))))))))))
        have pq62 : (V59 5 9).toInt = 0 := (congrArg Int32.toInt (up2_s hV59)).trans (by decide)
        have me63 : ME V V59 (Int32.toNatClampNeg (V 5 6)) := (ME.up (ME.up (ME.up (ME.up (ME.up (ME.up (ME.up (ME.up (ME.up (ME.up (ME.up ME.rf hV38 (Or.inr (by omega))) hV41 (Or.inl ⟨by decide, by decide, Nat.le_refl _⟩)) hV43 (Or.inl ⟨by decide, by decide, Nat.le_refl _⟩)) hV45 (Or.inl ⟨by decide, by decide, Nat.le_refl _⟩)) hV47 (Or.inl ⟨by decide, by decide, Nat.le_refl _⟩)) hV49 (Or.inl ⟨by decide, by decide, Nat.le_refl _⟩)) hV51 (Or.inl ⟨by decide, by decide, Nat.le_refl _⟩)) hV53 (Or.inl ⟨by decide, by decide, Nat.le_refl _⟩)) hV55 (Or.inl ⟨by decide, by decide, Nat.le_refl _⟩)) hV57 (Or.inl ⟨by decide, by decide, Nat.le_refl _⟩)) hV59 (Or.inr (by omega)))
        have rp64 : Z.ln = Z.ln ∧ Z.nf ≤ 400 := ⟨rfl, by omega⟩
        refine W.know (fun kr1 kr2 => ?_)
        refine W.widen (k := zcc Z) (n := zss Z) (Nat.sub_le _ _) (Nat.sub_le _ _) ?_
        exact W.aret (v := .ref (Z.fa (Int32.toNatClampNeg (V 5 6)))) hx hb hr (Or.inl ⟨_, rfl⟩) (Or.inr ⟨_, rfl⟩) (fun t ht hW => ⟨⟨(V59, L, Z, (Int32.toNatClampNeg (V 5 6))), rfl, ⟨hMV59, agV59, rfl, zoZ, il40, me63, ⟨((up2_o hV59 (by decide)).trans ((up2_o hV57 (by decide)).trans ((up2_o hV55 (by decide)).trans ((up2_o hV53 (by decide)).trans ((up2_o hV51 (by decide)).trans ((up2_o hV49 (by decide)).trans ((up2_o hV47 (by decide)).trans ((up2_o hV45 (by decide)).trans ((up2_o hV43 (by decide)).trans (up2_s hV41)))))))))), ((up2_o hV59 (by decide)).trans ((up2_o hV57 (by decide)).trans ((up2_o hV55 (by decide)).trans ((up2_o hV53 (by decide)).trans ((up2_o hV51 (by decide)).trans ((up2_o hV49 (by decide)).trans ((up2_o hV47 (by decide)).trans ((up2_o hV45 (by decide)).trans (up2_s hV43))))))))), ((up2_o hV59 (by decide)).trans ((up2_o hV57 (by decide)).trans ((up2_o hV55 (by decide)).trans ((up2_o hV53 (by decide)).trans ((up2_o hV51 (by decide)).trans ((up2_o hV49 (by decide)).trans (up2_s hV47))))))), ((up2_o hV59 (by decide)).trans ((up2_o hV57 (by decide)).trans ((up2_o hV55 (by decide)).trans ((up2_o hV53 (by decide)).trans ((up2_o hV51 (by decide)).trans (up2_s hV49)))))), ((up2_o hV59 (by decide)).trans ((up2_o hV57 (by decide)).trans ((up2_o hV55 (by decide)).trans (up2_s hV53)))), ((up2_o hV59 (by decide)).trans ((up2_o hV57 (by decide)).trans (up2_s hV55)))⟩, (show ((Int32.toNatClampNeg (V 5 6)) : Int) + 1 = (V59 5 6).toInt from by (first | exact om_b4017f2d8f07 kc33 hz37 pq61 | omega)), (show ((Int32.toNatClampNeg (V 5 6)) : Int) ≤ (V 5 6).toInt ∧ (V 5 6).toInt ≤ ((Int32.toNatClampNeg (V 5 6)) : Int) + 1 from by (first | exact om_ceb1c66e0444 kc33 | omega)), (show (V59 5 9).toInt = 0 from by (first | exact om_b66ba74381d5 pq62 | omega)), rp64⟩, ⟨by rw [ht]; exact hP, va_K.moved hW.alike hK, hD⟩, by rw [ht]; exact kr1, by rw [ht]; exact kr2⟩, hS.F ht⟩) hS.2.2 dX5_push_135
    · skip
      refine g_topv (v := .null) (congrArg va_rf (if_neg hfn)) ?_
      refine lv_ifnonnullN hx hb dX5_push_19 ?_
      refine lv_aload_n hx hb dX5_push_22 rfl (lv_at hl 0 rfl) ?_
      refine va_get (D := D) (ci := 5) (v := .ref (ad 35)) (fs := (xfMachine ad V L Z)) (C := RX5) (T := TX5) (N := 15) hx hb hg inX5 hown hK hP 5 xgMachine rfl 2 (by decide) (hg _ w669) (fun _ h9 => h9) rfl dX5_push_23 ?_
      refine lv_aload_n hx hb dX5_push_26 rfl (lv_at hl 0 rfl) ?_
      refine va_get (D := D) (ci := 5) (v := .int (V 5 6)) (fs := (xfMachine ad V L Z)) (C := RX5) (T := TX5) (N := 15) hx hb hg inX5 hown hK hP 5 xgMachine rfl 6 (by decide) (hg _ w673) (fun _ h9 => h9) rfl dX5_push_27 ?_
      have zm := zc_more (Z := Z) (by omega)
      have zm0 := zm 0
      refine va_new (ci := 4) (fs := [.int 0, .int 0, .int 0, .int 0, .int 0, .int 0, .int 0, .int 0, .int 0, .int 0, .int 0, .int 0, .int 0, .int 0, .int 0, .int 0, .int 0, .int 0, .int 0]) (C := RX4) (T := TX4) (N := 19) hx hb hg inX4 tyX4 tyX4_ok hown (hg _ w665) (hg _ w1184) (hg _ w180) hK hP hD hS hA rfl nfX4 (by show zcc Z - zcc Z + 1 ≤ zcc Z; omega) (by show zss Z - zss Z + 19 ≤ zss Z; omega) dX5_push_30 (fun qn H hP hD hS => ?_)
      refine lv_dup hx hb dX5_push_33 rfl ?_
      refine gE_void (g_runIN (As := []) (rest := [.ref qn, .int (V 5 6), .ref (ad 35)]) (wc := []) (tc := []) hx hb hml hown hg gw_self hP hD hK hS hA hnw hgk [] [] (by decide) rfl rfl (c_Frame_init l D ks H.size qn) n1185 w1186 w180 w1187 rfl hdS_yX4_init ⟨Nat.le_of_ble_eq_true rfl, Nat.le_of_ble_eq_true rfl⟩ rfl hl.1 rfl (Nat.le_of_ble_eq_true rfl) dX5_push_34 ⟨(by show zcc Z - zcc Z + 1 + 0 ≤ zcc Z; omega), (by show zss Z - zss Z + 19 + 0 ≤ zss Z; omega)⟩) hP hD hK hS hA (fun _ H locs _ hP hD hK hS => ?_)
      have kcn : (Int32.toNatClampNeg (V 5 6)) = Z.nf := by omega
      refine va_astq (D := D) (i := (V 5 6)) (v := qn) (r := (RX4, TX4, 19)) hx hb hK hP hD hS 35 28 (336 + Z.nf) 4 rfl rfl xw_new rfl (i_in (a := ((V 5 6)).toInt) rfl (by omega)) dX5_push_37 (fun H locs hP hD hS => ?_)
      obtain ⟨Z66, hZ66⟩ : ∃ z, z = Z.more qn := ⟨_, rfl⟩
      obtain ⟨V65, hV65⟩ : ∃ z, z = frz V Z.nf := ⟨_, rfl⟩
      have hP : va_P D vwCl (xw ad kk V65 L Z66) H := by rw [hZ66, hV65, ← xw_frz2 kcn]; exact hP
      have hD : va_D A (xw ad kk V65 L Z66) := by rw [hZ66, hV65, ← xw_frz2 kcn]; exact hD
      have hK : va_K D vwCl (xty kk Z66) s := by rw [hZ66]; exact hK
      have hMV65 : rgd bX V65 := by rw [hV65]; exact rgd_frz hMV
      have ajV65 : agr [] [67, 68, 69, 70, 71, 72, 73, 74, 75, 76, 77, 78, 79, 80, 81, 82, 83, 84, 85] V V65 := by rw [hV65]; exact frz_ag
      have agV65 : agr [(5, 6), (5, 9)] [67, 68, 69, 70, 71, 72, 73, 74, 75, 76, 77, 78, 79, 80, 81, 82, 83, 84, 85] V V65 := agV.tr ajV65 (by decide) (by decide)
      have zmq := zm qn
      have zcZ66 : zcc Z66 + 1 = zcc Z := by rw [hZ66]; exact zmq.1
      have zsZ66 : zss Z66 + 19 = zss Z := by rw [hZ66]; exact zmq.2
      have zlZ66 : ZL Z Z66 := by rw [hZ66]; exact ZL.more (by omega)
      have zoZ66 : ZL Z Z66 := zlZ66
      have zkZ66 : Z66.nf = Z.nf + 1 := by rw [hZ66]; rfl
      have zgZ66 : Z66.ln = Z.ln := by rw [hZ66]; rfl
      refine W.know (fun kx1 kx2 => ?_)
      have kx1 : H.size ≤ s.heap.size + (zcc Z - zcc Z + 1) := kx1
      have kx2 : tot H ≤ tot s.heap + (zss Z - zss Z + 19) := kx2
      refine W.tight (k := zcc Z - zcc Z66) (n := zss Z - zss Z66) (by omega) (by omega) ?_
      refine lv_aload_n hx hb dX5_push_38 rfl (lv_at hl 0 rfl) ?_
      refine va_get (D := D) (ci := 5) (v := .ref (ad 35)) (fs := (xfMachine ad V65 L Z66)) (C := RX5) (T := TX5) (N := 15) hx hb hg inX5 hown hK hP 5 xgMachine rfl 2 (by decide) (hg _ w669) (fun _ h9 => h9) rfl dX5_push_39 ?_
      refine lv_aload_n hx hb dX5_push_42 rfl (lv_at hl 0 rfl) ?_
      refine va_get (D := D) (ci := 5) (v := .int (V65 5 6)) (fs := (xfMachine ad V65 L Z66)) (C := RX5) (T := TX5) (N := 15) hx hb hg inX5 hown hK hP 5 xgMachine rfl 6 (by decide) (hg _ w673) (fun _ h9 => h9) rfl dX5_push_43 ?_
      refine g_top (v := (V 5 6)) (ajV65 5 6 rfl) ?_
      refine lv_sipush (v := 400) hx hb dX5_push_46 (by decide) ?_
      refine lv_icmp_ge (tgt := 66) hx hb dX5_push_49 (by decide) (fun c67 => ?_) (fun c67 => ?_)
      · skip
        have f68 : 400 ≤ ((V 5 6)).toInt := b_le (by decide) rfl c67
        exfalso; (first | exact om_f1788462d221 f32 f68 | omega)
      · skip
        have f69 : ((V 5 6)).toInt < 400 := b_nle (by decide) rfl c67
        refine lv_aload_n hx hb dX5_push_52 rfl (lv_at hl 0 rfl) ?_
        refine lv_dup hx hb dX5_push_53 rfl ?_
        refine va_get (D := D) (ci := 5) (v := .int (V65 5 6)) (fs := (xfMachine ad V65 L Z66)) (C := RX5) (T := TX5) (N := 15) hx hb hg inX5 hown hK hP 5 xgMachine rfl 6 (by decide) (hg _ w673) (fun _ h9 => h9) rfl dX5_push_54 ?_
        refine g_top (v := (V 5 6)) (ajV65 5 6 rfl) ?_
        refine lv_dup_x1 hx hb dX5_push_57 rfl rfl ?_
        refine lv_iconst (v := 1) hx hb dX5_push_58 (by decide) ?_
        refine lv_iadd hx hb dX5_push_59 ?_
        refine lv_topi (fun z70 ez70 => ?_)
        have hz70 : z70.toInt = ((V 5 6)).toInt + 1 := i_add ez70 rfl (by decide) (by (first | exact om_d5ec5fa1ac53 kdp f32 kcn | omega))
        refine va_put (D := D) (ci := 5) (v := .int z70) (ty := tyX5 6) (fs := (xfMachine ad V65 L Z66)) (C := RX5) (T := TX5) (N := 15) hx hb hg inX5 tyX5 tyX5_ok nmX5 hown hK hP hD hS 5 xgMachine rfl 6 (by decide) (hg _ w673) (fun _ h9 => h9) rfl (tyX5_ok 6 (by decide)) rfl rfl (Nat.le_of_ble_eq_true rfl) dX5_push_60 (fun H locs hP hD hS => ?_)
        obtain ⟨V71, hV71⟩ : ∃ z, z = up2 V65 5 6 z70 := ⟨_, rfl⟩
        have ew72 : (xw ad kk V65 L Z66).set 5 ((ad 5), .inr (5, (xfMachine ad V65 L Z66).set 6 (.int z70))) = xw ad kk V71 L Z66 := by rw [hV71]; exact xw_ss (by decide) rfl (xb_si (by decide))
        have hP : va_P D vwCl (xw ad kk V71 L Z66) H := by rw [← ew72]; exact hP
        have hD : va_D A (xw ad kk V71 L Z66) := by rw [← ew72]; exact hD
        have hMV71 : rgd bX V71 := hMV65.put hV71 (show 0 ≤ z70.toInt ∧ z70.toInt ≤ 400 from by (first | exact om_30e08f75bde7 kdp f32 kcn hz70 | omega))
        have agV71 : agr [(5, 6), (5, 9)] [67, 68, 69, 70, 71, 72, 73, 74, 75, 76, 77, 78, 79, 80, 81, 82, 83, 84, 85] V V71 := agV65.up hV71 rfl
        refine lv_goto (tgt := 69) hx hb dX5_push_63 (by decide) ?_
        refine va_aldq (D := D) (i := (V 5 6)) hx hb hK hP 35 28 rfl rfl (i_in (a := ((V 5 6)).toInt) rfl (by (first | exact om_6ce50590c6c7 kdp f32 kcn | omega))) dX5_push_69 ?_
        refine g_topv (v := .ref (Z66.fa (Int32.toNatClampNeg (V 5 6)))) (by exact congrArg va_rf (if_pos (by omega))) ?_
        have il73 : (Int32.toNatClampNeg (V 5 6)) < Z66.nf := by (first | exact om_843ad58ddfba kcn zkZ66 | omega)
        refine lv_astore (lv' := [(6, .ref (Z66.fa (Int32.toNatClampNeg (V 5 6)))), (0, .ref (ad 5)), (1, .int p0), (2, .int p1), (3, .int p2), (4, .int p3), (5, .int p4)]) hx hb dX5_push_70 hl (by decide) rfl (fun ls hl => ?_)
        refine lv_aload hx hb dX5_push_72 (lv_at hl 0 rfl) ?_
        refine lv_iload_n hx hb dX5_push_74 rfl (lv_at hl 2 rfl) ?_
        refine va_putN (D := D) (ci := 4) (v := .int p0) (ty := tyX4 0) (fs := (xfFrame V71 (Int32.toNatClampNeg (V 5 6)))) (C := RX4) (T := TX4) (N := 19) hx hb hg inX4 tyX4 tyX4_ok nmX4 hown hK hP hD hS (336 + (Int32.toNatClampNeg (V 5 6))) (xgFrame il73) rfl 0 (by decide) (hnw.use 1189 n1189 rfl) (fun _ h9 => h9) rfl (tyX4_ok 0 (by decide)) rfl rfl (Nat.le_of_ble_eq_true rfl) dX5_push_75 (fun H locs hP hD hS => ?_)
        obtain ⟨V74, hV74⟩ : ∃ z, z = up2 V71 67 (Int32.toNatClampNeg (V 5 6)) p0 := ⟨_, rfl⟩
        have ew75 : (xw ad kk V71 L Z66).set (336 + (Int32.toNatClampNeg (V 5 6))) ((Z66.fa (Int32.toNatClampNeg (V 5 6))), .inr (4, (xfFrame V71 (Int32.toNatClampNeg (V 5 6))).set 0 (.int p0))) = xw ad kk V74 L Z66 := by rw [hV74]; exact xpFrame_kind il73
        have hP : va_P D vwCl (xw ad kk V74 L Z66) H := by rw [← ew75]; exact hP
        have hD : va_D A (xw ad kk V74 L Z66) := by rw [← ew75]; exact hD
        have hMV74 : rgd bX V74 := hMV71.put hV74 (i_full _)
        have agV74 : agr [(5, 6), (5, 9)] [67, 68, 69, 70, 71, 72, 73, 74, 75, 76, 77, 78, 79, 80, 81, 82, 83, 84, 85] V V74 := agV71.up hV74 rfl
        refine lv_aload hx hb dX5_push_78 (lv_at hl 0 rfl) ?_
        refine lv_iconst (v := 0) hx hb dX5_push_80 (by decide) ?_
        refine va_putN (D := D) (ci := 4) (v := .int 0) (ty := tyX4 1) (fs := (xfFrame V74 (Int32.toNatClampNeg (V 5 6)))) (C := RX4) (T := TX4) (N := 19) hx hb hg inX4 tyX4 tyX4_ok nmX4 hown hK hP hD hS (336 + (Int32.toNatClampNeg (V 5 6))) (xgFrame il73) rfl 1 (by decide) (hnw.use 1190 n1190 rfl) (fun _ h9 => h9) rfl (tyX4_ok 1 (by decide)) rfl rfl (Nat.le_of_ble_eq_true rfl) dX5_push_81 (fun H locs hP hD hS => ?_)
        obtain ⟨V76, hV76⟩ : ∃ z, z = up2 V74 68 (Int32.toNatClampNeg (V 5 6)) 0 := ⟨_, rfl⟩
        have ew77 : (xw ad kk V74 L Z66).set (336 + (Int32.toNatClampNeg (V 5 6))) ((Z66.fa (Int32.toNatClampNeg (V 5 6))), .inr (4, (xfFrame V74 (Int32.toNatClampNeg (V 5 6))).set 1 (.int 0))) = xw ad kk V76 L Z66 := by rw [hV76]; exact xpFrame_phase il73
        have hP : va_P D vwCl (xw ad kk V76 L Z66) H := by rw [← ew77]; exact hP
        have hD : va_D A (xw ad kk V76 L Z66) := by rw [← ew77]; exact hD
        have hMV76 : rgd bX V76 := hMV74.put hV76 (i_full _)
        have agV76 : agr [(5, 6), (5, 9)] [67, 68, 69, 70, 71, 72, 73, 74, 75, 76, 77, 78, 79, 80, 81, 82, 83, 84, 85] V V76 := agV74.up hV76 rfl
        refine lv_aload hx hb dX5_push_84 (lv_at hl 0 rfl) ?_
        refine lv_iload_n hx hb dX5_push_86 rfl (lv_at hl 3 rfl) ?_
        refine va_putN (D := D) (ci := 4) (v := .int p1) (ty := tyX4 2) (fs := (xfFrame V76 (Int32.toNatClampNeg (V 5 6)))) (C := RX4) (T := TX4) (N := 19) hx hb hg inX4 tyX4 tyX4_ok nmX4 hown hK hP hD hS (336 + (Int32.toNatClampNeg (V 5 6))) (xgFrame il73) rfl 2 (by decide) (hnw.use 1191 n1191 rfl) (fun _ h9 => h9) rfl (tyX4_ok 2 (by decide)) rfl rfl (Nat.le_of_ble_eq_true rfl) dX5_push_87 (fun H locs hP hD hS => ?_)
        obtain ⟨V78, hV78⟩ : ∃ z, z = up2 V76 69 (Int32.toNatClampNeg (V 5 6)) p1 := ⟨_, rfl⟩
        have ew79 : (xw ad kk V76 L Z66).set (336 + (Int32.toNatClampNeg (V 5 6))) ((Z66.fa (Int32.toNatClampNeg (V 5 6))), .inr (4, (xfFrame V76 (Int32.toNatClampNeg (V 5 6))).set 2 (.int p1))) = xw ad kk V78 L Z66 := by rw [hV78]; exact xpFrame_level il73
        have hP : va_P D vwCl (xw ad kk V78 L Z66) H := by rw [← ew79]; exact hP
        have hD : va_D A (xw ad kk V78 L Z66) := by rw [← ew79]; exact hD
        have hMV78 : rgd bX V78 := hMV76.put hV78 (i_full _)
        have agV78 : agr [(5, 6), (5, 9)] [67, 68, 69, 70, 71, 72, 73, 74, 75, 76, 77, 78, 79, 80, 81, 82, 83, 84, 85] V V78 := agV76.up hV78 rfl
        refine lv_aload hx hb dX5_push_90 (lv_at hl 0 rfl) ?_
        refine lv_iload_n hx hb dX5_push_92 rfl (lv_at hl 4 rfl) ?_
        refine va_putN (D := D) (ci := 4) (v := .int p2) (ty := tyX4 3) (fs := (xfFrame V78 (Int32.toNatClampNeg (V 5 6)))) (C := RX4) (T := TX4) (N := 19) hx hb hg inX4 tyX4 tyX4_ok nmX4 hown hK hP hD hS (336 + (Int32.toNatClampNeg (V 5 6))) (xgFrame il73) rfl 3 (by decide) (hnw.use 1192 n1192 rfl) (fun _ h9 => h9) rfl (tyX4_ok 3 (by decide)) rfl rfl (Nat.le_of_ble_eq_true rfl) dX5_push_93 (fun H locs hP hD hS => ?_)
        obtain ⟨V80, hV80⟩ : ∃ z, z = up2 V78 70 (Int32.toNatClampNeg (V 5 6)) p2 := ⟨_, rfl⟩
        have ew81 : (xw ad kk V78 L Z66).set (336 + (Int32.toNatClampNeg (V 5 6))) ((Z66.fa (Int32.toNatClampNeg (V 5 6))), .inr (4, (xfFrame V78 (Int32.toNatClampNeg (V 5 6))).set 3 (.int p2))) = xw ad kk V80 L Z66 := by rw [hV80]; exact xpFrame_object il73
        have hP : va_P D vwCl (xw ad kk V80 L Z66) H := by rw [← ew81]; exact hP
        have hD : va_D A (xw ad kk V80 L Z66) := by rw [← ew81]; exact hD
        have hMV80 : rgd bX V80 := hMV78.put hV80 (i_full _)
        have agV80 : agr [(5, 6), (5, 9)] [67, 68, 69, 70, 71, 72, 73, 74, 75, 76, 77, 78, 79, 80, 81, 82, 83, 84, 85] V V80 := agV78.up hV80 rfl
        refine lv_aload hx hb dX5_push_96 (lv_at hl 0 rfl) ?_
        refine lv_iload hx hb dX5_push_98 (lv_at hl 5 rfl) ?_
        refine va_putN (D := D) (ci := 4) (v := .int p3) (ty := tyX4 4) (fs := (xfFrame V80 (Int32.toNatClampNeg (V 5 6)))) (C := RX4) (T := TX4) (N := 19) hx hb hg inX4 tyX4 tyX4_ok nmX4 hown hK hP hD hS (336 + (Int32.toNatClampNeg (V 5 6))) (xgFrame il73) rfl 4 (by decide) (hnw.use 1193 n1193 rfl) (fun _ h9 => h9) rfl (tyX4_ok 4 (by decide)) rfl rfl (Nat.le_of_ble_eq_true rfl) dX5_push_100 (fun H locs hP hD hS => ?_)
        obtain ⟨V82, hV82⟩ : ∃ z, z = up2 V80 71 (Int32.toNatClampNeg (V 5 6)) p3 := ⟨_, rfl⟩
        have ew83 : (xw ad kk V80 L Z66).set (336 + (Int32.toNatClampNeg (V 5 6))) ((Z66.fa (Int32.toNatClampNeg (V 5 6))), .inr (4, (xfFrame V80 (Int32.toNatClampNeg (V 5 6))).set 4 (.int p3))) = xw ad kk V82 L Z66 := by rw [hV82]; exact xpFrame_component il73
        have hP : va_P D vwCl (xw ad kk V82 L Z66) H := by rw [← ew83]; exact hP
        have hD : va_D A (xw ad kk V82 L Z66) := by rw [← ew83]; exact hD
        have hMV82 : rgd bX V82 := hMV80.put hV82 (show (-1) ≤ p3.toInt ∧ p3.toInt ≤ 23 from by (first | exact om_b5ea211f5a81 rg_p3.1 rg_p3.2 | omega))
        have agV82 : agr [(5, 6), (5, 9)] [67, 68, 69, 70, 71, 72, 73, 74, 75, 76, 77, 78, 79, 80, 81, 82, 83, 84, 85] V V82 := agV80.up hV82 rfl
        refine lv_aload hx hb dX5_push_103 (lv_at hl 0 rfl) ?_
        refine lv_iload hx hb dX5_push_105 (lv_at hl 6 rfl) ?_
        refine va_putN (D := D) (ci := 4) (v := .int p4) (ty := tyX4 5) (fs := (xfFrame V82 (Int32.toNatClampNeg (V 5 6)))) (C := RX4) (T := TX4) (N := 19) hx hb hg inX4 tyX4 tyX4_ok nmX4 hown hK hP hD hS (336 + (Int32.toNatClampNeg (V 5 6))) (xgFrame il73) rfl 5 (by decide) (hnw.use 1194 n1194 rfl) (fun _ h9 => h9) rfl (tyX4_ok 5 (by decide)) rfl rfl (Nat.le_of_ble_eq_true rfl) dX5_push_107 (fun H locs hP hD hS => ?_)
        obtain ⟨V84, hV84⟩ : ∃ z, z = up2 V82 72 (Int32.toNatClampNeg (V 5 6)) p4 := ⟨_, rfl⟩
        have ew85 : (xw ad kk V82 L Z66).set (336 + (Int32.toNatClampNeg (V 5 6))) ((Z66.fa (Int32.toNatClampNeg (V 5 6))), .inr (4, (xfFrame V82 (Int32.toNatClampNeg (V 5 6))).set 5 (.int p4))) = xw ad kk V84 L Z66 := by rw [hV84]; exact xpFrame_scope il73
        have hP : va_P D vwCl (xw ad kk V84 L Z66) H := by rw [← ew85]; exact hP
        have hD : va_D A (xw ad kk V84 L Z66) := by rw [← ew85]; exact hD
        have hMV84 : rgd bX V84 := hMV82.put hV84 (show 0 ≤ p4.toInt ∧ p4.toInt ≤ 39 from by (first | exact om_13ba01c174fe rg_p4.1 rg_p4.2 | omega))
        have agV84 : agr [(5, 6), (5, 9)] [67, 68, 69, 70, 71, 72, 73, 74, 75, 76, 77, 78, 79, 80, 81, 82, 83, 84, 85] V V84 := agV82.up hV84 rfl
        refine lv_aload hx hb dX5_push_110 (lv_at hl 0 rfl) ?_
        refine lv_iconst (v := 0) hx hb dX5_push_112 (by decide) ?_
        refine va_putN (D := D) (ci := 4) (v := .int 0) (ty := tyX4 8) (fs := (xfFrame V84 (Int32.toNatClampNeg (V 5 6)))) (C := RX4) (T := TX4) (N := 19) hx hb hg inX4 tyX4 tyX4_ok nmX4 hown hK hP hD hS (336 + (Int32.toNatClampNeg (V 5 6))) (xgFrame il73) rfl 8 (by decide) (hnw.use 1197 n1197 rfl) (fun _ h9 => h9) rfl (tyX4_ok 8 (by decide)) rfl rfl (Nat.le_of_ble_eq_true rfl) dX5_push_113 (fun H locs hP hD hS => ?_)
        obtain ⟨V86, hV86⟩ : ∃ z, z = up2 V84 75 (Int32.toNatClampNeg (V 5 6)) 0 := ⟨_, rfl⟩
        have ew87 : (xw ad kk V84 L Z66).set (336 + (Int32.toNatClampNeg (V 5 6))) ((Z66.fa (Int32.toNatClampNeg (V 5 6))), .inr (4, (xfFrame V84 (Int32.toNatClampNeg (V 5 6))).set 8 (.int 0))) = xw ad kk V86 L Z66 := by rw [hV86]; exact xpFrame_position il73
        have hP : va_P D vwCl (xw ad kk V86 L Z66) H := by rw [← ew87]; exact hP
        have hD : va_D A (xw ad kk V86 L Z66) := by rw [← ew87]; exact hD
        have hMV86 : rgd bX V86 := hMV84.put hV86 (show 0 ≤ Int32.toInt 0 ∧ Int32.toInt 0 ≤ 12 from by decide)
        have agV86 : agr [(5, 6), (5, 9)] [67, 68, 69, 70, 71, 72, 73, 74, 75, 76, 77, 78, 79, 80, 81, 82, 83, 84, 85] V V86 := agV84.up hV86 rfl
        refine lv_aload hx hb dX5_push_116 (lv_at hl 0 rfl) ?_
        refine lv_iconst (v := 0) hx hb dX5_push_118 (by decide) ?_
        refine va_putN (D := D) (ci := 4) (v := .int 0) (ty := tyX4 9) (fs := (xfFrame V86 (Int32.toNatClampNeg (V 5 6)))) (C := RX4) (T := TX4) (N := 19) hx hb hg inX4 tyX4 tyX4_ok nmX4 hown hK hP hD hS (336 + (Int32.toNatClampNeg (V 5 6))) (xgFrame il73) rfl 9 (by decide) (hnw.use 1198 n1198 rfl) (fun _ h9 => h9) rfl (tyX4_ok 9 (by decide)) rfl rfl (Nat.le_of_ble_eq_true rfl) dX5_push_119 (fun H locs hP hD hS => ?_)
        obtain ⟨V88, hV88⟩ : ∃ z, z = up2 V86 76 (Int32.toNatClampNeg (V 5 6)) 0 := ⟨_, rfl⟩
        have ew89 : (xw ad kk V86 L Z66).set (336 + (Int32.toNatClampNeg (V 5 6))) ((Z66.fa (Int32.toNatClampNeg (V 5 6))), .inr (4, (xfFrame V86 (Int32.toNatClampNeg (V 5 6))).set 9 (.int 0))) = xw ad kk V88 L Z66 := by rw [hV88]; exact xpFrame_item il73
        have hP : va_P D vwCl (xw ad kk V88 L Z66) H := by rw [← ew89]; exact hP
        have hD : va_D A (xw ad kk V88 L Z66) := by rw [← ew89]; exact hD
        have hMV88 : rgd bX V88 := hMV86.put hV88 (i_full _)
        have agV88 : agr [(5, 6), (5, 9)] [67, 68, 69, 70, 71, 72, 73, 74, 75, 76, 77, 78, 79, 80, 81, 82, 83, 84, 85] V V88 := agV86.up hV88 rfl
        refine lv_aload hx hb dX5_push_122 (lv_at hl 0 rfl) ?_
        refine lv_iconst (v := 0) hx hb dX5_push_124 (by decide) ?_
        refine va_putN (D := D) (ci := 4) (v := .int 0) (ty := tyX4 16) (fs := (xfFrame V88 (Int32.toNatClampNeg (V 5 6)))) (C := RX4) (T := TX4) (N := 19) hx hb hg inX4 tyX4 tyX4_ok nmX4 hown hK hP hD hS (336 + (Int32.toNatClampNeg (V 5 6))) (xgFrame il73) rfl 16 (by decide) (hnw.use 1205 n1205 rfl) (fun _ h9 => h9) rfl (tyX4_ok 16 (by decide)) rfl rfl (Nat.le_of_ble_eq_true rfl) dX5_push_125 (fun H locs hP hD hS => ?_)
        obtain ⟨V90, hV90⟩ : ∃ z, z = up2 V88 83 (Int32.toNatClampNeg (V 5 6)) 0 := ⟨_, rfl⟩
        have ew91 : (xw ad kk V88 L Z66).set (336 + (Int32.toNatClampNeg (V 5 6))) ((Z66.fa (Int32.toNatClampNeg (V 5 6))), .inr (4, (xfFrame V88 (Int32.toNatClampNeg (V 5 6))).set 16 (.int 0))) = xw ad kk V90 L Z66 := by rw [hV90]; exact xpFrame_spent il73
        have hP : va_P D vwCl (xw ad kk V90 L Z66) H := by rw [← ew91]; exact hP
        have hD : va_D A (xw ad kk V90 L Z66) := by rw [← ew91]; exact hD
        have hMV90 : rgd bX V90 := hMV88.put hV90 (show 0 ≤ Int32.toInt 0 ∧ Int32.toInt 0 ≤ 1 from by decide)
        have agV90 : agr [(5, 6), (5, 9)] [67, 68, 69, 70, 71, 72, 73, 74, 75, 76, 77, 78, 79, 80, 81, 82, 83, 84, 85] V V90 := agV88.up hV90 rfl
        refine lv_aload_n hx hb dX5_push_128 rfl (lv_at hl 1 rfl) ?_
        refine lv_iconst (v := 0) hx hb dX5_push_129 (by decide) ?_
        refine va_put (D := D) (ci := 5) (v := .int 0) (ty := tyX5 9) (fs := (xfMachine ad V90 L Z66)) (C := RX5) (T := TX5) (N := 15) hx hb hg inX5 tyX5 tyX5_ok nmX5 hown hK hP hD hS 5 xgMachine rfl 9 (by decide) (hg _ w676) (fun _ h9 => h9) rfl (tyX5_ok 9 (by decide)) rfl rfl (Nat.le_of_ble_eq_true rfl) dX5_push_130 (fun H locs hP hD hS => ?_)
        obtain ⟨V92, hV92⟩ : ∃ z, z = up2 V90 5 9 0 := ⟨_, rfl⟩
        have ew93 : (xw ad kk V90 L Z66).set 5 ((ad 5), .inr (5, (xfMachine ad V90 L Z66).set 9 (.int 0))) = xw ad kk V92 L Z66 := by rw [hV92]; exact xw_ss (by decide) rfl (xb_si (by decide))
        have hP : va_P D vwCl (xw ad kk V92 L Z66) H := by rw [← ew93]; exact hP
        have hD : va_D A (xw ad kk V92 L Z66) := by rw [← ew93]; exact hD
        have hMV92 : rgd bX V92 := hMV90.put hV92 (by decide)
        have agV92 : agr [(5, 6), (5, 9)] [67, 68, 69, 70, 71, 72, 73, 74, 75, 76, 77, 78, 79, 80, 81, 82, 83, 84, 85] V V92 := agV90.up hV92 rfl
        refine lv_aload hx hb dX5_push_133 (lv_at hl 0 rfl) ?_
        have pq94 : (V92 5 6).toInt = z70.toInt := congrArg Int32.toInt ((up2_k hV92 (by decide)).trans ((up2_o hV90 (by decide)).trans ((up2_o hV88 (by decide)).trans ((up2_o hV86 (by decide)).trans ((up2_o hV84 (by decide)).trans ((up2_o hV82 (by decide)).trans ((up2_o hV80 (by decide)).trans ((up2_o hV78 (by decide)).trans ((up2_o hV76 (by decide)).trans ((up2_o hV74 (by decide)).trans (up2_s hV71)))))))))))
        have pq95 : (V92 5 9).toInt = 0 := (congrArg Int32.toInt (up2_s hV92)).trans (by decide)
        have me96 : ME V V92 (Int32.toNatClampNeg (V 5 6)) := (ME.up (ME.up (ME.up (ME.up (ME.up (ME.up (ME.up (ME.up (ME.up (ME.up (ME.up (ME.tr ME.rf (by rw [hV65]; exact ME.zz (by omega))) hV71 (Or.inr (by omega))) hV74 (Or.inl ⟨by decide, by decide, Nat.le_refl _⟩)) hV76 (Or.inl ⟨by decide, by decide, Nat.le_refl _⟩)) hV78 (Or.inl ⟨by decide, by decide, Nat.le_refl _⟩)) hV80 (Or.inl ⟨by decide, by decide, Nat.le_refl _⟩)) hV82 (Or.inl ⟨by decide, by decide, Nat.le_refl _⟩)) hV84 (Or.inl ⟨by decide, by decide, Nat.le_refl _⟩)) hV86 (Or.inl ⟨by decide, by decide, Nat.le_refl _⟩)) hV88 (Or.inl ⟨by decide, by decide, Nat.le_refl _⟩)) hV90 (Or.inl ⟨by decide, by decide, Nat.le_refl _⟩)) hV92 (Or.inr (by omega)))
        have rp97 : Z66.ln = Z.ln ∧ Z66.nf ≤ 400 := ⟨zgZ66, by omega⟩
        refine W.know (fun kr1 kr2 => ?_)
        refine W.widen (k := zcc Z) (n := zss Z) (Nat.sub_le _ _) (Nat.sub_le _ _) ?_
        exact W.aret (v := .ref (Z66.fa (Int32.toNatClampNeg (V 5 6)))) hx hb hr (Or.inl ⟨_, rfl⟩) (Or.inr ⟨_, rfl⟩) (fun t ht hW => ⟨⟨(V92, L, Z66, (Int32.toNatClampNeg (V 5 6))), rfl, ⟨hMV92, agV92, rfl, zoZ66, il73, me96, ⟨((up2_o hV92 (by decide)).trans ((up2_o hV90 (by decide)).trans ((up2_o hV88 (by decide)).trans ((up2_o hV86 (by decide)).trans ((up2_o hV84 (by decide)).trans ((up2_o hV82 (by decide)).trans ((up2_o hV80 (by decide)).trans ((up2_o hV78 (by decide)).trans ((up2_o hV76 (by decide)).trans (up2_s hV74)))))))))), ((up2_o hV92 (by decide)).trans ((up2_o hV90 (by decide)).trans ((up2_o hV88 (by decide)).trans ((up2_o hV86 (by decide)).trans ((up2_o hV84 (by decide)).trans ((up2_o hV82 (by decide)).trans ((up2_o hV80 (by decide)).trans ((up2_o hV78 (by decide)).trans (up2_s hV76))))))))), ((up2_o hV92 (by decide)).trans ((up2_o hV90 (by decide)).trans ((up2_o hV88 (by decide)).trans ((up2_o hV86 (by decide)).trans ((up2_o hV84 (by decide)).trans ((up2_o hV82 (by decide)).trans (up2_s hV80))))))), ((up2_o hV92 (by decide)).trans ((up2_o hV90 (by decide)).trans ((up2_o hV88 (by decide)).trans ((up2_o hV86 (by decide)).trans ((up2_o hV84 (by decide)).trans (up2_s hV82)))))), ((up2_o hV92 (by decide)).trans ((up2_o hV90 (by decide)).trans ((up2_o hV88 (by decide)).trans (up2_s hV86)))), ((up2_o hV92 (by decide)).trans ((up2_o hV90 (by decide)).trans (up2_s hV88)))⟩, (show ((Int32.toNatClampNeg (V 5 6)) : Int) + 1 = (V92 5 6).toInt from by (first | exact om_b4017f2d8f07 kdp hz70 pq94 | omega)), (show ((Int32.toNatClampNeg (V 5 6)) : Int) ≤ (V 5 6).toInt ∧ (V 5 6).toInt ≤ ((Int32.toNatClampNeg (V 5 6)) : Int) + 1 from by (first | exact om_ceb1c66e0444 kdp | omega)), (show (V92 5 9).toInt = 0 from by (first | exact om_b66ba74381d5 pq95 | omega)), rp97⟩, ⟨by rw [ht]; exact hP, va_K.moved hW.alike hK, hD⟩, by rw [ht]; exact kr1, by rw [ht]; exact kr2⟩, hS.F ht⟩) hS.2.2 dX5_push_135
end
section
theorem w1183 : Cond.code yX5_push cX5_push 7 (some (.object "WiringHouse$Frame")) ∈ GW := gw_k tk9_5 68 (rfl) rfl
theorem w1180 : Cond.methodLink RX5 119 yX5_push ∈ GW := gw_k tk9_5 65 (by decide +kernel) rfl
theorem w1182 : Cond.instanceMethod yX5_push ∈ GW := gw_k tk9_5 67 (by decide +kernel) rfl
theorem w43 : Cond.selects RX5 yX5_push yX5_push ∈ GW := gw_mem 43 (by decide +kernel) rfl
theorem hdV_yX5_push : yX5_push.cls = RX5 ∧ yX5_push.cls ≠ "java/lang/invoke/MethodHandle" ∧ yX5_push.cls ≠ "java/lang/invoke/VarHandle" ∧ (parseMethodDescriptor yX5_push.desc).map (fun d => d.parameters.length) = some 5 := by decide +kernel
theorem n1202 : lw_tbl[1202]? = some (Cond.fieldLinkNest RX5 123 "WiringHouse$Frame" "mark" "I" "WiringHouse") := la9 (n := 155) (i := 1047) lz9 (la9 (n := 240) (i := 807) ln9_1 (la9 (n := 240) (i := 567) ln9_2 (la9 (n := 240) (i := 327) ln9_3 (la9 (n := 240) (i := 87) ln9_4 (lb9 (i := 87) (by decide +kernel))))))
theorem w1327 : Cond.code yX8_componentOf cX8_componentOf 2 (some .int) ∈ GW := gw_k tk9_5 212 (rfl) rfl
theorem w1324 : Cond.methodLink RX5 126 yX8_componentOf ∈ GW := gw_k tk9_5 209 (by decide +kernel) rfl
theorem w1325 : Cond.instanceMethod yX8_componentOf ∈ GW := gw_k tk9_5 210 (by decide +kernel) rfl
theorem w1326 : Cond.selects RX8 yX8_componentOf yX8_componentOf ∈ GW := gw_k tk9_5 211 (by decide +kernel) rfl
theorem hdV_yX8_componentOf : yX8_componentOf.cls = RX8 ∧ yX8_componentOf.cls ≠ "java/lang/invoke/MethodHandle" ∧ yX8_componentOf.cls ≠ "java/lang/invoke/VarHandle" ∧ (parseMethodDescriptor yX8_componentOf.desc).map (fun d => d.parameters.length) = some 1 := by decide +kernel
theorem n1195 : lw_tbl[1195]? = some (Cond.fieldLinkNest RX5 132 "WiringHouse$Frame" "method" "I" "WiringHouse") := la9 (n := 155) (i := 1040) lz9 (la9 (n := 240) (i := 800) ln9_1 (la9 (n := 240) (i := 560) ln9_2 (la9 (n := 240) (i := 320) ln9_3 (la9 (n := 240) (i := 80) ln9_4 (lb9 (i := 80) (by decide +kernel))))))
theorem n1196 : lw_tbl[1196]? = some (Cond.fieldLinkNest RX5 135 "WiringHouse$Frame" "arg" "I" "WiringHouse") := la9 (n := 155) (i := 1041) lz9 (la9 (n := 240) (i := 801) ln9_1 (la9 (n := 240) (i := 561) ln9_2 (la9 (n := 240) (i := 321) ln9_3 (la9 (n := 240) (i := 81) ln9_4 (lb9 (i := 81) (by decide +kernel))))))
theorem n382 : lw_tbl[382]? = some (Cond.fieldLinkNest RX5 138 "WiringHouse$Stock" "places" "[I" "WiringHouse") := la9 (n := 155) (i := 227) lz9 (lb9 (i := 227) (by decide +kernel))
theorem n1206 : lw_tbl[1206]? = some (Cond.fieldLinkNest RX5 141 "WiringHouse$Frame" "at" "I" "WiringHouse") := la9 (n := 155) (i := 1051) lz9 (la9 (n := 240) (i := 811) ln9_1 (la9 (n := 240) (i := 571) ln9_2 (la9 (n := 240) (i := 331) ln9_3 (la9 (n := 240) (i := 91) ln9_4 (lb9 (i := 91) (by decide +kernel))))))
theorem dk9_dX5_pushRoot_0_0 : dOk cX5_pushRoot [(0, .aload_n 0, 1), (1, .iconst 0, 1), (2, .iload_n 3, 1), (3, .iconst (-1), 1), (4, .iload_n 1, 1), (5, .iload_n 2, 1), (6, .invokevirtual 119, 3), (9, .astore 4, 2), (11, .aload 4, 2), (13, .aload_n 0, 1), (14, .getfield 46, 3), (17, .putfield 123, 3), (20, .return_, 1)] = true := by decide +kernel
theorem dX5_pushRoot_0 : decode cX5_pushRoot 0 = .ok (.aload_n 0, 1) := dr9 dk9_dX5_pushRoot_0_0 0 (0, .aload_n 0, 1) rfl
theorem dX5_pushRoot_1 : decode cX5_pushRoot 1 = .ok (.iconst 0, 1) := dr9 dk9_dX5_pushRoot_0_0 1 (1, .iconst 0, 1) rfl
theorem dX5_pushRoot_2 : decode cX5_pushRoot 2 = .ok (.iload_n 3, 1) := dr9 dk9_dX5_pushRoot_0_0 2 (2, .iload_n 3, 1) rfl
theorem dX5_pushRoot_3 : decode cX5_pushRoot 3 = .ok (.iconst (-1), 1) := dr9 dk9_dX5_pushRoot_0_0 3 (3, .iconst (-1), 1) rfl
theorem dX5_pushRoot_4 : decode cX5_pushRoot 4 = .ok (.iload_n 1, 1) := dr9 dk9_dX5_pushRoot_0_0 4 (4, .iload_n 1, 1) rfl
theorem dX5_pushRoot_5 : decode cX5_pushRoot 5 = .ok (.iload_n 2, 1) := dr9 dk9_dX5_pushRoot_0_0 5 (5, .iload_n 2, 1) rfl
theorem dX5_pushRoot_6 : decode cX5_pushRoot 6 = .ok (.invokevirtual 119, 3) := dr9 dk9_dX5_pushRoot_0_0 6 (6, .invokevirtual 119, 3) rfl
theorem dX5_pushRoot_9 : decode cX5_pushRoot 9 = .ok (.astore 4, 2) := dr9 dk9_dX5_pushRoot_0_0 7 (9, .astore 4, 2) rfl
theorem dX5_pushRoot_11 : decode cX5_pushRoot 11 = .ok (.aload 4, 2) := dr9 dk9_dX5_pushRoot_0_0 8 (11, .aload 4, 2) rfl
theorem dX5_pushRoot_13 : decode cX5_pushRoot 13 = .ok (.aload_n 0, 1) := dr9 dk9_dX5_pushRoot_0_0 9 (13, .aload_n 0, 1) rfl
theorem dX5_pushRoot_14 : decode cX5_pushRoot 14 = .ok (.getfield 46, 3) := dr9 dk9_dX5_pushRoot_0_0 10 (14, .getfield 46, 3) rfl
theorem dX5_pushRoot_17 : decode cX5_pushRoot 17 = .ok (.putfield 123, 3) := dr9 dk9_dX5_pushRoot_0_0 11 (17, .putfield 123, 3) rfl
theorem dX5_pushRoot_20 : decode cX5_pushRoot 20 = .ok (.return_, 1) := dr9 dk9_dX5_pushRoot_0_0 12 (20, .return_, 1) rfl
theorem dk9_dX5_pushCall_0_0 : dOk cX5_pushCall [(0, .aload_n 0, 1), (1, .iconst 2, 1), (2, .iload 5, 2), (4, .iload_n 1, 1), (5, .aload_n 0, 1), (6, .getfield 28, 3), (9, .iload_n 1, 1), (10, .invokevirtual 126, 3), (13, .iload_n 2, 1), (14, .invokevirtual 119, 3), (17, .astore 6, 2), (19, .aload 6, 2), (21, .iload_n 3, 1), (22, .putfield 132, 3), (25, .aload 6, 2), (27, .iload 4, 2), (29, .putfield 135, 3), (32, .return_, 1)] = true := by decide +kernel
theorem dX5_pushCall_0 : decode cX5_pushCall 0 = .ok (.aload_n 0, 1) := dr9 dk9_dX5_pushCall_0_0 0 (0, .aload_n 0, 1) rfl
theorem dX5_pushCall_1 : decode cX5_pushCall 1 = .ok (.iconst 2, 1) := dr9 dk9_dX5_pushCall_0_0 1 (1, .iconst 2, 1) rfl
theorem dX5_pushCall_2 : decode cX5_pushCall 2 = .ok (.iload 5, 2) := dr9 dk9_dX5_pushCall_0_0 2 (2, .iload 5, 2) rfl
theorem dX5_pushCall_4 : decode cX5_pushCall 4 = .ok (.iload_n 1, 1) := dr9 dk9_dX5_pushCall_0_0 3 (4, .iload_n 1, 1) rfl
theorem dX5_pushCall_5 : decode cX5_pushCall 5 = .ok (.aload_n 0, 1) := dr9 dk9_dX5_pushCall_0_0 4 (5, .aload_n 0, 1) rfl
theorem dX5_pushCall_6 : decode cX5_pushCall 6 = .ok (.getfield 28, 3) := dr9 dk9_dX5_pushCall_0_0 5 (6, .getfield 28, 3) rfl
theorem dX5_pushCall_9 : decode cX5_pushCall 9 = .ok (.iload_n 1, 1) := dr9 dk9_dX5_pushCall_0_0 6 (9, .iload_n 1, 1) rfl
theorem dX5_pushCall_10 : decode cX5_pushCall 10 = .ok (.invokevirtual 126, 3) := dr9 dk9_dX5_pushCall_0_0 7 (10, .invokevirtual 126, 3) rfl
theorem dX5_pushCall_13 : decode cX5_pushCall 13 = .ok (.iload_n 2, 1) := dr9 dk9_dX5_pushCall_0_0 8 (13, .iload_n 2, 1) rfl
theorem dX5_pushCall_14 : decode cX5_pushCall 14 = .ok (.invokevirtual 119, 3) := dr9 dk9_dX5_pushCall_0_0 9 (14, .invokevirtual 119, 3) rfl
theorem dX5_pushCall_17 : decode cX5_pushCall 17 = .ok (.astore 6, 2) := dr9 dk9_dX5_pushCall_0_0 10 (17, .astore 6, 2) rfl
theorem dX5_pushCall_19 : decode cX5_pushCall 19 = .ok (.aload 6, 2) := dr9 dk9_dX5_pushCall_0_0 11 (19, .aload 6, 2) rfl
theorem dX5_pushCall_21 : decode cX5_pushCall 21 = .ok (.iload_n 3, 1) := dr9 dk9_dX5_pushCall_0_0 12 (21, .iload_n 3, 1) rfl
theorem dX5_pushCall_22 : decode cX5_pushCall 22 = .ok (.putfield 132, 3) := dr9 dk9_dX5_pushCall_0_0 13 (22, .putfield 132, 3) rfl
theorem dX5_pushCall_25 : decode cX5_pushCall 25 = .ok (.aload 6, 2) := dr9 dk9_dX5_pushCall_0_0 14 (25, .aload 6, 2) rfl
theorem dX5_pushCall_27 : decode cX5_pushCall 27 = .ok (.iload 4, 2) := dr9 dk9_dX5_pushCall_0_0 15 (27, .iload 4, 2) rfl
theorem dX5_pushCall_29 : decode cX5_pushCall 29 = .ok (.putfield 135, 3) := dr9 dk9_dX5_pushCall_0_0 16 (29, .putfield 135, 3) rfl
theorem dX5_pushCall_32 : decode cX5_pushCall 32 = .ok (.return_, 1) := dr9 dk9_dX5_pushCall_0_0 17 (32, .return_, 1) rfl
theorem dk9_dX5_pushClose_0_0 : dOk cX5_pushClose [(0, .aload_n 0, 1), (1, .iconst 5, 1), (2, .iload_n 2, 1), (3, .iload_n 1, 1), (4, .aload_n 0, 1), (5, .getfield 28, 3), (8, .iload_n 1, 1), (9, .invokevirtual 126, 3), (12, .aload_n 0, 1), (13, .getfield 28, 3), (16, .getfield 138, 3), (19, .iload_n 1, 1), (20, .iaload, 1), (21, .invokevirtual 119, 3), (24, .pop, 1), (25, .return_, 1)] = true := by decide +kernel
theorem dX5_pushClose_0 : decode cX5_pushClose 0 = .ok (.aload_n 0, 1) := dr9 dk9_dX5_pushClose_0_0 0 (0, .aload_n 0, 1) rfl
theorem dX5_pushClose_1 : decode cX5_pushClose 1 = .ok (.iconst 5, 1) := dr9 dk9_dX5_pushClose_0_0 1 (1, .iconst 5, 1) rfl
theorem dX5_pushClose_2 : decode cX5_pushClose 2 = .ok (.iload_n 2, 1) := dr9 dk9_dX5_pushClose_0_0 2 (2, .iload_n 2, 1) rfl
theorem dX5_pushClose_3 : decode cX5_pushClose 3 = .ok (.iload_n 1, 1) := dr9 dk9_dX5_pushClose_0_0 3 (3, .iload_n 1, 1) rfl
theorem dX5_pushClose_4 : decode cX5_pushClose 4 = .ok (.aload_n 0, 1) := dr9 dk9_dX5_pushClose_0_0 4 (4, .aload_n 0, 1) rfl
theorem dX5_pushClose_5 : decode cX5_pushClose 5 = .ok (.getfield 28, 3) := dr9 dk9_dX5_pushClose_0_0 5 (5, .getfield 28, 3) rfl
theorem dX5_pushClose_8 : decode cX5_pushClose 8 = .ok (.iload_n 1, 1) := dr9 dk9_dX5_pushClose_0_0 6 (8, .iload_n 1, 1) rfl
theorem dX5_pushClose_9 : decode cX5_pushClose 9 = .ok (.invokevirtual 126, 3) := dr9 dk9_dX5_pushClose_0_0 7 (9, .invokevirtual 126, 3) rfl
theorem dX5_pushClose_12 : decode cX5_pushClose 12 = .ok (.aload_n 0, 1) := dr9 dk9_dX5_pushClose_0_0 8 (12, .aload_n 0, 1) rfl
theorem dX5_pushClose_13 : decode cX5_pushClose 13 = .ok (.getfield 28, 3) := dr9 dk9_dX5_pushClose_0_0 9 (13, .getfield 28, 3) rfl
theorem dX5_pushClose_16 : decode cX5_pushClose 16 = .ok (.getfield 138, 3) := dr9 dk9_dX5_pushClose_0_0 10 (16, .getfield 138, 3) rfl
theorem dX5_pushClose_19 : decode cX5_pushClose 19 = .ok (.iload_n 1, 1) := dr9 dk9_dX5_pushClose_0_0 11 (19, .iload_n 1, 1) rfl
theorem dX5_pushClose_20 : decode cX5_pushClose 20 = .ok (.iaload, 1) := dr9 dk9_dX5_pushClose_0_0 12 (20, .iaload, 1) rfl
theorem dX5_pushClose_21 : decode cX5_pushClose 21 = .ok (.invokevirtual 119, 3) := dr9 dk9_dX5_pushClose_0_0 13 (21, .invokevirtual 119, 3) rfl
theorem dX5_pushClose_24 : decode cX5_pushClose 24 = .ok (.pop, 1) := dr9 dk9_dX5_pushClose_0_0 14 (24, .pop, 1) rfl
theorem dX5_pushClose_25 : decode cX5_pushClose 25 = .ok (.return_, 1) := dr9 dk9_dX5_pushClose_0_0 15 (25, .return_, 1) rfl
theorem dk9_dX5_pushWork_0_0 : dOk cX5_pushWork [(0, .aload_n 0, 1), (1, .iconst 4, 1), (2, .aload_n 1, 1), (3, .getfield 97, 3), (6, .aload_n 1, 1), (7, .getfield 100, 3), (10, .aload_n 1, 1), (11, .getfield 103, 3), (14, .aload_n 1, 1), (15, .getfield 106, 3), (18, .invokevirtual 119, 3), (21, .astore 4, 2), (23, .aload 4, 2), (25, .aload_n 1, 1), (26, .getfield 132, 3), (29, .putfield 132, 3), (32, .aload 4, 2), (34, .iload_n 3, 1), (35, .putfield 135, 3), (38, .aload 4, 2), (40, .iload_n 2, 1), (41, .putfield 141, 3), (44, .aload 4, 2), (46, .aload_n 0, 1)] = true ∧ dOk cX5_pushWork [(47, .getfield 43, 3), (50, .putfield 144, 3), (53, .aload 4, 2), (55, .areturn, 1)] = true := by decide +kernel
theorem dX5_pushWork_0 : decode cX5_pushWork 0 = .ok (.aload_n 0, 1) := dr9 dk9_dX5_pushWork_0_0.1 0 (0, .aload_n 0, 1) rfl
theorem dX5_pushWork_1 : decode cX5_pushWork 1 = .ok (.iconst 4, 1) := dr9 dk9_dX5_pushWork_0_0.1 1 (1, .iconst 4, 1) rfl
theorem dX5_pushWork_2 : decode cX5_pushWork 2 = .ok (.aload_n 1, 1) := dr9 dk9_dX5_pushWork_0_0.1 2 (2, .aload_n 1, 1) rfl
theorem dX5_pushWork_3 : decode cX5_pushWork 3 = .ok (.getfield 97, 3) := dr9 dk9_dX5_pushWork_0_0.1 3 (3, .getfield 97, 3) rfl
theorem dX5_pushWork_6 : decode cX5_pushWork 6 = .ok (.aload_n 1, 1) := dr9 dk9_dX5_pushWork_0_0.1 4 (6, .aload_n 1, 1) rfl
theorem dX5_pushWork_7 : decode cX5_pushWork 7 = .ok (.getfield 100, 3) := dr9 dk9_dX5_pushWork_0_0.1 5 (7, .getfield 100, 3) rfl
theorem dX5_pushWork_10 : decode cX5_pushWork 10 = .ok (.aload_n 1, 1) := dr9 dk9_dX5_pushWork_0_0.1 6 (10, .aload_n 1, 1) rfl
theorem dX5_pushWork_11 : decode cX5_pushWork 11 = .ok (.getfield 103, 3) := dr9 dk9_dX5_pushWork_0_0.1 7 (11, .getfield 103, 3) rfl
theorem dX5_pushWork_14 : decode cX5_pushWork 14 = .ok (.aload_n 1, 1) := dr9 dk9_dX5_pushWork_0_0.1 8 (14, .aload_n 1, 1) rfl
theorem dX5_pushWork_15 : decode cX5_pushWork 15 = .ok (.getfield 106, 3) := dr9 dk9_dX5_pushWork_0_0.1 9 (15, .getfield 106, 3) rfl
theorem dX5_pushWork_18 : decode cX5_pushWork 18 = .ok (.invokevirtual 119, 3) := dr9 dk9_dX5_pushWork_0_0.1 10 (18, .invokevirtual 119, 3) rfl
theorem dX5_pushWork_21 : decode cX5_pushWork 21 = .ok (.astore 4, 2) := dr9 dk9_dX5_pushWork_0_0.1 11 (21, .astore 4, 2) rfl
theorem dX5_pushWork_23 : decode cX5_pushWork 23 = .ok (.aload 4, 2) := dr9 dk9_dX5_pushWork_0_0.1 12 (23, .aload 4, 2) rfl
theorem dX5_pushWork_25 : decode cX5_pushWork 25 = .ok (.aload_n 1, 1) := dr9 dk9_dX5_pushWork_0_0.1 13 (25, .aload_n 1, 1) rfl
theorem dX5_pushWork_26 : decode cX5_pushWork 26 = .ok (.getfield 132, 3) := dr9 dk9_dX5_pushWork_0_0.1 14 (26, .getfield 132, 3) rfl
theorem dX5_pushWork_29 : decode cX5_pushWork 29 = .ok (.putfield 132, 3) := dr9 dk9_dX5_pushWork_0_0.1 15 (29, .putfield 132, 3) rfl
theorem dX5_pushWork_32 : decode cX5_pushWork 32 = .ok (.aload 4, 2) := dr9 dk9_dX5_pushWork_0_0.1 16 (32, .aload 4, 2) rfl
theorem dX5_pushWork_34 : decode cX5_pushWork 34 = .ok (.iload_n 3, 1) := dr9 dk9_dX5_pushWork_0_0.1 17 (34, .iload_n 3, 1) rfl
theorem dX5_pushWork_35 : decode cX5_pushWork 35 = .ok (.putfield 135, 3) := dr9 dk9_dX5_pushWork_0_0.1 18 (35, .putfield 135, 3) rfl
theorem dX5_pushWork_38 : decode cX5_pushWork 38 = .ok (.aload 4, 2) := dr9 dk9_dX5_pushWork_0_0.1 19 (38, .aload 4, 2) rfl
theorem dX5_pushWork_40 : decode cX5_pushWork 40 = .ok (.iload_n 2, 1) := dr9 dk9_dX5_pushWork_0_0.1 20 (40, .iload_n 2, 1) rfl
theorem dX5_pushWork_41 : decode cX5_pushWork 41 = .ok (.putfield 141, 3) := dr9 dk9_dX5_pushWork_0_0.1 21 (41, .putfield 141, 3) rfl
theorem dX5_pushWork_44 : decode cX5_pushWork 44 = .ok (.aload 4, 2) := dr9 dk9_dX5_pushWork_0_0.1 22 (44, .aload 4, 2) rfl
theorem dX5_pushWork_46 : decode cX5_pushWork 46 = .ok (.aload_n 0, 1) := dr9 dk9_dX5_pushWork_0_0.1 23 (46, .aload_n 0, 1) rfl
theorem dX5_pushWork_47 : decode cX5_pushWork 47 = .ok (.getfield 43, 3) := dr9 dk9_dX5_pushWork_0_0.2 0 (47, .getfield 43, 3) rfl
theorem dX5_pushWork_50 : decode cX5_pushWork 50 = .ok (.putfield 144, 3) := dr9 dk9_dX5_pushWork_0_0.2 1 (50, .putfield 144, 3) rfl
theorem dX5_pushWork_53 : decode cX5_pushWork 53 = .ok (.aload 4, 2) := dr9 dk9_dX5_pushWork_0_0.2 2 (53, .aload 4, 2) rfl
theorem dX5_pushWork_55 : decode cX5_pushWork 55 = .ok (.areturn, 1) := dr9 dk9_dX5_pushWork_0_0.2 3 (55, .areturn, 1) rfl
theorem dk9_dX5_pushInside_0_0 : dOk cX5_pushInside [(0, .aload_n 0, 1), (1, .iconst 3, 1), (2, .aload_n 1, 1), (3, .getfield 97, 3), (6, .aload_n 1, 1), (7, .getfield 100, 3), (10, .aload_n 1, 1), (11, .getfield 103, 3), (14, .aload_n 1, 1), (15, .getfield 106, 3), (18, .invokevirtual 119, 3), (21, .astore 4, 2), (23, .aload 4, 2), (25, .aload_n 1, 1), (26, .getfield 132, 3), (29, .putfield 132, 3), (32, .aload 4, 2), (34, .iload_n 3, 1), (35, .putfield 135, 3), (38, .aload 4, 2), (40, .iload_n 2, 1), (41, .putfield 109, 3), (44, .return_, 1)] = true := by decide +kernel
theorem dX5_pushInside_0 : decode cX5_pushInside 0 = .ok (.aload_n 0, 1) := dr9 dk9_dX5_pushInside_0_0 0 (0, .aload_n 0, 1) rfl
theorem dX5_pushInside_1 : decode cX5_pushInside 1 = .ok (.iconst 3, 1) := dr9 dk9_dX5_pushInside_0_0 1 (1, .iconst 3, 1) rfl
theorem dX5_pushInside_2 : decode cX5_pushInside 2 = .ok (.aload_n 1, 1) := dr9 dk9_dX5_pushInside_0_0 2 (2, .aload_n 1, 1) rfl
theorem dX5_pushInside_3 : decode cX5_pushInside 3 = .ok (.getfield 97, 3) := dr9 dk9_dX5_pushInside_0_0 3 (3, .getfield 97, 3) rfl
theorem dX5_pushInside_6 : decode cX5_pushInside 6 = .ok (.aload_n 1, 1) := dr9 dk9_dX5_pushInside_0_0 4 (6, .aload_n 1, 1) rfl
theorem dX5_pushInside_7 : decode cX5_pushInside 7 = .ok (.getfield 100, 3) := dr9 dk9_dX5_pushInside_0_0 5 (7, .getfield 100, 3) rfl
theorem dX5_pushInside_10 : decode cX5_pushInside 10 = .ok (.aload_n 1, 1) := dr9 dk9_dX5_pushInside_0_0 6 (10, .aload_n 1, 1) rfl
theorem dX5_pushInside_11 : decode cX5_pushInside 11 = .ok (.getfield 103, 3) := dr9 dk9_dX5_pushInside_0_0 7 (11, .getfield 103, 3) rfl
theorem dX5_pushInside_14 : decode cX5_pushInside 14 = .ok (.aload_n 1, 1) := dr9 dk9_dX5_pushInside_0_0 8 (14, .aload_n 1, 1) rfl
theorem dX5_pushInside_15 : decode cX5_pushInside 15 = .ok (.getfield 106, 3) := dr9 dk9_dX5_pushInside_0_0 9 (15, .getfield 106, 3) rfl
theorem dX5_pushInside_18 : decode cX5_pushInside 18 = .ok (.invokevirtual 119, 3) := dr9 dk9_dX5_pushInside_0_0 10 (18, .invokevirtual 119, 3) rfl
theorem dX5_pushInside_21 : decode cX5_pushInside 21 = .ok (.astore 4, 2) := dr9 dk9_dX5_pushInside_0_0 11 (21, .astore 4, 2) rfl
theorem dX5_pushInside_23 : decode cX5_pushInside 23 = .ok (.aload 4, 2) := dr9 dk9_dX5_pushInside_0_0 12 (23, .aload 4, 2) rfl
theorem dX5_pushInside_25 : decode cX5_pushInside 25 = .ok (.aload_n 1, 1) := dr9 dk9_dX5_pushInside_0_0 13 (25, .aload_n 1, 1) rfl
theorem dX5_pushInside_26 : decode cX5_pushInside 26 = .ok (.getfield 132, 3) := dr9 dk9_dX5_pushInside_0_0 14 (26, .getfield 132, 3) rfl
theorem dX5_pushInside_29 : decode cX5_pushInside 29 = .ok (.putfield 132, 3) := dr9 dk9_dX5_pushInside_0_0 15 (29, .putfield 132, 3) rfl
theorem dX5_pushInside_32 : decode cX5_pushInside 32 = .ok (.aload 4, 2) := dr9 dk9_dX5_pushInside_0_0 16 (32, .aload 4, 2) rfl
theorem dX5_pushInside_34 : decode cX5_pushInside 34 = .ok (.iload_n 3, 1) := dr9 dk9_dX5_pushInside_0_0 17 (34, .iload_n 3, 1) rfl
theorem dX5_pushInside_35 : decode cX5_pushInside 35 = .ok (.putfield 135, 3) := dr9 dk9_dX5_pushInside_0_0 18 (35, .putfield 135, 3) rfl
theorem dX5_pushInside_38 : decode cX5_pushInside 38 = .ok (.aload 4, 2) := dr9 dk9_dX5_pushInside_0_0 19 (38, .aload 4, 2) rfl
theorem dX5_pushInside_40 : decode cX5_pushInside 40 = .ok (.iload_n 2, 1) := dr9 dk9_dX5_pushInside_0_0 20 (40, .iload_n 2, 1) rfl
theorem dX5_pushInside_41 : decode cX5_pushInside 41 = .ok (.putfield 109, 3) := dr9 dk9_dX5_pushInside_0_0 21 (41, .putfield 109, 3) rfl
theorem dX5_pushInside_44 : decode cX5_pushInside 44 = .ok (.return_, 1) := dr9 dk9_dX5_pushInside_0_0 22 (44, .return_, 1) rfl
abbrev r_x_componentOf2 : Room := { frames := 1, cells := 0, slots := 0, locals := 21 }
abbrev q_x_componentOf2 (D : va_G) (ks : KS) (ad : Nat → Nat) (kk : Nat → ClassId) (V : Vf) (L : Lf) (Z : XZ) (p0 : Int32) (A : Nat → Prop) : Array Value → State → Outcome → State → Prop := va_Qi (fun (r : Int32) (_ : Unit) => (0 ≤ r.toInt ∧ r.toInt ≤ 23) ∧ (∀ n : Int, 0 < n → (∀ o : Nat, (o : Int) < (V 3 13).toInt → (V 26 o).toInt < n) → r.toInt < n)) (fun _ t => gq D A (xw ad kk V L Z) (xty kk Z) t) A
set_option maxHeartbeats 4000000 in
set_option maxRecDepth 100000 in
theorem x_componentOf2 (l : Launch) (D : va_G) (ks : KS) (sz : Nat) (ad : Nat → Nat) (kk : Nat → ClassId) (V : Vf) (L : Lf) (Z : XZ) (p0 : Int32) (hMV : rgd bX V)  : Met l yX8_componentOf (Cond.code yX8_componentOf cX8_componentOf 2 (some .int) :: GW) r_x_componentOf2 (va_Pc [.ref (ad 3), .int p0] (gp D ks (xw ad kk V L Z) (xty kk Z) sz)) (q_x_componentOf2 D ks ad kk V L Z p0 (va_A (xw ad kk V L Z) sz)) 0 0 (va_A (xw ad kk V L Z) sz) := by
  refine g_met (q_x_componentOf2 D ks ad kk V L Z p0) (by decide) (Nat.le_of_ble_eq_true rfl) ?_
  intro p e s m below meth c A ls H locs hx hb hr hml hown hg hlocks hin hnw hgk hP hK hD hS hA hl
  have hown : s.vm.findClass RX8 = some m.cls := hown
  have hl : lv_has ls 2 [(0, .ref (ad 3)), (1, .int p0)] := hl
  have hP : va_P D vwCl (xw ad kk V L Z) H := hP
  have hD : va_D A (xw ad kk V L Z) := hD
  have hK : va_K D vwCl (xty kk Z) s := hK
  refine lv_aload_n hx hb dX8_componentOf_0 rfl (lv_at hl 0 rfl) ?_
  refine lv_iload_n hx hb dX8_componentOf_1 rfl (lv_at hl 1 rfl) ?_
  refine gA_int (gA_runV (As := [.int p0]) (rest := []) (ci := 8) (q0 := 3) hx hb hml hown hg hP hD hK hS hA hnw hgk (x_has l D ks H.size ad kk V L Z p0 hMV ) w1300 w1301 w1302 w164 w1303 rfl xgStock hdV_yX8_has ⟨Nat.le_of_ble_eq_true rfl, Nat.le_of_ble_eq_true rfl⟩ rfl hl.1 rfl (Nat.le_of_ble_eq_true rfl) dX8_componentOf_2 ⟨Nat.le_of_ble_eq_true rfl, Nat.le_of_ble_eq_true rfl⟩) hP hD hK hS hA (fun z1 u2 H locs w3 hP hD hK hS => ?_)
  obtain ⟨rgz1, t4⟩ := w3
  have rgz1 : 0 ≤ z1.toInt ∧ z1.toInt ≤ 1 := rgz1
  have t4 : Imp (z1.toInt = 1) (0 ≤ p0.toInt ∧ p0.toInt < (V 3 13).toInt) := t4
  have r5 : 0 ≤ ((V 3 13)).toInt ∧ ((V 3 13)).toInt ≤ 300 := hMV 3 13
  refine lv_if_eq (tgt := 17) hx hb dX8_componentOf_5 (by decide) (fun c6 => ?_) (fun c6 => ?_)
  · skip
    have f7 : z1.toInt = 0 := b_eq rfl (by decide) c6
    refine lv_iconst (v := 0) hx hb dX8_componentOf_17 (by decide) ?_
    exact W.iret (v := 0) hx hb hr (fun t ht hW => ⟨⟨0, (), rfl, ⟨(by decide), (fun n h0 _ => h0)⟩, by rw [ht]; exact hP, va_K.moved hW.alike hK, hD⟩, hS.F ht⟩) hS.2.2 dX8_componentOf_18
  · skip
    have f8 : z1.toInt ≠ 0 := b_neq rfl (by decide) c6
    refine lv_aload_n hx hb dX8_componentOf_8 rfl (lv_at hl 0 rfl) ?_
    refine va_get (D := D) (ci := 8) (v := .ref (ad 23)) (fs := (xfStock ad V L Z)) (C := RX8) (T := TX8) (N := 16) hx hb hg inX8 hown hK hP 3 xgStock rfl 5 (by decide) (hg _ w379) (fun _ h9 => h9) rfl dX8_componentOf_9 ?_
    refine lv_iload_n hx hb dX8_componentOf_12 rfl (lv_at hl 1 rfl) ?_
    refine va_iald (D := D) (i := p0) hx hb hK hP 23 16 rfl rfl (i_in (a := p0.toInt) rfl (by first | exact om_e23680f16df4 r5.2 ((Imp.go t4 (imp_a (rgz1.1) (rgz1.2) (f8))).1) ((Imp.go t4 (imp_a (rgz1.1) (rgz1.2) (f8))).2) | first | omega | ((try (have i_t4 := Imp.go t4 (by omega))); omega))) dX8_componentOf_13 ?_
    have r9 : 0 ≤ ((V 26 (Int32.toNatClampNeg p0))).toInt ∧ ((V 26 (Int32.toNatClampNeg p0))).toInt ≤ 23 := hMV 26 (Int32.toNatClampNeg p0)
    refine lv_goto (tgt := 18) hx hb dX8_componentOf_14 (by decide) ?_
    have kcp := i_clamp (x := p0) rfl (by first | exact om_eafa9039069c ((Imp.go t4 (imp_a (rgz1.1) (rgz1.2) (f8))).1) | first | omega | ((try (have i_t4 := Imp.go t4 (by omega))); omega))
    exact W.iret (v := (V 26 (Int32.toNatClampNeg p0))) hx hb hr (fun t ht hW => ⟨⟨(V 26 (Int32.toNatClampNeg p0)), (), rfl, ⟨(show 0 ≤ ((V 26 (Int32.toNatClampNeg p0))).toInt ∧ ((V 26 (Int32.toNatClampNeg p0))).toInt ≤ 23 from by first | exact om_d3435e1acec6 r9.1 r9.2 | first | omega | ((try (have i_t4 := Imp.go t4 (by omega))); omega)), (fun n _ hh => hh _ (by first | omega | ((try (have i_t4 := Imp.go t4 (by omega))); omega)))⟩, by rw [ht]; exact hP, va_K.moved hW.alike hK, hD⟩, hS.F ht⟩) hS.2.2 dX8_componentOf_18
abbrev r_x_pushRoot (Z : XZ) : Room := { frames := 3, cells := zcc Z, slots := zss Z, locals := 66 }
abbrev q_x_pushRoot (D : va_G) (ks : KS) (ad : Nat → Nat) (kk : Nat → ClassId) (V : Vf) (L : Lf) (Z : XZ) (p0 : Int32) (p1 : Int32) (p2 : Int32) (b : Nat) (A : Nat → Prop) : Array Value → State → Outcome → State → Prop := qZv D (fun (u : Vf × Lf × XZ) => rgd bX u.1 ∧ agr [(5, 6), (5, 9)] [67, 68, 69, 70, 71, 72, 73, 74, 75, 76, 77, 78, 79, 80, 81, 82, 83, 84, 85] V u.1 ∧ u.2.1 = L ∧ ZL Z u.2.2 ∧ (MJ u.1 u.2.2 b)) (fun u => xw ad kk u.1 u.2.1 u.2.2) (fun u => xty kk u.2.2) (fun u => zcc Z - zcc u.2.2) (fun u => zss Z - zss u.2.2) A
set_option maxHeartbeats 4000000 in
set_option maxRecDepth 100000 in
theorem x_pushRoot (l : Launch) (D : va_G) (ks : KS) (sz : Nat) (ad : Nat → Nat) (kk : Nat → ClassId) (V : Vf) (L : Lf) (Z : XZ) (p0 : Int32) (p1 : Int32) (p2 : Int32) (b : Nat) (hMV : rgd bX V) (rg_p0 : (-1) ≤ p0.toInt ∧ p0.toInt ≤ 23) (rg_p1 : 0 ≤ p1.toInt ∧ p1.toInt ≤ 39) (hb2 : b < 2) (mt : MTr V Z b)  : Met l yX5_pushRoot (Cond.code yX5_pushRoot cX5_pushRoot 5 none :: GW) (r_x_pushRoot Z) (va_Pc [.ref (ad 5), .int p0, .int p1, .int p2] (gp D ks (xw ad kk V L Z) (xty kk Z) sz)) (q_x_pushRoot D ks ad kk V L Z p0 p1 p2 b (va_A (xw ad kk V L Z) sz)) (zcc Z) (zss Z) (va_A (xw ad kk V L Z) sz) := by
  refine g_met (q_x_pushRoot D ks ad kk V L Z p0 p1 p2 b) (by decide) (Nat.le_of_ble_eq_true rfl) ?_
  intro p e s m below meth c A ls H locs hx hb hr hml hown hg hlocks hin hnw hgk hP hK hD hS hA hl
  have hown : s.vm.findClass RX5 = some m.cls := hown
  have hl : lv_has ls 5 [(0, .ref (ad 5)), (1, .int p0), (2, .int p1), (3, .int p2)] := hl
  have hP : va_P D vwCl (xw ad kk V L Z) H := hP
  have hD : va_D A (xw ad kk V L Z) := hD
  have hK : va_K D vwCl (xty kk Z) s := hK
  have agV : agr [(5, 6), (5, 9)] [67, 68, 69, 70, 71, 72, 73, 74, 75, 76, 77, 78, 79, 80, 81, 82, 83, 84, 85] V V := agr.rf
  have zoZ : ZL Z Z := ZL.rf
  refine W.know (fun ka kb => ?_)
  refine W.tight (k := zcc Z - zcc Z) (n := zss Z - zss Z) (by omega) (by omega) ?_
  have r1 : 0 ≤ ((V 5 6)).toInt ∧ ((V 5 6)).toInt ≤ 400 := hMV 5 6
  have kdp := i_clamp (x := V 5 6) rfl (by (first | exact om_eafa9039069c r1.1 | omega))
  have hdn := MTr.dn mt (by (first | exact om_eafa9039069c r1.1 | omega))
  have mup := MTr.up mt
  have msz := mup.1
  have mbk := mup.2.2.2.1
  refine lv_aload_n hx hb dX5_pushRoot_0 rfl (lv_at hl 0 rfl) ?_
  refine lv_iconst (v := 0) hx hb dX5_pushRoot_1 (by decide) ?_
  refine lv_iload_n hx hb dX5_pushRoot_2 rfl (lv_at hl 3 rfl) ?_
  refine lv_iconst (v := (-1)) hx hb dX5_pushRoot_3 (by decide) ?_
  refine lv_iload_n hx hb dX5_pushRoot_4 rfl (lv_at hl 1 rfl) ?_
  refine lv_iload_n hx hb dX5_pushRoot_5 rfl (lv_at hl 2 rfl) ?_
  have r2 : Int32.toInt 0 = 0 := by decide
  have r3 : Int32.toInt (-1) = (-1) := by decide
  refine W.know (fun k5 k6 => ?_)
  obtain ⟨Hk4, hHk4⟩ : ∃ z, z = H := ⟨_, rfl⟩
  have k5 : Hk4.size ≤ s.heap.size + (zcc Z - zcc Z) := by rw [hHk4]; exact k5
  have k6 : tot Hk4 ≤ tot s.heap + (zss Z - zss Z) := by rw [hHk4]; exact k6
  refine gZ_ref (gA_runV (As := [.int 0, .int p2, .int (-1), .int p0, .int p1]) (rest := []) (ci := 5) (q0 := 5) hx hb hml hown hg hP hD hK hS hA hnw hgk (x_push l D ks H.size ad kk V L Z 0 p2 (-1) p0 p1 hMV (by (first | exact om_b5ea211f5a81 rg_p0.1 rg_p0.2 | omega)) (by (first | exact om_13ba01c174fe rg_p1.1 rg_p1.2 | omega)) (show (V 5 6).toInt ≤ (Z.nf : Int) from by (first | exact om_cbf4821a2053 hdn.1 | omega)) (show (Z.nf : Int) ≤ 400 from by (first | exact om_16a0bbaa0b2a hdn.2 | omega))) w1180 w1182 w43 w171 w1183 rfl xgMachine hdV_yX5_push ⟨Nat.le_of_ble_eq_true rfl, Nat.le_of_ble_eq_true rfl⟩ rfl hl.1 rfl (Nat.le_of_ble_eq_true rfl) dX5_pushRoot_6 ⟨z1 zoZ.1, z1 zoZ.2.1⟩) hD hS hA (fun u8 H locs w9 hP hD hK hS y10 y11 => ?_)
  obtain ⟨V12, L13, Z14, f15⟩ := u8
  obtain ⟨hMV12, ajV12, axL13, zlZ14, ilf15, t16, t17, t18, t19, t20, t21⟩ := w9
  have axL13 : L = L13 := Eq.symm axL13
  subst axL13
  have hP : va_P D vwCl (xw ad kk V12 L Z14) H := hP
  have hD : va_D A (xw ad kk V12 L Z14) := hD
  have hK : va_K D vwCl (xty kk Z14) s := hK
  have hMV12 : rgd bX V12 := hMV12
  have ajV12 : agr [(5, 6), (5, 9)] [67, 68, 69, 70, 71, 72, 73, 74, 75, 76, 77, 78, 79, 80, 81, 82, 83, 84, 85] V V12 := ajV12
  have agV12 : agr [(5, 6), (5, 9)] [67, 68, 69, 70, 71, 72, 73, 74, 75, 76, 77, 78, 79, 80, 81, 82, 83, 84, 85] V V12 := agV.tr ajV12 (by decide) (by decide)
  have zlZ14 : ZL Z Z14 := zlZ14
  have zoZ14 : ZL Z Z14 := ZL.tr zoZ zlZ14
  have ziZ14 := zlZ14.1
  have zjZ14 := zlZ14.2.1
  have zkZ14 := zlZ14.2.2.1
  have zmZ14 := zoZ14.1
  have znZ14 := zoZ14.2.1
  have zpZ_Z14 := zoZ.1
  have zqZ_Z14 := zoZ.2.1
  have y10 : H.size ≤ Hk4.size + (zcc Z - zcc Z14) := by rw [hHk4]; exact y10
  have y11 : tot H ≤ tot Hk4 + (zss Z - zss Z14) := by rw [hHk4]; exact y11
  refine W.tight (k := zcc Z - zcc Z14) (n := zss Z - zss Z14) (by first | exact tg9 y10 k5 zlZ14.1 zoZ.1 | omega) (by first | exact tg9 y11 k6 zlZ14.2.1 zoZ.2.1 | omega) ?_
  have ilf15 : f15 < Z14.nf := ilf15
  have t16 : ME V V12 f15 := t16
  have t17 : V12 67 f15 = 0 ∧ V12 68 f15 = 0 ∧ V12 70 f15 = (-1) ∧ V12 71 f15 = p0 ∧ V12 75 f15 = 0 ∧ V12 76 f15 = 0 := t17
  have t18 : (f15 : Int) + 1 = (V12 5 6).toInt := t18
  have t19 : (f15 : Int) ≤ (V 5 6).toInt ∧ (V 5 6).toInt ≤ (f15 : Int) + 1 := t19
  have t20 : (V12 5 9).toInt = 0 := t20
  have t21 : Z14.ln = Z.ln ∧ Z14.nf ≤ 400 := t21
  have r22 : 0 ≤ ((V12 5 6)).toInt ∧ ((V12 5 6)).toInt ≤ 400 := hMV12 5 6
  have r23 : 0 ≤ ((V12 5 9)).toInt ∧ ((V12 5 9)).toInt ≤ 3 := hMV12 5 9
  have pr24 : (V12 67 f15).toInt = 0 := (congrArg Int32.toInt t17.1).trans (by decide)
  have pr25 : (V12 68 f15).toInt = 0 := (congrArg Int32.toInt t17.2.1).trans (by decide)
  have pr26 : (V12 70 f15).toInt = (-1) := (congrArg Int32.toInt t17.2.2.1).trans (by decide)
  have pr27 : (V12 71 f15).toInt = p0.toInt := (congrArg Int32.toInt t17.2.2.2.1)
  have pr28 : (V12 75 f15).toInt = 0 := (congrArg Int32.toInt t17.2.2.2.2.1).trans (by decide)
  have pr29 : (V12 76 f15).toInt = 0 := (congrArg Int32.toInt t17.2.2.2.2.2).trans (by decide)
  refine lv_astore (lv' := [(4, .ref (Z14.fa f15)), (0, .ref (ad 5)), (1, .int p0), (2, .int p1), (3, .int p2)]) hx hb dX5_pushRoot_9 hl (by decide) rfl (fun ls hl => ?_)
  refine lv_aload hx hb dX5_pushRoot_11 (lv_at hl 0 rfl) ?_
  refine lv_aload_n hx hb dX5_pushRoot_13 rfl (lv_at hl 1 rfl) ?_
  refine va_get (D := D) (ci := 5) (v := .int (V12 5 8)) (fs := (xfMachine ad V12 L Z14)) (C := RX5) (T := TX5) (N := 15) hx hb hg inX5 hown hK hP 5 xgMachine rfl 8 (by decide) (hg _ w675) (fun _ h9 => h9) rfl dX5_pushRoot_14 ?_
  refine g_top (v := (V 5 8)) (ajV12 5 8 rfl) ?_
  have r30 : 0 ≤ ((V 5 8)).toInt ∧ ((V 5 8)).toInt ≤ 300 := hMV 5 8
  refine va_putN (D := D) (ci := 4) (v := .int (V 5 8)) (ty := tyX4 13) (fs := (xfFrame V12 f15)) (C := RX4) (T := TX4) (N := 19) hx hb hg inX4 tyX4 tyX4_ok nmX4 hown hK hP hD hS (336 + f15) (xgFrame ilf15) rfl 13 (by decide) (hnw.use 1202 n1202 rfl) (fun _ h9 => h9) rfl (tyX4_ok 13 (by decide)) rfl rfl (Nat.le_of_ble_eq_true rfl) dX5_pushRoot_17 (fun H locs hP hD hS => ?_)
  obtain ⟨V31, hV31⟩ : ∃ z, z = up2 V12 80 f15 (V 5 8) := ⟨_, rfl⟩
  have ew32 : (xw ad kk V12 L Z14).set (336 + f15) ((Z14.fa f15), .inr (4, (xfFrame V12 f15).set 13 (.int (V 5 8)))) = xw ad kk V31 L Z14 := by rw [hV31]; exact xpFrame_mark ilf15
  have hP : va_P D vwCl (xw ad kk V31 L Z14) H := by rw [← ew32]; exact hP
  have hD : va_D A (xw ad kk V31 L Z14) := by rw [← ew32]; exact hD
  have hMV31 : rgd bX V31 := hMV12.put hV31 (show 0 ≤ ((V 5 8)).toInt ∧ ((V 5 8)).toInt ≤ 300 from by (first | exact om_c7b5e7b90639 r30.1 r30.2 | omega))
  have agV31 : agr [(5, 6), (5, 9)] [67, 68, 69, 70, 71, 72, 73, 74, 75, 76, 77, 78, 79, 80, 81, 82, 83, 84, 85] V V31 := agV12.up hV31 rfl
  have me33 : ME V V31 f15 := (ME.up (ME.tr ME.rf t16) hV31 (Or.inl ⟨by decide, by decide, Nat.le_refl _⟩))
  have pq34 : (V31 67 f15).toInt = ((V12 67 f15)).toInt := congrArg Int32.toInt (up2_o hV31 (by decide))
  have pq35 : (V31 68 f15).toInt = ((V12 68 f15)).toInt := congrArg Int32.toInt (up2_o hV31 (by decide))
  have pq36 : (V31 70 f15).toInt = ((V12 70 f15)).toInt := congrArg Int32.toInt (up2_o hV31 (by decide))
  have pq37 : (V31 71 f15).toInt = ((V12 71 f15)).toInt := congrArg Int32.toInt (up2_o hV31 (by decide))
  have r38 : (-1) ≤ ((V12 71 f15)).toInt ∧ ((V12 71 f15)).toInt ≤ 23 := hMV12 71 f15
  have pq39 : (V31 75 f15).toInt = ((V12 75 f15)).toInt := congrArg Int32.toInt (up2_o hV31 (by decide))
  have r40 : 0 ≤ ((V12 75 f15)).toInt ∧ ((V12 75 f15)).toInt ≤ 12 := hMV12 75 f15
  have pq41 : (V31 76 f15).toInt = ((V12 76 f15)).toInt := congrArg Int32.toInt (up2_o hV31 (by decide))
  have pq42 : (V31 80 f15).toInt = ((V 5 8)).toInt := congrArg Int32.toInt (up2_s hV31)
  have pq43 : (V31 84 f15).toInt = ((V12 84 f15)).toInt := congrArg Int32.toInt (up2_o hV31 (by decide))
  have r44 : 0 ≤ ((V12 84 f15)).toInt ∧ ((V12 84 f15)).toInt ≤ 2147483647 := hMV12 84 f15
  have pq45 : (V31 5 6).toInt = ((V12 5 6)).toInt := congrArg Int32.toInt (up2_o hV31 (by decide))
  have pq46 : (V31 5 8).toInt = ((V 5 8)).toInt := congrArg Int32.toInt ((up2_o hV31 (by decide)).trans (ajV12 5 8 rfl))
  have pq47 : (V31 5 9).toInt = ((V12 5 9)).toInt := congrArg Int32.toInt (up2_o hV31 (by decide))
  have pq48 : (V31 3 13).toInt = ((V 3 13)).toInt := congrArg Int32.toInt ((up2_o hV31 (by decide)).trans (ajV12 3 13 rfl))
  have r49 : 0 ≤ ((V 3 13)).toInt ∧ ((V 3 13)).toInt ≤ 300 := hMV 3 13
  have pq50 : (V31 43 (5 * b + 2)).toInt = ((V 43 (5 * b + 2))).toInt := congrArg Int32.toInt ((up2_o hV31 (by decide)).trans (ajV12 43 (5 * b + 2) rfl))
  have r51 : 0 ≤ ((V 43 (5 * b + 2))).toInt ∧ ((V 43 (5 * b + 2))).toInt ≤ ((xcap (5 * b + 2) : Nat) : Int) := hMV 43 (5 * b + 2)
  have r52 : xcap (5 * b + 2) = 24 := xcap_2
  have pq53 : (V31 42 b).toInt = ((V 42 b)).toInt := congrArg Int32.toInt ((up2_o hV31 (by decide)).trans (ajV12 42 b rfl))
  have r54 : 0 ≤ ((V 42 b)).toInt ∧ ((V 42 b)).toInt ≤ 8200 := hMV 42 b
  have pq55 : (V31 41 b).toInt = ((V 41 b)).toInt := congrArg Int32.toInt ((up2_o hV31 (by decide)).trans (ajV12 41 b rfl))
  have r56 : 0 ≤ ((V 41 b)).toInt ∧ ((V 41 b)).toInt ≤ 12 := hMV 41 b
  have rp57 : MJ V31 Z14 b := MTr.pu (v := False) mt (by omega) me33 t21.1 (by omega) t21.2 (FK.k0 (by omega) (by omega)) (fun _ => (up2_s hV31).trans ((up2_o hV31 (by decide)).trans (ajV12 5 8 rfl)).symm) (by omega) (by omega) (by omega)
  refine W.know (fun kr1 kr2 => ?_)
  refine W.widen (k := zcc Z) (n := zss Z) (Nat.sub_le _ _) (Nat.sub_le _ _) ?_
  exact W.vret hx hb hr (fun t ht hW => ⟨⟨(V31, L, Z14), rfl, ⟨hMV31, agV31, rfl, zoZ14, rp57⟩, ⟨by rw [ht]; exact hP, va_K.moved hW.alike hK, hD⟩, by rw [ht]; exact kr1, by rw [ht]; exact kr2⟩, hS.F ht⟩) hS.2.2 dX5_pushRoot_20
abbrev r_x_pushCall (Z : XZ) : Room := { frames := 3, cells := zcc Z, slots := zss Z, locals := 66 }
abbrev q_x_pushCall (D : va_G) (ks : KS) (ad : Nat → Nat) (kk : Nat → ClassId) (V : Vf) (L : Lf) (Z : XZ) (p0 : Int32) (p1 : Int32) (p2 : Int32) (p3 : Int32) (p4 : Int32) (b : Nat) (A : Nat → Prop) : Array Value → State → Outcome → State → Prop := qZv D (fun (u : Vf × Lf × XZ) => rgd bX u.1 ∧ agr [(5, 6), (5, 9)] [67, 68, 69, 70, 71, 72, 73, 74, 75, 76, 77, 78, 79, 80, 81, 82, 83, 84, 85] V u.1 ∧ u.2.1 = L ∧ ZL Z u.2.2 ∧ (MJ u.1 u.2.2 b)) (fun u => xw ad kk u.1 u.2.1 u.2.2) (fun u => xty kk u.2.2) (fun u => zcc Z - zcc u.2.2) (fun u => zss Z - zss u.2.2) A
set_option maxHeartbeats 4000000 in
set_option maxRecDepth 100000 in
theorem x_pushCall (l : Launch) (D : va_G) (ks : KS) (sz : Nat) (ad : Nat → Nat) (kk : Nat → ClassId) (V : Vf) (L : Lf) (Z : XZ) (p0 : Int32) (p1 : Int32) (p2 : Int32) (p3 : Int32) (p4 : Int32) (b : Nat) (hMV : rgd bX V) (rg_p1 : 0 ≤ p1.toInt ∧ p1.toInt ≤ 39) (rg_p2 : 0 ≤ p2.toInt ∧ p2.toInt ≤ 19) (hb2 : b < 2) (mt : MT V Z b)  : Met l yX5_pushCall (Cond.code yX5_pushCall cX5_pushCall 7 none :: GW) (r_x_pushCall Z) (va_Pc [.ref (ad 5), .int p0, .int p1, .int p2, .int p3, .int p4] (gp D ks (xw ad kk V L Z) (xty kk Z) sz)) (q_x_pushCall D ks ad kk V L Z p0 p1 p2 p3 p4 b (va_A (xw ad kk V L Z) sz)) (zcc Z) (zss Z) (va_A (xw ad kk V L Z) sz) := by
  refine g_met (q_x_pushCall D ks ad kk V L Z p0 p1 p2 p3 p4 b) (by decide) (Nat.le_of_ble_eq_true rfl) ?_
  intro p e s m below meth c A ls H locs hx hb hr hml hown hg hlocks hin hnw hgk hP hK hD hS hA hl
  have hown : s.vm.findClass RX5 = some m.cls := hown
  have hl : lv_has ls 7 [(0, .ref (ad 5)), (1, .int p0), (2, .int p1), (3, .int p2), (4, .int p3), (5, .int p4)] := hl
  have hP : va_P D vwCl (xw ad kk V L Z) H := hP
  have hD : va_D A (xw ad kk V L Z) := hD
  have hK : va_K D vwCl (xty kk Z) s := hK
  have agV : agr [(5, 6), (5, 9)] [67, 68, 69, 70, 71, 72, 73, 74, 75, 76, 77, 78, 79, 80, 81, 82, 83, 84, 85] V V := agr.rf
  have zoZ : ZL Z Z := ZL.rf
  refine W.know (fun ka kb => ?_)
  refine W.tight (k := zcc Z - zcc Z) (n := zss Z - zss Z) (by omega) (by omega) ?_
  have r1 : 0 ≤ ((V 5 6)).toInt ∧ ((V 5 6)).toInt ≤ 400 := hMV 5 6
  have kdp := i_clamp (x := V 5 6) rfl (by (first | exact om_eafa9039069c r1.1 | omega))
  have hdn := MT.dn mt (by (first | exact om_eafa9039069c r1.1 | omega))
  have mup := MT.up mt
  have msz := mup.1
  have mbk := mup.2.2.2.1
  refine lv_aload_n hx hb dX5_pushCall_0 rfl (lv_at hl 0 rfl) ?_
  refine lv_iconst (v := 2) hx hb dX5_pushCall_1 (by decide) ?_
  refine lv_iload hx hb dX5_pushCall_2 (lv_at hl 5 rfl) ?_
  refine lv_iload_n hx hb dX5_pushCall_4 rfl (lv_at hl 1 rfl) ?_
  refine lv_aload_n hx hb dX5_pushCall_5 rfl (lv_at hl 0 rfl) ?_
  refine va_get (D := D) (ci := 5) (v := .ref (ad 3)) (fs := (xfMachine ad V L Z)) (C := RX5) (T := TX5) (N := 15) hx hb hg inX5 hown hK hP 5 xgMachine rfl 0 (by decide) (hg _ w667) (fun _ h9 => h9) rfl dX5_pushCall_6 ?_
  refine lv_iload_n hx hb dX5_pushCall_9 rfl (lv_at hl 1 rfl) ?_
  refine gA_int (gA_runV (As := [.int p0]) (rest := [.int p0, .int p4, .int 2, .ref (ad 5)]) (ci := 8) (q0 := 3) hx hb hml hown hg hP hD hK hS hA hnw hgk (x_componentOf2 l D ks H.size ad kk V L Z p0 hMV ) w1324 w1325 w1326 w164 w1327 rfl xgStock hdV_yX8_componentOf ⟨Nat.le_of_ble_eq_true rfl, Nat.le_of_ble_eq_true rfl⟩ rfl hl.1 rfl (Nat.le_of_ble_eq_true rfl) dX5_pushCall_10 ⟨z0, z0⟩) hP hD hK hS hA (fun z2 u3 H locs w4 hP hD hK hS => ?_)
  obtain ⟨rgz2, t5⟩ := w4
  have rgz2 : 0 ≤ z2.toInt ∧ z2.toInt ≤ 23 := rgz2
  have t5 : ∀ n : Int, 0 < n → (∀ o : Nat, (o : Int) < (V 3 13).toInt → (V 26 o).toInt < n) → z2.toInt < n := t5
  have hcm := t5 _ mup.1 mup.2.2.2.2.2.1
  refine lv_iload_n hx hb dX5_pushCall_13 rfl (lv_at hl 2 rfl) ?_
  have r6 : Int32.toInt 2 = 2 := by decide
  refine W.know (fun k8 k9 => ?_)
  obtain ⟨Hk7, hHk7⟩ : ∃ z, z = H := ⟨_, rfl⟩
  have k8 : Hk7.size ≤ s.heap.size + (zcc Z - zcc Z) := by rw [hHk7]; exact k8
  have k9 : tot Hk7 ≤ tot s.heap + (zss Z - zss Z) := by rw [hHk7]; exact k9
  refine gZ_ref (gA_runV (As := [.int 2, .int p4, .int p0, .int z2, .int p1]) (rest := []) (ci := 5) (q0 := 5) hx hb hml hown hg hP hD hK hS hA hnw hgk (x_push l D ks H.size ad kk V L Z 2 p4 p0 z2 p1 hMV (by (first | exact om_f52419b73d7d rgz2.1 rgz2.2 | omega)) (by (first | exact om_13ba01c174fe rg_p1.1 rg_p1.2 | omega)) (show (V 5 6).toInt ≤ (Z.nf : Int) from by (first | exact om_cbf4821a2053 hdn.1 | omega)) (show (Z.nf : Int) ≤ 400 from by (first | exact om_16a0bbaa0b2a hdn.2 | omega))) w1180 w1182 w43 w171 w1183 rfl xgMachine hdV_yX5_push ⟨Nat.le_of_ble_eq_true rfl, Nat.le_of_ble_eq_true rfl⟩ rfl hl.1 rfl (Nat.le_of_ble_eq_true rfl) dX5_pushCall_14 ⟨z1 zoZ.1, z1 zoZ.2.1⟩) hD hS hA (fun u11 H locs w12 hP hD hK hS y13 y14 => ?_)
  obtain ⟨V15, L16, Z17, f18⟩ := u11
  obtain ⟨hMV15, ajV15, axL16, zlZ17, ilf18, t19, t20, t21, t22, t23, t24⟩ := w12
  have axL16 : L = L16 := Eq.symm axL16
  subst axL16
  have hP : va_P D vwCl (xw ad kk V15 L Z17) H := hP
  have hD : va_D A (xw ad kk V15 L Z17) := hD
  have hK : va_K D vwCl (xty kk Z17) s := hK
  have hMV15 : rgd bX V15 := hMV15
  have ajV15 : agr [(5, 6), (5, 9)] [67, 68, 69, 70, 71, 72, 73, 74, 75, 76, 77, 78, 79, 80, 81, 82, 83, 84, 85] V V15 := ajV15
  have agV15 : agr [(5, 6), (5, 9)] [67, 68, 69, 70, 71, 72, 73, 74, 75, 76, 77, 78, 79, 80, 81, 82, 83, 84, 85] V V15 := agV.tr ajV15 (by decide) (by decide)
  have zlZ17 : ZL Z Z17 := zlZ17
  have zoZ17 : ZL Z Z17 := ZL.tr zoZ zlZ17
  have ziZ17 := zlZ17.1
  have zjZ17 := zlZ17.2.1
  have zkZ17 := zlZ17.2.2.1
  have zmZ17 := zoZ17.1
  have znZ17 := zoZ17.2.1
  have zpZ_Z17 := zoZ.1
  have zqZ_Z17 := zoZ.2.1
  have y13 : H.size ≤ Hk7.size + (zcc Z - zcc Z17) := by rw [hHk7]; exact y13
  have y14 : tot H ≤ tot Hk7 + (zss Z - zss Z17) := by rw [hHk7]; exact y14
  refine W.tight (k := zcc Z - zcc Z17) (n := zss Z - zss Z17) (by first | exact tg9 y13 k8 zlZ17.1 zoZ.1 | omega) (by first | exact tg9 y14 k9 zlZ17.2.1 zoZ.2.1 | omega) ?_
  have ilf18 : f18 < Z17.nf := ilf18
  have t19 : ME V V15 f18 := t19
  have t20 : V15 67 f18 = 2 ∧ V15 68 f18 = 0 ∧ V15 70 f18 = p0 ∧ V15 71 f18 = z2 ∧ V15 75 f18 = 0 ∧ V15 76 f18 = 0 := t20
  have t21 : (f18 : Int) + 1 = (V15 5 6).toInt := t21
  have t22 : (f18 : Int) ≤ (V 5 6).toInt ∧ (V 5 6).toInt ≤ (f18 : Int) + 1 := t22
  have t23 : (V15 5 9).toInt = 0 := t23
  have t24 : Z17.ln = Z.ln ∧ Z17.nf ≤ 400 := t24
  have r25 : 0 ≤ ((V15 5 6)).toInt ∧ ((V15 5 6)).toInt ≤ 400 := hMV15 5 6
  have r26 : 0 ≤ ((V15 5 9)).toInt ∧ ((V15 5 9)).toInt ≤ 3 := hMV15 5 9
  have pr27 : (V15 67 f18).toInt = 2 := (congrArg Int32.toInt t20.1).trans (by decide)
  have pr28 : (V15 68 f18).toInt = 0 := (congrArg Int32.toInt t20.2.1).trans (by decide)
  have pr29 : (V15 70 f18).toInt = p0.toInt := (congrArg Int32.toInt t20.2.2.1)
  have pr30 : (V15 71 f18).toInt = z2.toInt := (congrArg Int32.toInt t20.2.2.2.1)
  have pr31 : (V15 75 f18).toInt = 0 := (congrArg Int32.toInt t20.2.2.2.2.1).trans (by decide)
  have pr32 : (V15 76 f18).toInt = 0 := (congrArg Int32.toInt t20.2.2.2.2.2).trans (by decide)
  refine lv_astore (lv' := [(6, .ref (Z17.fa f18)), (0, .ref (ad 5)), (1, .int p0), (2, .int p1), (3, .int p2), (4, .int p3), (5, .int p4)]) hx hb dX5_pushCall_17 hl (by decide) rfl (fun ls hl => ?_)
  refine lv_aload hx hb dX5_pushCall_19 (lv_at hl 0 rfl) ?_
  refine lv_iload_n hx hb dX5_pushCall_21 rfl (lv_at hl 4 rfl) ?_
  refine va_putN (D := D) (ci := 4) (v := .int p2) (ty := tyX4 6) (fs := (xfFrame V15 f18)) (C := RX4) (T := TX4) (N := 19) hx hb hg inX4 tyX4 tyX4_ok nmX4 hown hK hP hD hS (336 + f18) (xgFrame ilf18) rfl 6 (by decide) (hnw.use 1195 n1195 rfl) (fun _ h9 => h9) rfl (tyX4_ok 6 (by decide)) rfl rfl (Nat.le_of_ble_eq_true rfl) dX5_pushCall_22 (fun H locs hP hD hS => ?_)
  obtain ⟨V33, hV33⟩ : ∃ z, z = up2 V15 73 f18 p2 := ⟨_, rfl⟩
  have ew34 : (xw ad kk V15 L Z17).set (336 + f18) ((Z17.fa f18), .inr (4, (xfFrame V15 f18).set 6 (.int p2))) = xw ad kk V33 L Z17 := by rw [hV33]; exact xpFrame_method ilf18
  have hP : va_P D vwCl (xw ad kk V33 L Z17) H := by rw [← ew34]; exact hP
  have hD : va_D A (xw ad kk V33 L Z17) := by rw [← ew34]; exact hD
  have hMV33 : rgd bX V33 := hMV15.put hV33 (show 0 ≤ p2.toInt ∧ p2.toInt ≤ 19 from by (first | exact om_0916ac166aa8 rg_p2.1 rg_p2.2 | omega))
  have agV33 : agr [(5, 6), (5, 9)] [67, 68, 69, 70, 71, 72, 73, 74, 75, 76, 77, 78, 79, 80, 81, 82, 83, 84, 85] V V33 := agV15.up hV33 rfl
  refine lv_aload hx hb dX5_pushCall_25 (lv_at hl 0 rfl) ?_
  refine lv_iload hx hb dX5_pushCall_27 (lv_at hl 5 rfl) ?_
  refine va_putN (D := D) (ci := 4) (v := .int p3) (ty := tyX4 7) (fs := (xfFrame V33 f18)) (C := RX4) (T := TX4) (N := 19) hx hb hg inX4 tyX4 tyX4_ok nmX4 hown hK hP hD hS (336 + f18) (xgFrame ilf18) rfl 7 (by decide) (hnw.use 1196 n1196 rfl) (fun _ h9 => h9) rfl (tyX4_ok 7 (by decide)) rfl rfl (Nat.le_of_ble_eq_true rfl) dX5_pushCall_29 (fun H locs hP hD hS => ?_)
  obtain ⟨V35, hV35⟩ : ∃ z, z = up2 V33 74 f18 p3 := ⟨_, rfl⟩
  have ew36 : (xw ad kk V33 L Z17).set (336 + f18) ((Z17.fa f18), .inr (4, (xfFrame V33 f18).set 7 (.int p3))) = xw ad kk V35 L Z17 := by rw [hV35]; exact xpFrame_arg ilf18
  have hP : va_P D vwCl (xw ad kk V35 L Z17) H := by rw [← ew36]; exact hP
  have hD : va_D A (xw ad kk V35 L Z17) := by rw [← ew36]; exact hD
  have hMV35 : rgd bX V35 := hMV33.put hV35 (i_full _)
  have agV35 : agr [(5, 6), (5, 9)] [67, 68, 69, 70, 71, 72, 73, 74, 75, 76, 77, 78, 79, 80, 81, 82, 83, 84, 85] V V35 := agV33.up hV35 rfl
  have me37 : ME V V35 f18 := (ME.up (ME.up (ME.tr ME.rf t19) hV33 (Or.inl ⟨by decide, by decide, Nat.le_refl _⟩)) hV35 (Or.inl ⟨by decide, by decide, Nat.le_refl _⟩))
  have pq38 : (V35 67 f18).toInt = ((V15 67 f18)).toInt := congrArg Int32.toInt ((up2_o hV35 (by decide)).trans (up2_o hV33 (by decide)))
  have pq39 : (V35 68 f18).toInt = ((V15 68 f18)).toInt := congrArg Int32.toInt ((up2_o hV35 (by decide)).trans (up2_o hV33 (by decide)))
  have pq40 : (V35 70 f18).toInt = ((V15 70 f18)).toInt := congrArg Int32.toInt ((up2_o hV35 (by decide)).trans (up2_o hV33 (by decide)))
  have pq41 : (V35 71 f18).toInt = ((V15 71 f18)).toInt := congrArg Int32.toInt ((up2_o hV35 (by decide)).trans (up2_o hV33 (by decide)))
  have r42 : (-1) ≤ ((V15 71 f18)).toInt ∧ ((V15 71 f18)).toInt ≤ 23 := hMV15 71 f18
  have pq43 : (V35 75 f18).toInt = ((V15 75 f18)).toInt := congrArg Int32.toInt ((up2_o hV35 (by decide)).trans (up2_o hV33 (by decide)))
  have r44 : 0 ≤ ((V15 75 f18)).toInt ∧ ((V15 75 f18)).toInt ≤ 12 := hMV15 75 f18
  have pq45 : (V35 76 f18).toInt = ((V15 76 f18)).toInt := congrArg Int32.toInt ((up2_o hV35 (by decide)).trans (up2_o hV33 (by decide)))
  have pq46 : (V35 80 f18).toInt = ((V15 80 f18)).toInt := congrArg Int32.toInt ((up2_o hV35 (by decide)).trans (up2_o hV33 (by decide)))
  have r47 : 0 ≤ ((V15 80 f18)).toInt ∧ ((V15 80 f18)).toInt ≤ 300 := hMV15 80 f18
  have pq48 : (V35 84 f18).toInt = ((V15 84 f18)).toInt := congrArg Int32.toInt ((up2_o hV35 (by decide)).trans (up2_o hV33 (by decide)))
  have r49 : 0 ≤ ((V15 84 f18)).toInt ∧ ((V15 84 f18)).toInt ≤ 2147483647 := hMV15 84 f18
  have pq50 : (V35 5 6).toInt = ((V15 5 6)).toInt := congrArg Int32.toInt ((up2_o hV35 (by decide)).trans (up2_o hV33 (by decide)))
  have pq51 : (V35 5 8).toInt = ((V 5 8)).toInt := congrArg Int32.toInt ((up2_o hV35 (by decide)).trans ((up2_o hV33 (by decide)).trans (ajV15 5 8 rfl)))
  have r52 : 0 ≤ ((V 5 8)).toInt ∧ ((V 5 8)).toInt ≤ 300 := hMV 5 8
  have pq53 : (V35 5 9).toInt = ((V15 5 9)).toInt := congrArg Int32.toInt ((up2_o hV35 (by decide)).trans (up2_o hV33 (by decide)))
  have pq54 : (V35 3 13).toInt = ((V 3 13)).toInt := congrArg Int32.toInt ((up2_o hV35 (by decide)).trans ((up2_o hV33 (by decide)).trans (ajV15 3 13 rfl)))
  have r55 : 0 ≤ ((V 3 13)).toInt ∧ ((V 3 13)).toInt ≤ 300 := hMV 3 13
  have pq56 : (V35 43 (5 * b + 2)).toInt = ((V 43 (5 * b + 2))).toInt := congrArg Int32.toInt ((up2_o hV35 (by decide)).trans ((up2_o hV33 (by decide)).trans (ajV15 43 (5 * b + 2) rfl)))
  have r57 : 0 ≤ ((V 43 (5 * b + 2))).toInt ∧ ((V 43 (5 * b + 2))).toInt ≤ ((xcap (5 * b + 2) : Nat) : Int) := hMV 43 (5 * b + 2)
  have r58 : xcap (5 * b + 2) = 24 := xcap_2
  have pq59 : (V35 42 b).toInt = ((V 42 b)).toInt := congrArg Int32.toInt ((up2_o hV35 (by decide)).trans ((up2_o hV33 (by decide)).trans (ajV15 42 b rfl)))
  have r60 : 0 ≤ ((V 42 b)).toInt ∧ ((V 42 b)).toInt ≤ 8200 := hMV 42 b
  have pq61 : (V35 41 b).toInt = ((V 41 b)).toInt := congrArg Int32.toInt ((up2_o hV35 (by decide)).trans ((up2_o hV33 (by decide)).trans (ajV15 41 b rfl)))
  have r62 : 0 ≤ ((V 41 b)).toInt ∧ ((V 41 b)).toInt ≤ 12 := hMV 41 b
  have rp63 : MJ V35 Z17 b := MT.pu (v := False) mt (by omega) me37 t24.1 (by omega) t24.2 (FK.k2 (by omega) (by omega) (by omega) (by omega)) (fun h => absurd h (by omega)) (by omega) (by omega)
  refine W.know (fun kr1 kr2 => ?_)
  refine W.widen (k := zcc Z) (n := zss Z) (Nat.sub_le _ _) (Nat.sub_le _ _) ?_
  exact W.vret hx hb hr (fun t ht hW => ⟨⟨(V35, L, Z17), rfl, ⟨hMV35, agV35, rfl, zoZ17, rp63⟩, ⟨by rw [ht]; exact hP, va_K.moved hW.alike hK, hD⟩, by rw [ht]; exact kr1, by rw [ht]; exact kr2⟩, hS.F ht⟩) hS.2.2 dX5_pushCall_32
abbrev r_x_pushClose (Z : XZ) : Room := { frames := 3, cells := zcc Z, slots := zss Z, locals := 66 }
abbrev q_x_pushClose (D : va_G) (ks : KS) (ad : Nat → Nat) (kk : Nat → ClassId) (V : Vf) (L : Lf) (Z : XZ) (p0 : Int32) (p1 : Int32) (b : Nat) (A : Nat → Prop) : Array Value → State → Outcome → State → Prop := qZv D (fun (u : Vf × Lf × XZ) => rgd bX u.1 ∧ agr [(5, 6), (5, 9)] [67, 68, 69, 70, 71, 72, 73, 74, 75, 76, 77, 78, 79, 80, 81, 82, 83, 84, 85] V u.1 ∧ u.2.1 = L ∧ ZL Z u.2.2 ∧ (MJ u.1 u.2.2 b)) (fun u => xw ad kk u.1 u.2.1 u.2.2) (fun u => xty kk u.2.2) (fun u => zcc Z - zcc u.2.2) (fun u => zss Z - zss u.2.2) A
set_option maxHeartbeats 4000000 in
set_option maxRecDepth 100000 in
theorem x_pushClose (l : Launch) (D : va_G) (ks : KS) (sz : Nat) (ad : Nat → Nat) (kk : Nat → ClassId) (V : Vf) (L : Lf) (Z : XZ) (p0 : Int32) (p1 : Int32) (b : Nat) (hMV : rgd bX V) (rg_p0 : 0 ≤ p0.toInt ∧ p0.toInt ≤ 299) (hb2 : b < 2) (mt : MT V Z b) (hob : p0.toInt < (V 3 13).toInt)  : Met l yX5_pushClose (Cond.code yX5_pushClose cX5_pushClose 3 none :: GW) (r_x_pushClose Z) (va_Pc [.ref (ad 5), .int p0, .int p1] (gp D ks (xw ad kk V L Z) (xty kk Z) sz)) (q_x_pushClose D ks ad kk V L Z p0 p1 b (va_A (xw ad kk V L Z) sz)) (zcc Z) (zss Z) (va_A (xw ad kk V L Z) sz) := by
  refine g_met (q_x_pushClose D ks ad kk V L Z p0 p1 b) (by decide) (Nat.le_of_ble_eq_true rfl) ?_
  intro p e s m below meth c A ls H locs hx hb hr hml hown hg hlocks hin hnw hgk hP hK hD hS hA hl
  have hown : s.vm.findClass RX5 = some m.cls := hown
  have hl : lv_has ls 3 [(0, .ref (ad 5)), (1, .int p0), (2, .int p1)] := hl
  have hP : va_P D vwCl (xw ad kk V L Z) H := hP
  have hD : va_D A (xw ad kk V L Z) := hD
  have hK : va_K D vwCl (xty kk Z) s := hK
  have agV : agr [(5, 6), (5, 9)] [67, 68, 69, 70, 71, 72, 73, 74, 75, 76, 77, 78, 79, 80, 81, 82, 83, 84, 85] V V := agr.rf
  have zoZ : ZL Z Z := ZL.rf
  refine W.know (fun ka kb => ?_)
  refine W.tight (k := zcc Z - zcc Z) (n := zss Z - zss Z) (by omega) (by omega) ?_
  have r1 : 0 ≤ ((V 3 13)).toInt ∧ ((V 3 13)).toInt ≤ 300 := hMV 3 13
  have r2 : 0 ≤ ((V 5 6)).toInt ∧ ((V 5 6)).toInt ≤ 400 := hMV 5 6
  have kdp := i_clamp (x := V 5 6) rfl (by (first | exact om_eafa9039069c r2.1 | omega))
  have hdn := MT.dn mt (by (first | exact om_eafa9039069c r2.1 | omega))
  have mup := MT.up mt
  have msz := mup.1
  have mbk := mup.2.2.2.1
  refine lv_aload_n hx hb dX5_pushClose_0 rfl (lv_at hl 0 rfl) ?_
  refine lv_iconst (v := 5) hx hb dX5_pushClose_1 (by decide) ?_
  refine lv_iload_n hx hb dX5_pushClose_2 rfl (lv_at hl 2 rfl) ?_
  refine lv_iload_n hx hb dX5_pushClose_3 rfl (lv_at hl 1 rfl) ?_
  refine lv_aload_n hx hb dX5_pushClose_4 rfl (lv_at hl 0 rfl) ?_
  refine va_get (D := D) (ci := 5) (v := .ref (ad 3)) (fs := (xfMachine ad V L Z)) (C := RX5) (T := TX5) (N := 15) hx hb hg inX5 hown hK hP 5 xgMachine rfl 0 (by decide) (hg _ w667) (fun _ h9 => h9) rfl dX5_pushClose_5 ?_
  refine lv_iload_n hx hb dX5_pushClose_8 rfl (lv_at hl 1 rfl) ?_
  refine gA_int (gA_runV (As := [.int p0]) (rest := [.int p0, .int p1, .int 5, .ref (ad 5)]) (ci := 8) (q0 := 3) hx hb hml hown hg hP hD hK hS hA hnw hgk (x_componentOf2 l D ks H.size ad kk V L Z p0 hMV ) w1324 w1325 w1326 w164 w1327 rfl xgStock hdV_yX8_componentOf ⟨Nat.le_of_ble_eq_true rfl, Nat.le_of_ble_eq_true rfl⟩ rfl hl.1 rfl (Nat.le_of_ble_eq_true rfl) dX5_pushClose_9 ⟨z0, z0⟩) hP hD hK hS hA (fun z3 u4 H locs w5 hP hD hK hS => ?_)
  obtain ⟨rgz3, t6⟩ := w5
  have rgz3 : 0 ≤ z3.toInt ∧ z3.toInt ≤ 23 := rgz3
  have t6 : ∀ n : Int, 0 < n → (∀ o : Nat, (o : Int) < (V 3 13).toInt → (V 26 o).toInt < n) → z3.toInt < n := t6
  have hcm := t6 _ mup.1 mup.2.2.2.2.2.1
  refine lv_aload_n hx hb dX5_pushClose_12 rfl (lv_at hl 0 rfl) ?_
  refine va_get (D := D) (ci := 5) (v := .ref (ad 3)) (fs := (xfMachine ad V L Z)) (C := RX5) (T := TX5) (N := 15) hx hb hg inX5 hown hK hP 5 xgMachine rfl 0 (by decide) (hg _ w667) (fun _ h9 => h9) rfl dX5_pushClose_13 ?_
  refine va_getN (D := D) (ci := 8) (v := .ref (ad 24)) (fs := (xfStock ad V L Z)) (C := RX8) (T := TX8) (N := 16) hx hb hg inX8 hown hK hP 3 xgStock rfl 6 (by decide) (hnw.use 382 n382 rfl) (fun _ h9 => h9) rfl dX5_pushClose_16 ?_
  refine lv_iload_n hx hb dX5_pushClose_19 rfl (lv_at hl 1 rfl) ?_
  refine va_iald (D := D) (i := p0) hx hb hK hP 24 17 rfl rfl (i_in (a := p0.toInt) rfl (by (first | exact om_375eda9ff8f1 rg_p0.1 rg_p0.2 | omega))) dX5_pushClose_20 ?_
  have r7 : 0 ≤ ((V 27 (Int32.toNatClampNeg p0))).toInt ∧ ((V 27 (Int32.toNatClampNeg p0))).toInt ≤ 39 := hMV 27 (Int32.toNatClampNeg p0)
  have r8 : Int32.toInt 5 = 5 := by decide
  refine W.know (fun k10 k11 => ?_)
  obtain ⟨Hk9, hHk9⟩ : ∃ z, z = H := ⟨_, rfl⟩
  have k10 : Hk9.size ≤ s.heap.size + (zcc Z - zcc Z) := by rw [hHk9]; exact k10
  have k11 : tot Hk9 ≤ tot s.heap + (zss Z - zss Z) := by rw [hHk9]; exact k11
  refine gZ_ref (gA_runV (As := [.int 5, .int p1, .int p0, .int z3, .int (V 27 (Int32.toNatClampNeg p0))]) (rest := []) (ci := 5) (q0 := 5) hx hb hml hown hg hP hD hK hS hA hnw hgk (x_push l D ks H.size ad kk V L Z 5 p1 p0 z3 (V 27 (Int32.toNatClampNeg p0)) hMV (by (first | exact om_f52419b73d7d rgz3.1 rgz3.2 | omega)) (by (first | exact om_13ba01c174fe r7.1 r7.2 | omega)) (show (V 5 6).toInt ≤ (Z.nf : Int) from by (first | exact om_cbf4821a2053 hdn.1 | omega)) (show (Z.nf : Int) ≤ 400 from by (first | exact om_16a0bbaa0b2a hdn.2 | omega))) w1180 w1182 w43 w171 w1183 rfl xgMachine hdV_yX5_push ⟨Nat.le_of_ble_eq_true rfl, Nat.le_of_ble_eq_true rfl⟩ rfl hl.1 rfl (Nat.le_of_ble_eq_true rfl) dX5_pushClose_21 ⟨z1 zoZ.1, z1 zoZ.2.1⟩) hD hS hA (fun u13 H locs w14 hP hD hK hS y15 y16 => ?_)
  obtain ⟨V17, L18, Z19, f20⟩ := u13
  obtain ⟨hMV17, ajV17, axL18, zlZ19, ilf20, t21, t22, t23, t24, t25, t26⟩ := w14
  have axL18 : L = L18 := Eq.symm axL18
  subst axL18
  have hP : va_P D vwCl (xw ad kk V17 L Z19) H := hP
  have hD : va_D A (xw ad kk V17 L Z19) := hD
  have hK : va_K D vwCl (xty kk Z19) s := hK
  have hMV17 : rgd bX V17 := hMV17
  have ajV17 : agr [(5, 6), (5, 9)] [67, 68, 69, 70, 71, 72, 73, 74, 75, 76, 77, 78, 79, 80, 81, 82, 83, 84, 85] V V17 := ajV17
  have agV17 : agr [(5, 6), (5, 9)] [67, 68, 69, 70, 71, 72, 73, 74, 75, 76, 77, 78, 79, 80, 81, 82, 83, 84, 85] V V17 := agV.tr ajV17 (by decide) (by decide)
  have zlZ19 : ZL Z Z19 := zlZ19
  have zoZ19 : ZL Z Z19 := ZL.tr zoZ zlZ19
  have ziZ19 := zlZ19.1
  have zjZ19 := zlZ19.2.1
  have zkZ19 := zlZ19.2.2.1
  have zmZ19 := zoZ19.1
  have znZ19 := zoZ19.2.1
  have zpZ_Z19 := zoZ.1
  have zqZ_Z19 := zoZ.2.1
  have y15 : H.size ≤ Hk9.size + (zcc Z - zcc Z19) := by rw [hHk9]; exact y15
  have y16 : tot H ≤ tot Hk9 + (zss Z - zss Z19) := by rw [hHk9]; exact y16
  refine W.tight (k := zcc Z - zcc Z19) (n := zss Z - zss Z19) (by first | exact tg9 y15 k10 zlZ19.1 zoZ.1 | omega) (by first | exact tg9 y16 k11 zlZ19.2.1 zoZ.2.1 | omega) ?_
  have ilf20 : f20 < Z19.nf := ilf20
  have t21 : ME V V17 f20 := t21
  have t22 : V17 67 f20 = 5 ∧ V17 68 f20 = 0 ∧ V17 70 f20 = p0 ∧ V17 71 f20 = z3 ∧ V17 75 f20 = 0 ∧ V17 76 f20 = 0 := t22
  have t23 : (f20 : Int) + 1 = (V17 5 6).toInt := t23
  have t24 : (f20 : Int) ≤ (V 5 6).toInt ∧ (V 5 6).toInt ≤ (f20 : Int) + 1 := t24
  have t25 : (V17 5 9).toInt = 0 := t25
  have t26 : Z19.ln = Z.ln ∧ Z19.nf ≤ 400 := t26
  have r27 : 0 ≤ ((V17 5 6)).toInt ∧ ((V17 5 6)).toInt ≤ 400 := hMV17 5 6
  have r28 : 0 ≤ ((V17 5 9)).toInt ∧ ((V17 5 9)).toInt ≤ 3 := hMV17 5 9
  have pr29 : (V17 67 f20).toInt = 5 := (congrArg Int32.toInt t22.1).trans (by decide)
  have pr30 : (V17 68 f20).toInt = 0 := (congrArg Int32.toInt t22.2.1).trans (by decide)
  have pr31 : (V17 70 f20).toInt = p0.toInt := (congrArg Int32.toInt t22.2.2.1)
  have pr32 : (V17 71 f20).toInt = z3.toInt := (congrArg Int32.toInt t22.2.2.2.1)
  have pr33 : (V17 75 f20).toInt = 0 := (congrArg Int32.toInt t22.2.2.2.2.1).trans (by decide)
  have pr34 : (V17 76 f20).toInt = 0 := (congrArg Int32.toInt t22.2.2.2.2.2).trans (by decide)
  refine lv_pop hx hb dX5_pushClose_24 rfl ?_
  have me35 : ME V V17 f20 := (ME.tr ME.rf t21)
  have r36 : (-1) ≤ ((V17 71 f20)).toInt ∧ ((V17 71 f20)).toInt ≤ 23 := hMV17 71 f20
  have r37 : 0 ≤ ((V17 75 f20)).toInt ∧ ((V17 75 f20)).toInt ≤ 12 := hMV17 75 f20
  have r38 : 0 ≤ ((V17 80 f20)).toInt ∧ ((V17 80 f20)).toInt ≤ 300 := hMV17 80 f20
  have r39 : 0 ≤ ((V17 84 f20)).toInt ∧ ((V17 84 f20)).toInt ≤ 2147483647 := hMV17 84 f20
  have pq40 : (V17 5 8).toInt = ((V 5 8)).toInt := congrArg Int32.toInt (ajV17 5 8 rfl)
  have r41 : 0 ≤ ((V 5 8)).toInt ∧ ((V 5 8)).toInt ≤ 300 := hMV 5 8
  have pq42 : (V17 3 13).toInt = ((V 3 13)).toInt := congrArg Int32.toInt (ajV17 3 13 rfl)
  have pq43 : (V17 43 (5 * b + 2)).toInt = ((V 43 (5 * b + 2))).toInt := congrArg Int32.toInt (ajV17 43 (5 * b + 2) rfl)
  have r44 : 0 ≤ ((V 43 (5 * b + 2))).toInt ∧ ((V 43 (5 * b + 2))).toInt ≤ ((xcap (5 * b + 2) : Nat) : Int) := hMV 43 (5 * b + 2)
  have r45 : xcap (5 * b + 2) = 24 := xcap_2
  have pq46 : (V17 42 b).toInt = ((V 42 b)).toInt := congrArg Int32.toInt (ajV17 42 b rfl)
  have r47 : 0 ≤ ((V 42 b)).toInt ∧ ((V 42 b)).toInt ≤ 8200 := hMV 42 b
  have pq48 : (V17 41 b).toInt = ((V 41 b)).toInt := congrArg Int32.toInt (ajV17 41 b rfl)
  have r49 : 0 ≤ ((V 41 b)).toInt ∧ ((V 41 b)).toInt ≤ 12 := hMV 41 b
  have rp50 : MJ V17 Z19 b := MT.pu (v := False) mt (by omega) me35 t26.1 (by omega) t26.2 (FK.k5 (by omega) (by omega) (by omega)) (fun h => absurd h (by omega)) (by omega) (by omega)
  refine W.know (fun kr1 kr2 => ?_)
  refine W.widen (k := zcc Z) (n := zss Z) (Nat.sub_le _ _) (Nat.sub_le _ _) ?_
  exact W.vret hx hb hr (fun t ht hW => ⟨⟨(V17, L, Z19), rfl, ⟨hMV17, agV17, rfl, zoZ19, rp50⟩, ⟨by rw [ht]; exact hP, va_K.moved hW.alike hK, hD⟩, by rw [ht]; exact kr1, by rw [ht]; exact kr2⟩, hS.F ht⟩) hS.2.2 dX5_pushClose_25
abbrev r_x_pushWork (Z : XZ) : Room := { frames := 3, cells := zcc Z, slots := zss Z, locals := 66 }
abbrev q_x_pushWork (D : va_G) (ks : KS) (ad : Nat → Nat) (kk : Nat → ClassId) (V : Vf) (L : Lf) (Z : XZ) (p1 : Int32) (p2 : Int32) (b : Nat) (gf : Nat) (A : Nat → Prop) : Array Value → State → Outcome → State → Prop := qZr D (fun (u : Vf × Lf × XZ × Nat) => rgd bX u.1 ∧ agr [(5, 6), (5, 9)] [67, 68, 69, 70, 71, 72, 73, 74, 75, 76, 77, 78, 79, 80, 81, 82, 83, 84, 85] V u.1 ∧ u.2.1 = L ∧ ZL Z u.2.2.1 ∧ (u.2.2.2 < u.2.2.1.nf) ∧ (MJ u.1 u.2.2.1 b) ∧ ((u.2.2.2 : Int) + 1 = (u.1 5 6).toInt) ∧ ((u.1 67 u.2.2.2).toInt = 4 ∧ (u.1 68 u.2.2.2).toInt = 0) ∧ ((u.1 5 9).toInt = 0)) (fun u => u.2.2.1.fa u.2.2.2) (fun u => xw ad kk u.1 u.2.1 u.2.2.1) (fun u => xty kk u.2.2.1) (fun u => zcc Z - zcc u.2.2.1) (fun u => zss Z - zss u.2.2.1) A
set_option maxHeartbeats 4000000 in
set_option maxRecDepth 100000 in
theorem x_pushWork (l : Launch) (D : va_G) (ks : KS) (sz : Nat) (ad : Nat → Nat) (kk : Nat → ClassId) (V : Vf) (L : Lf) (Z : XZ) (p1 : Int32) (p2 : Int32) (b : Nat) (gf : Nat) (hMV : rgd bX V) (rg_p1 : 0 ≤ p1.toInt ∧ p1.toInt ≤ 2147483647) (hb2 : b < 2) (hgf : gf < Z.nf) (mt : MT V Z b) (hcm : 0 ≤ (V 71 gf).toInt ∧ (V 71 gf).toInt < (V 43 (5 * b + 2)).toInt) (hob : 0 ≤ (V 70 gf).toInt ∧ (V 70 gf).toInt < (V 3 13).toInt) (hat : (V 42 b).toInt ≤ p1.toInt ∨ (bdp V b (p1.toInt).toNat).1 = true)  : Met l yX5_pushWork (Cond.code yX5_pushWork cX5_pushWork 5 (some (.object "WiringHouse$Frame")) :: GW) (r_x_pushWork Z) (va_Pc [.ref (ad 5), .ref (Z.fa gf), .int p1, .int p2] (gp D ks (xw ad kk V L Z) (xty kk Z) sz)) (q_x_pushWork D ks ad kk V L Z p1 p2 b gf (va_A (xw ad kk V L Z) sz)) (zcc Z) (zss Z) (va_A (xw ad kk V L Z) sz) := by
  refine g_met (q_x_pushWork D ks ad kk V L Z p1 p2 b gf) (by decide) (Nat.le_of_ble_eq_true rfl) ?_
  intro p e s m below meth c A ls H locs hx hb hr hml hown hg hlocks hin hnw hgk hP hK hD hS hA hl
  have hown : s.vm.findClass RX5 = some m.cls := hown
  have hl : lv_has ls 5 [(0, .ref (ad 5)), (1, .ref (Z.fa gf)), (2, .int p1), (3, .int p2)] := hl
  have hP : va_P D vwCl (xw ad kk V L Z) H := hP
  have hD : va_D A (xw ad kk V L Z) := hD
  have hK : va_K D vwCl (xty kk Z) s := hK
  have agV : agr [(5, 6), (5, 9)] [67, 68, 69, 70, 71, 72, 73, 74, 75, 76, 77, 78, 79, 80, 81, 82, 83, 84, 85] V V := agr.rf
  have zoZ : ZL Z Z := ZL.rf
  refine W.know (fun ka kb => ?_)
  refine W.tight (k := zcc Z - zcc Z) (n := zss Z - zss Z) (by omega) (by omega) ?_
  have r1 : (-1) ≤ ((V 71 gf)).toInt ∧ ((V 71 gf)).toInt ≤ 23 := hMV 71 gf
  have r2 : 0 ≤ ((V 43 (5 * b + 2))).toInt ∧ ((V 43 (5 * b + 2))).toInt ≤ ((xcap (5 * b + 2) : Nat) : Int) := hMV 43 (5 * b + 2)
  have r3 : xcap (5 * b + 2) = 24 := xcap_2
  have r4 : 0 ≤ ((V 3 13)).toInt ∧ ((V 3 13)).toInt ≤ 300 := hMV 3 13
  have r5 : 0 ≤ ((V 5 6)).toInt ∧ ((V 5 6)).toInt ≤ 400 := hMV 5 6
  have kdp := i_clamp (x := V 5 6) rfl (by (first | exact om_eafa9039069c r5.1 | omega))
  have hdn := MT.dn mt (by (first | exact om_eafa9039069c r5.1 | omega))
  have mup := MT.up mt
  have msz := mup.1
  have mbk := mup.2.2.2.1
  refine lv_aload_n hx hb dX5_pushWork_0 rfl (lv_at hl 0 rfl) ?_
  refine lv_iconst (v := 4) hx hb dX5_pushWork_1 (by decide) ?_
  refine lv_aload_n hx hb dX5_pushWork_2 rfl (lv_at hl 1 rfl) ?_
  refine va_getN (D := D) (ci := 4) (v := .int (V 69 gf)) (fs := (xfFrame V gf)) (C := RX4) (T := TX4) (N := 19) hx hb hg inX4 hown hK hP (336 + gf) (xgFrame hgf) rfl 2 (by decide) (hnw.use 1191 n1191 rfl) (fun _ h9 => h9) rfl dX5_pushWork_3 ?_
  refine lv_aload_n hx hb dX5_pushWork_6 rfl (lv_at hl 1 rfl) ?_
  refine va_getN (D := D) (ci := 4) (v := .int (V 70 gf)) (fs := (xfFrame V gf)) (C := RX4) (T := TX4) (N := 19) hx hb hg inX4 hown hK hP (336 + gf) (xgFrame hgf) rfl 3 (by decide) (hnw.use 1192 n1192 rfl) (fun _ h9 => h9) rfl dX5_pushWork_7 ?_
  refine lv_aload_n hx hb dX5_pushWork_10 rfl (lv_at hl 1 rfl) ?_
  refine va_getN (D := D) (ci := 4) (v := .int (V 71 gf)) (fs := (xfFrame V gf)) (C := RX4) (T := TX4) (N := 19) hx hb hg inX4 hown hK hP (336 + gf) (xgFrame hgf) rfl 4 (by decide) (hnw.use 1193 n1193 rfl) (fun _ h9 => h9) rfl dX5_pushWork_11 ?_
  refine lv_aload_n hx hb dX5_pushWork_14 rfl (lv_at hl 1 rfl) ?_
  refine va_getN (D := D) (ci := 4) (v := .int (V 72 gf)) (fs := (xfFrame V gf)) (C := RX4) (T := TX4) (N := 19) hx hb hg inX4 hown hK hP (336 + gf) (xgFrame hgf) rfl 5 (by decide) (hnw.use 1194 n1194 rfl) (fun _ h9 => h9) rfl dX5_pushWork_15 ?_
  have r6 : 0 ≤ ((V 72 gf)).toInt ∧ ((V 72 gf)).toInt ≤ 39 := hMV 72 gf
  have r7 : Int32.toInt 4 = 4 := by decide
  refine W.know (fun k9 k10 => ?_)
  obtain ⟨Hk8, hHk8⟩ : ∃ z, z = H := ⟨_, rfl⟩
  have k9 : Hk8.size ≤ s.heap.size + (zcc Z - zcc Z) := by rw [hHk8]; exact k9
  have k10 : tot Hk8 ≤ tot s.heap + (zss Z - zss Z) := by rw [hHk8]; exact k10
  refine gZ_ref (gA_runV (As := [.int 4, .int (V 69 gf), .int (V 70 gf), .int (V 71 gf), .int (V 72 gf)]) (rest := []) (ci := 5) (q0 := 5) hx hb hml hown hg hP hD hK hS hA hnw hgk (x_push l D ks H.size ad kk V L Z 4 (V 69 gf) (V 70 gf) (V 71 gf) (V 72 gf) hMV (by (first | exact om_f52419b73d7d hcm.1 r1.2 | omega)) (by (first | exact om_13ba01c174fe r6.1 r6.2 | omega)) (show (V 5 6).toInt ≤ (Z.nf : Int) from by (first | exact om_cbf4821a2053 hdn.1 | omega)) (show (Z.nf : Int) ≤ 400 from by (first | exact om_16a0bbaa0b2a hdn.2 | omega))) w1180 w1182 w43 w171 w1183 rfl xgMachine hdV_yX5_push ⟨Nat.le_of_ble_eq_true rfl, Nat.le_of_ble_eq_true rfl⟩ rfl hl.1 rfl (Nat.le_of_ble_eq_true rfl) dX5_pushWork_18 ⟨z1 zoZ.1, z1 zoZ.2.1⟩) hD hS hA (fun u12 H locs w13 hP hD hK hS y14 y15 => ?_)
  obtain ⟨V16, L17, Z18, f19⟩ := u12
  obtain ⟨hMV16, ajV16, axL17, zlZ18, ilf19, t20, t21, t22, t23, t24, t25⟩ := w13
  have axL17 : L = L17 := Eq.symm axL17
  subst axL17
  have hP : va_P D vwCl (xw ad kk V16 L Z18) H := hP
  have hD : va_D A (xw ad kk V16 L Z18) := hD
  have hK : va_K D vwCl (xty kk Z18) s := hK
  have hMV16 : rgd bX V16 := hMV16
  have ajV16 : agr [(5, 6), (5, 9)] [67, 68, 69, 70, 71, 72, 73, 74, 75, 76, 77, 78, 79, 80, 81, 82, 83, 84, 85] V V16 := ajV16
  have agV16 : agr [(5, 6), (5, 9)] [67, 68, 69, 70, 71, 72, 73, 74, 75, 76, 77, 78, 79, 80, 81, 82, 83, 84, 85] V V16 := agV.tr ajV16 (by decide) (by decide)
  have zlZ18 : ZL Z Z18 := zlZ18
  have zoZ18 : ZL Z Z18 := ZL.tr zoZ zlZ18
  have ziZ18 := zlZ18.1
  have zjZ18 := zlZ18.2.1
  have zkZ18 := zlZ18.2.2.1
  have zmZ18 := zoZ18.1
  have znZ18 := zoZ18.2.1
  have zpZ_Z18 := zoZ.1
  have zqZ_Z18 := zoZ.2.1
  have y14 : H.size ≤ Hk8.size + (zcc Z - zcc Z18) := by rw [hHk8]; exact y14
  have y15 : tot H ≤ tot Hk8 + (zss Z - zss Z18) := by rw [hHk8]; exact y15
  refine W.tight (k := zcc Z - zcc Z18) (n := zss Z - zss Z18) (by first | exact tg9 y14 k9 zlZ18.1 zoZ.1 | omega) (by first | exact tg9 y15 k10 zlZ18.2.1 zoZ.2.1 | omega) ?_
  have hl : lv_has ls 5 [(0, .ref (ad 5)), (1, .ref (Z18.fa gf)), (2, .int p1), (3, .int p2)] := by rw [zlZ18.2.2.2.2 gf hgf]; exact hl
  have ilf19 : f19 < Z18.nf := ilf19
  have t20 : ME V V16 f19 := t20
  have t21 : V16 67 f19 = 4 ∧ V16 68 f19 = 0 ∧ V16 70 f19 = (V 70 gf) ∧ V16 71 f19 = (V 71 gf) ∧ V16 75 f19 = 0 ∧ V16 76 f19 = 0 := t21
  have t22 : (f19 : Int) + 1 = (V16 5 6).toInt := t22
  have t23 : (f19 : Int) ≤ (V 5 6).toInt ∧ (V 5 6).toInt ≤ (f19 : Int) + 1 := t23
  have t24 : (V16 5 9).toInt = 0 := t24
  have t25 : Z18.ln = Z.ln ∧ Z18.nf ≤ 400 := t25
  have r26 : 0 ≤ ((V16 5 6)).toInt ∧ ((V16 5 6)).toInt ≤ 400 := hMV16 5 6
  have r27 : 0 ≤ ((V16 5 9)).toInt ∧ ((V16 5 9)).toInt ≤ 3 := hMV16 5 9
  have pr28 : (V16 67 f19).toInt = 4 := (congrArg Int32.toInt t21.1).trans (by decide)
  have pr29 : (V16 68 f19).toInt = 0 := (congrArg Int32.toInt t21.2.1).trans (by decide)
  have pr30 : (V16 70 f19).toInt = ((V 70 gf)).toInt := (congrArg Int32.toInt t21.2.2.1)
  have pr31 : (V16 71 f19).toInt = ((V 71 gf)).toInt := (congrArg Int32.toInt t21.2.2.2.1)
  have pr32 : (V16 75 f19).toInt = 0 := (congrArg Int32.toInt t21.2.2.2.2.1).trans (by decide)
  have pr33 : (V16 76 f19).toInt = 0 := (congrArg Int32.toInt t21.2.2.2.2.2).trans (by decide)
  refine lv_astore (lv' := [(4, .ref (Z18.fa f19)), (0, .ref (ad 5)), (1, .ref (Z18.fa gf)), (2, .int p1), (3, .int p2)]) hx hb dX5_pushWork_21 hl (by decide) rfl (fun ls hl => ?_)
  refine lv_aload hx hb dX5_pushWork_23 (lv_at hl 0 rfl) ?_
  refine lv_aload_n hx hb dX5_pushWork_25 rfl (lv_at hl 2 rfl) ?_
  have il34 : gf < Z18.nf := by omega
  refine va_getN (D := D) (ci := 4) (v := .int (V16 73 gf)) (fs := (xfFrame V16 gf)) (C := RX4) (T := TX4) (N := 19) hx hb hg inX4 hown hK hP (336 + gf) (xgFrame il34) rfl 6 (by decide) (hnw.use 1195 n1195 rfl) (fun _ h9 => h9) rfl dX5_pushWork_26 ?_
  have r35 : 0 ≤ ((V16 73 gf)).toInt ∧ ((V16 73 gf)).toInt ≤ 19 := hMV16 73 gf
  refine va_putN (D := D) (ci := 4) (v := .int (V16 73 gf)) (ty := tyX4 6) (fs := (xfFrame V16 f19)) (C := RX4) (T := TX4) (N := 19) hx hb hg inX4 tyX4 tyX4_ok nmX4 hown hK hP hD hS (336 + f19) (xgFrame ilf19) rfl 6 (by decide) (hnw.use 1195 n1195 rfl) (fun _ h9 => h9) rfl (tyX4_ok 6 (by decide)) rfl rfl (Nat.le_of_ble_eq_true rfl) dX5_pushWork_29 (fun H locs hP hD hS => ?_)
  obtain ⟨V36, hV36⟩ : ∃ z, z = up2 V16 73 f19 (V16 73 gf) := ⟨_, rfl⟩
  have ew37 : (xw ad kk V16 L Z18).set (336 + f19) ((Z18.fa f19), .inr (4, (xfFrame V16 f19).set 6 (.int (V16 73 gf)))) = xw ad kk V36 L Z18 := by rw [hV36]; exact xpFrame_method ilf19
  have hP : va_P D vwCl (xw ad kk V36 L Z18) H := by rw [← ew37]; exact hP
  have hD : va_D A (xw ad kk V36 L Z18) := by rw [← ew37]; exact hD
  have hMV36 : rgd bX V36 := hMV16.put hV36 (show 0 ≤ ((V16 73 gf)).toInt ∧ ((V16 73 gf)).toInt ≤ 19 from by (first | exact om_0916ac166aa8 r35.1 r35.2 | omega))
  have agV36 : agr [(5, 6), (5, 9)] [67, 68, 69, 70, 71, 72, 73, 74, 75, 76, 77, 78, 79, 80, 81, 82, 83, 84, 85] V V36 := agV16.up hV36 rfl
  refine lv_aload hx hb dX5_pushWork_32 (lv_at hl 0 rfl) ?_
  refine lv_iload_n hx hb dX5_pushWork_34 rfl (lv_at hl 4 rfl) ?_
  refine va_putN (D := D) (ci := 4) (v := .int p2) (ty := tyX4 7) (fs := (xfFrame V36 f19)) (C := RX4) (T := TX4) (N := 19) hx hb hg inX4 tyX4 tyX4_ok nmX4 hown hK hP hD hS (336 + f19) (xgFrame ilf19) rfl 7 (by decide) (hnw.use 1196 n1196 rfl) (fun _ h9 => h9) rfl (tyX4_ok 7 (by decide)) rfl rfl (Nat.le_of_ble_eq_true rfl) dX5_pushWork_35 (fun H locs hP hD hS => ?_)
  obtain ⟨V38, hV38⟩ : ∃ z, z = up2 V36 74 f19 p2 := ⟨_, rfl⟩
  have ew39 : (xw ad kk V36 L Z18).set (336 + f19) ((Z18.fa f19), .inr (4, (xfFrame V36 f19).set 7 (.int p2))) = xw ad kk V38 L Z18 := by rw [hV38]; exact xpFrame_arg ilf19
  have hP : va_P D vwCl (xw ad kk V38 L Z18) H := by rw [← ew39]; exact hP
  have hD : va_D A (xw ad kk V38 L Z18) := by rw [← ew39]; exact hD
  have hMV38 : rgd bX V38 := hMV36.put hV38 (i_full _)
  have agV38 : agr [(5, 6), (5, 9)] [67, 68, 69, 70, 71, 72, 73, 74, 75, 76, 77, 78, 79, 80, 81, 82, 83, 84, 85] V V38 := agV36.up hV38 rfl
  refine lv_aload hx hb dX5_pushWork_38 (lv_at hl 0 rfl) ?_
  refine lv_iload_n hx hb dX5_pushWork_40 rfl (lv_at hl 3 rfl) ?_
  refine va_putN (D := D) (ci := 4) (v := .int p1) (ty := tyX4 17) (fs := (xfFrame V38 f19)) (C := RX4) (T := TX4) (N := 19) hx hb hg inX4 tyX4 tyX4_ok nmX4 hown hK hP hD hS (336 + f19) (xgFrame ilf19) rfl 17 (by decide) (hnw.use 1206 n1206 rfl) (fun _ h9 => h9) rfl (tyX4_ok 17 (by decide)) rfl rfl (Nat.le_of_ble_eq_true rfl) dX5_pushWork_41 (fun H locs hP hD hS => ?_)
  obtain ⟨V40, hV40⟩ : ∃ z, z = up2 V38 84 f19 p1 := ⟨_, rfl⟩
  have ew41 : (xw ad kk V38 L Z18).set (336 + f19) ((Z18.fa f19), .inr (4, (xfFrame V38 f19).set 17 (.int p1))) = xw ad kk V40 L Z18 := by rw [hV40]; exact xpFrame_at ilf19
  have hP : va_P D vwCl (xw ad kk V40 L Z18) H := by rw [← ew41]; exact hP
  have hD : va_D A (xw ad kk V40 L Z18) := by rw [← ew41]; exact hD
  have hMV40 : rgd bX V40 := hMV38.put hV40 (show 0 ≤ p1.toInt ∧ p1.toInt ≤ 2147483647 from by (first | exact om_1ef0cfc3b2d2 rg_p1.1 rg_p1.2 | omega))
  have agV40 : agr [(5, 6), (5, 9)] [67, 68, 69, 70, 71, 72, 73, 74, 75, 76, 77, 78, 79, 80, 81, 82, 83, 84, 85] V V40 := agV38.up hV40 rfl
  refine lv_aload hx hb dX5_pushWork_44 (lv_at hl 0 rfl) ?_
  refine lv_aload_n hx hb dX5_pushWork_46 rfl (lv_at hl 1 rfl) ?_
  refine va_get (D := D) (ci := 5) (v := .int (V40 5 7)) (fs := (xfMachine ad V40 L Z18)) (C := RX5) (T := TX5) (N := 15) hx hb hg inX5 hown hK hP 5 xgMachine rfl 7 (by decide) (hg _ w674) (fun _ h9 => h9) rfl dX5_pushWork_47 ?_
  refine g_top (v := (V 5 7)) ((up2_o hV40 (by decide)).trans ((up2_o hV38 (by decide)).trans ((up2_o hV36 (by decide)).trans (ajV16 5 7 rfl)))) ?_
  have r42 : 0 ≤ ((V 5 7)).toInt ∧ ((V 5 7)).toInt ≤ 2048 := hMV 5 7
  refine va_putN (D := D) (ci := 4) (v := .int (V 5 7)) (ty := tyX4 18) (fs := (xfFrame V40 f19)) (C := RX4) (T := TX4) (N := 19) hx hb hg inX4 tyX4 tyX4_ok nmX4 hown hK hP hD hS (336 + f19) (xgFrame ilf19) rfl 18 (by decide) (hnw.use 1207 n1207 rfl) (fun _ h9 => h9) rfl (tyX4_ok 18 (by decide)) rfl rfl (Nat.le_of_ble_eq_true rfl) dX5_pushWork_50 (fun H locs hP hD hS => ?_)
  obtain ⟨V43, hV43⟩ : ∃ z, z = up2 V40 85 f19 (V 5 7) := ⟨_, rfl⟩
  have ew44 : (xw ad kk V40 L Z18).set (336 + f19) ((Z18.fa f19), .inr (4, (xfFrame V40 f19).set 18 (.int (V 5 7)))) = xw ad kk V43 L Z18 := by rw [hV43]; exact xpFrame_base ilf19
  have hP : va_P D vwCl (xw ad kk V43 L Z18) H := by rw [← ew44]; exact hP
  have hD : va_D A (xw ad kk V43 L Z18) := by rw [← ew44]; exact hD
  have hMV43 : rgd bX V43 := hMV40.put hV43 (show 0 ≤ ((V 5 7)).toInt ∧ ((V 5 7)).toInt ≤ 2048 from by (first | exact om_01b7a0d43c7e r42.1 r42.2 | omega))
  have agV43 : agr [(5, 6), (5, 9)] [67, 68, 69, 70, 71, 72, 73, 74, 75, 76, 77, 78, 79, 80, 81, 82, 83, 84, 85] V V43 := agV40.up hV43 rfl
  refine lv_aload hx hb dX5_pushWork_53 (lv_at hl 0 rfl) ?_
  have pq45 : (V43 5 6).toInt = ((V16 5 6)).toInt := congrArg Int32.toInt ((up2_o hV43 (by decide)).trans ((up2_o hV40 (by decide)).trans ((up2_o hV38 (by decide)).trans (up2_o hV36 (by decide)))))
  have pq46 : (V43 5 9).toInt = ((V16 5 9)).toInt := congrArg Int32.toInt ((up2_o hV43 (by decide)).trans ((up2_o hV40 (by decide)).trans ((up2_o hV38 (by decide)).trans (up2_o hV36 (by decide)))))
  have me47 : ME V V43 f19 := (ME.up (ME.up (ME.up (ME.up (ME.tr ME.rf t20) hV36 (Or.inl ⟨by decide, by decide, Nat.le_refl _⟩)) hV38 (Or.inl ⟨by decide, by decide, Nat.le_refl _⟩)) hV40 (Or.inl ⟨by decide, by decide, Nat.le_refl _⟩)) hV43 (Or.inl ⟨by decide, by decide, Nat.le_refl _⟩))
  have pq48 : (V43 67 f19).toInt = ((V16 67 f19)).toInt := congrArg Int32.toInt ((up2_o hV43 (by decide)).trans ((up2_o hV40 (by decide)).trans ((up2_o hV38 (by decide)).trans (up2_o hV36 (by decide)))))
  have pq49 : (V43 68 f19).toInt = ((V16 68 f19)).toInt := congrArg Int32.toInt ((up2_o hV43 (by decide)).trans ((up2_o hV40 (by decide)).trans ((up2_o hV38 (by decide)).trans (up2_o hV36 (by decide)))))
  have pq50 : (V43 70 f19).toInt = ((V16 70 f19)).toInt := congrArg Int32.toInt ((up2_o hV43 (by decide)).trans ((up2_o hV40 (by decide)).trans ((up2_o hV38 (by decide)).trans (up2_o hV36 (by decide)))))
  have pq51 : (V43 71 f19).toInt = ((V16 71 f19)).toInt := congrArg Int32.toInt ((up2_o hV43 (by decide)).trans ((up2_o hV40 (by decide)).trans ((up2_o hV38 (by decide)).trans (up2_o hV36 (by decide)))))
  have r52 : (-1) ≤ ((V16 71 f19)).toInt ∧ ((V16 71 f19)).toInt ≤ 23 := hMV16 71 f19
  have pq53 : (V43 75 f19).toInt = ((V16 75 f19)).toInt := congrArg Int32.toInt ((up2_o hV43 (by decide)).trans ((up2_o hV40 (by decide)).trans ((up2_o hV38 (by decide)).trans (up2_o hV36 (by decide)))))
  have r54 : 0 ≤ ((V16 75 f19)).toInt ∧ ((V16 75 f19)).toInt ≤ 12 := hMV16 75 f19
  have pq55 : (V43 76 f19).toInt = ((V16 76 f19)).toInt := congrArg Int32.toInt ((up2_o hV43 (by decide)).trans ((up2_o hV40 (by decide)).trans ((up2_o hV38 (by decide)).trans (up2_o hV36 (by decide)))))
  have pq56 : (V43 80 f19).toInt = ((V16 80 f19)).toInt := congrArg Int32.toInt ((up2_o hV43 (by decide)).trans ((up2_o hV40 (by decide)).trans ((up2_o hV38 (by decide)).trans (up2_o hV36 (by decide)))))
  have r57 : 0 ≤ ((V16 80 f19)).toInt ∧ ((V16 80 f19)).toInt ≤ 300 := hMV16 80 f19
  have pq58 : (V43 84 f19).toInt = p1.toInt := congrArg Int32.toInt ((up2_o hV43 (by decide)).trans (up2_s hV40))
  have pq59 : (V43 5 8).toInt = ((V 5 8)).toInt := congrArg Int32.toInt ((up2_o hV43 (by decide)).trans ((up2_o hV40 (by decide)).trans ((up2_o hV38 (by decide)).trans ((up2_o hV36 (by decide)).trans (ajV16 5 8 rfl)))))
  have r60 : 0 ≤ ((V 5 8)).toInt ∧ ((V 5 8)).toInt ≤ 300 := hMV 5 8
  have pq61 : (V43 3 13).toInt = ((V 3 13)).toInt := congrArg Int32.toInt ((up2_o hV43 (by decide)).trans ((up2_o hV40 (by decide)).trans ((up2_o hV38 (by decide)).trans ((up2_o hV36 (by decide)).trans (ajV16 3 13 rfl)))))
  have pq62 : (V43 43 (5 * b + 2)).toInt = ((V 43 (5 * b + 2))).toInt := congrArg Int32.toInt ((up2_o hV43 (by decide)).trans ((up2_o hV40 (by decide)).trans ((up2_o hV38 (by decide)).trans ((up2_o hV36 (by decide)).trans (ajV16 43 (5 * b + 2) rfl)))))
  have pq63 : (V43 42 b).toInt = ((V 42 b)).toInt := congrArg Int32.toInt ((up2_o hV43 (by decide)).trans ((up2_o hV40 (by decide)).trans ((up2_o hV38 (by decide)).trans ((up2_o hV36 (by decide)).trans (ajV16 42 b rfl)))))
  have r64 : 0 ≤ ((V 42 b)).toInt ∧ ((V 42 b)).toInt ≤ 8200 := hMV 42 b
  have pq65 : (V43 41 b).toInt = ((V 41 b)).toInt := congrArg Int32.toInt ((up2_o hV43 (by decide)).trans ((up2_o hV40 (by decide)).trans ((up2_o hV38 (by decide)).trans ((up2_o hV36 (by decide)).trans (ajV16 41 b rfl)))))
  have r66 : 0 ≤ ((V 41 b)).toInt ∧ ((V 41 b)).toInt ≤ 12 := hMV 41 b
  have me67 : ME V V43 0 := (ME.up (ME.up (ME.up (ME.up (ME.tr ME.rf (ME.lo t20 (by omega))) hV36 (Or.inl ⟨by decide, by decide, by omega⟩)) hV38 (Or.inl ⟨by decide, by decide, by omega⟩)) hV40 (Or.inl ⟨by decide, by decide, by omega⟩)) hV43 (Or.inl ⟨by decide, by decide, by omega⟩))
  have af68 : (V43 42 b).toInt ≤ (V43 84 f19).toInt ∨ (bdp V43 b (V43 84 f19).toInt.toNat).1 = true := by rw [((up2_o hV43 (by decide)).trans (up2_s hV40)), me67.1.bd, me67.1 42 b (by decide) (by decide)]; exact hat
  have rp69 : MJ V43 Z18 b := MT.pu (v := False) mt (by omega) me47 t25.1 (by omega) t25.2 (FK.k4 (by omega) (by omega) (by omega) af68 (by omega) (fun h => absurd h (by omega))) (fun h => absurd h (by omega)) (by omega) (by omega)
  have rp70 : (V43 67 f19).toInt = 4 ∧ (V43 68 f19).toInt = 0 := ⟨by omega, by omega⟩
  refine W.know (fun kr1 kr2 => ?_)
  refine W.widen (k := zcc Z) (n := zss Z) (Nat.sub_le _ _) (Nat.sub_le _ _) ?_
  exact W.aret (v := .ref (Z18.fa f19)) hx hb hr (Or.inl ⟨_, rfl⟩) (Or.inr ⟨_, rfl⟩) (fun t ht hW => ⟨⟨(V43, L, Z18, f19), rfl, ⟨hMV43, agV43, rfl, zoZ18, ilf19, rp69, (show (f19 : Int) + 1 = (V43 5 6).toInt from by omega), rp70, (show (V43 5 9).toInt = 0 from by (first | exact om_36161e850215 t24 pq46 | omega))⟩, ⟨by rw [ht]; exact hP, va_K.moved hW.alike hK, hD⟩, by rw [ht]; exact kr1, by rw [ht]; exact kr2⟩, hS.F ht⟩) hS.2.2 dX5_pushWork_55
abbrev r_x_pushInside (Z : XZ) : Room := { frames := 3, cells := zcc Z, slots := zss Z, locals := 66 }
abbrev q_x_pushInside (D : va_G) (ks : KS) (ad : Nat → Nat) (kk : Nat → ClassId) (V : Vf) (L : Lf) (Z : XZ) (p1 : Int32) (p2 : Int32) (b : Nat) (gf : Nat) (A : Nat → Prop) : Array Value → State → Outcome → State → Prop := qZv D (fun (u : Vf × Lf × XZ) => rgd bX u.1 ∧ agr [(5, 6), (5, 9)] [67, 68, 69, 70, 71, 72, 73, 74, 75, 76, 77, 78, 79, 80, 81, 82, 83, 84, 85] V u.1 ∧ u.2.1 = L ∧ ZL Z u.2.2 ∧ (MJ u.1 u.2.2 b)) (fun u => xw ad kk u.1 u.2.1 u.2.2) (fun u => xty kk u.2.2) (fun u => zcc Z - zcc u.2.2) (fun u => zss Z - zss u.2.2) A
set_option maxHeartbeats 4000000 in
set_option maxRecDepth 100000 in
theorem x_pushInside (l : Launch) (D : va_G) (ks : KS) (sz : Nat) (ad : Nat → Nat) (kk : Nat → ClassId) (V : Vf) (L : Lf) (Z : XZ) (p1 : Int32) (p2 : Int32) (b : Nat) (gf : Nat) (hMV : rgd bX V) (rg_p1 : 0 ≤ p1.toInt ∧ p1.toInt ≤ 12) (hb2 : b < 2) (hgf : gf < Z.nf) (mt : MT V Z b) (hcm : 0 ≤ (V 71 gf).toInt ∧ (V 71 gf).toInt < (V 43 (5 * b + 2)).toInt) (hob : 0 ≤ (V 70 gf).toInt ∧ (V 70 gf).toInt < (V 3 13).toInt)  : Met l yX5_pushInside (Cond.code yX5_pushInside cX5_pushInside 5 none :: GW) (r_x_pushInside Z) (va_Pc [.ref (ad 5), .ref (Z.fa gf), .int p1, .int p2] (gp D ks (xw ad kk V L Z) (xty kk Z) sz)) (q_x_pushInside D ks ad kk V L Z p1 p2 b gf (va_A (xw ad kk V L Z) sz)) (zcc Z) (zss Z) (va_A (xw ad kk V L Z) sz) := by
  refine g_met (q_x_pushInside D ks ad kk V L Z p1 p2 b gf) (by decide) (Nat.le_of_ble_eq_true rfl) ?_
  intro p e s m below meth c A ls H locs hx hb hr hml hown hg hlocks hin hnw hgk hP hK hD hS hA hl
  have hown : s.vm.findClass RX5 = some m.cls := hown
  have hl : lv_has ls 5 [(0, .ref (ad 5)), (1, .ref (Z.fa gf)), (2, .int p1), (3, .int p2)] := hl
  have hP : va_P D vwCl (xw ad kk V L Z) H := hP
  have hD : va_D A (xw ad kk V L Z) := hD
  have hK : va_K D vwCl (xty kk Z) s := hK
  have agV : agr [(5, 6), (5, 9)] [67, 68, 69, 70, 71, 72, 73, 74, 75, 76, 77, 78, 79, 80, 81, 82, 83, 84, 85] V V := agr.rf
  have zoZ : ZL Z Z := ZL.rf
  refine W.know (fun ka kb => ?_)
  refine W.tight (k := zcc Z - zcc Z) (n := zss Z - zss Z) (by omega) (by omega) ?_
  have r1 : (-1) ≤ ((V 71 gf)).toInt ∧ ((V 71 gf)).toInt ≤ 23 := hMV 71 gf
  have r2 : 0 ≤ ((V 43 (5 * b + 2))).toInt ∧ ((V 43 (5 * b + 2))).toInt ≤ ((xcap (5 * b + 2) : Nat) : Int) := hMV 43 (5 * b + 2)
  have r3 : xcap (5 * b + 2) = 24 := xcap_2
  have r4 : 0 ≤ ((V 3 13)).toInt ∧ ((V 3 13)).toInt ≤ 300 := hMV 3 13
  have r5 : 0 ≤ ((V 5 6)).toInt ∧ ((V 5 6)).toInt ≤ 400 := hMV 5 6
  have kdp := i_clamp (x := V 5 6) rfl (by (first | exact om_eafa9039069c r5.1 | omega))
  have hdn := MT.dn mt (by (first | exact om_eafa9039069c r5.1 | omega))
  have mup := MT.up mt
  have msz := mup.1
  have mbk := mup.2.2.2.1
  refine lv_aload_n hx hb dX5_pushInside_0 rfl (lv_at hl 0 rfl) ?_
  refine lv_iconst (v := 3) hx hb dX5_pushInside_1 (by decide) ?_
  refine lv_aload_n hx hb dX5_pushInside_2 rfl (lv_at hl 1 rfl) ?_
  refine va_getN (D := D) (ci := 4) (v := .int (V 69 gf)) (fs := (xfFrame V gf)) (C := RX4) (T := TX4) (N := 19) hx hb hg inX4 hown hK hP (336 + gf) (xgFrame hgf) rfl 2 (by decide) (hnw.use 1191 n1191 rfl) (fun _ h9 => h9) rfl dX5_pushInside_3 ?_
  refine lv_aload_n hx hb dX5_pushInside_6 rfl (lv_at hl 1 rfl) ?_
  refine va_getN (D := D) (ci := 4) (v := .int (V 70 gf)) (fs := (xfFrame V gf)) (C := RX4) (T := TX4) (N := 19) hx hb hg inX4 hown hK hP (336 + gf) (xgFrame hgf) rfl 3 (by decide) (hnw.use 1192 n1192 rfl) (fun _ h9 => h9) rfl dX5_pushInside_7 ?_
  refine lv_aload_n hx hb dX5_pushInside_10 rfl (lv_at hl 1 rfl) ?_
  refine va_getN (D := D) (ci := 4) (v := .int (V 71 gf)) (fs := (xfFrame V gf)) (C := RX4) (T := TX4) (N := 19) hx hb hg inX4 hown hK hP (336 + gf) (xgFrame hgf) rfl 4 (by decide) (hnw.use 1193 n1193 rfl) (fun _ h9 => h9) rfl dX5_pushInside_11 ?_
  refine lv_aload_n hx hb dX5_pushInside_14 rfl (lv_at hl 1 rfl) ?_
  refine va_getN (D := D) (ci := 4) (v := .int (V 72 gf)) (fs := (xfFrame V gf)) (C := RX4) (T := TX4) (N := 19) hx hb hg inX4 hown hK hP (336 + gf) (xgFrame hgf) rfl 5 (by decide) (hnw.use 1194 n1194 rfl) (fun _ h9 => h9) rfl dX5_pushInside_15 ?_
  have r6 : 0 ≤ ((V 72 gf)).toInt ∧ ((V 72 gf)).toInt ≤ 39 := hMV 72 gf
  have r7 : Int32.toInt 3 = 3 := by decide
  refine W.know (fun k9 k10 => ?_)
  obtain ⟨Hk8, hHk8⟩ : ∃ z, z = H := ⟨_, rfl⟩
  have k9 : Hk8.size ≤ s.heap.size + (zcc Z - zcc Z) := by rw [hHk8]; exact k9
  have k10 : tot Hk8 ≤ tot s.heap + (zss Z - zss Z) := by rw [hHk8]; exact k10
  refine gZ_ref (gA_runV (As := [.int 3, .int (V 69 gf), .int (V 70 gf), .int (V 71 gf), .int (V 72 gf)]) (rest := []) (ci := 5) (q0 := 5) hx hb hml hown hg hP hD hK hS hA hnw hgk (x_push l D ks H.size ad kk V L Z 3 (V 69 gf) (V 70 gf) (V 71 gf) (V 72 gf) hMV (by (first | exact om_f52419b73d7d hcm.1 r1.2 | omega)) (by (first | exact om_13ba01c174fe r6.1 r6.2 | omega)) (show (V 5 6).toInt ≤ (Z.nf : Int) from by (first | exact om_cbf4821a2053 hdn.1 | omega)) (show (Z.nf : Int) ≤ 400 from by (first | exact om_16a0bbaa0b2a hdn.2 | omega))) w1180 w1182 w43 w171 w1183 rfl xgMachine hdV_yX5_push ⟨Nat.le_of_ble_eq_true rfl, Nat.le_of_ble_eq_true rfl⟩ rfl hl.1 rfl (Nat.le_of_ble_eq_true rfl) dX5_pushInside_18 ⟨z1 zoZ.1, z1 zoZ.2.1⟩) hD hS hA (fun u12 H locs w13 hP hD hK hS y14 y15 => ?_)
  obtain ⟨V16, L17, Z18, f19⟩ := u12
  obtain ⟨hMV16, ajV16, axL17, zlZ18, ilf19, t20, t21, t22, t23, t24, t25⟩ := w13
  have axL17 : L = L17 := Eq.symm axL17
  subst axL17
  have hP : va_P D vwCl (xw ad kk V16 L Z18) H := hP
  have hD : va_D A (xw ad kk V16 L Z18) := hD
  have hK : va_K D vwCl (xty kk Z18) s := hK
  have hMV16 : rgd bX V16 := hMV16
  have ajV16 : agr [(5, 6), (5, 9)] [67, 68, 69, 70, 71, 72, 73, 74, 75, 76, 77, 78, 79, 80, 81, 82, 83, 84, 85] V V16 := ajV16
  have agV16 : agr [(5, 6), (5, 9)] [67, 68, 69, 70, 71, 72, 73, 74, 75, 76, 77, 78, 79, 80, 81, 82, 83, 84, 85] V V16 := agV.tr ajV16 (by decide) (by decide)
  have zlZ18 : ZL Z Z18 := zlZ18
  have zoZ18 : ZL Z Z18 := ZL.tr zoZ zlZ18
  have ziZ18 := zlZ18.1
  have zjZ18 := zlZ18.2.1
  have zkZ18 := zlZ18.2.2.1
  have zmZ18 := zoZ18.1
  have znZ18 := zoZ18.2.1
  have zpZ_Z18 := zoZ.1
  have zqZ_Z18 := zoZ.2.1
  have y14 : H.size ≤ Hk8.size + (zcc Z - zcc Z18) := by rw [hHk8]; exact y14
  have y15 : tot H ≤ tot Hk8 + (zss Z - zss Z18) := by rw [hHk8]; exact y15
  refine W.tight (k := zcc Z - zcc Z18) (n := zss Z - zss Z18) (by first | exact tg9 y14 k9 zlZ18.1 zoZ.1 | omega) (by first | exact tg9 y15 k10 zlZ18.2.1 zoZ.2.1 | omega) ?_
  have hl : lv_has ls 5 [(0, .ref (ad 5)), (1, .ref (Z18.fa gf)), (2, .int p1), (3, .int p2)] := by rw [zlZ18.2.2.2.2 gf hgf]; exact hl
  have ilf19 : f19 < Z18.nf := ilf19
  have t20 : ME V V16 f19 := t20
  have t21 : V16 67 f19 = 3 ∧ V16 68 f19 = 0 ∧ V16 70 f19 = (V 70 gf) ∧ V16 71 f19 = (V 71 gf) ∧ V16 75 f19 = 0 ∧ V16 76 f19 = 0 := t21
  have t22 : (f19 : Int) + 1 = (V16 5 6).toInt := t22
  have t23 : (f19 : Int) ≤ (V 5 6).toInt ∧ (V 5 6).toInt ≤ (f19 : Int) + 1 := t23
  have t24 : (V16 5 9).toInt = 0 := t24
  have t25 : Z18.ln = Z.ln ∧ Z18.nf ≤ 400 := t25
  have r26 : 0 ≤ ((V16 5 6)).toInt ∧ ((V16 5 6)).toInt ≤ 400 := hMV16 5 6
  have r27 : 0 ≤ ((V16 5 9)).toInt ∧ ((V16 5 9)).toInt ≤ 3 := hMV16 5 9
  have pr28 : (V16 67 f19).toInt = 3 := (congrArg Int32.toInt t21.1).trans (by decide)
  have pr29 : (V16 68 f19).toInt = 0 := (congrArg Int32.toInt t21.2.1).trans (by decide)
  have pr30 : (V16 70 f19).toInt = ((V 70 gf)).toInt := (congrArg Int32.toInt t21.2.2.1)
  have pr31 : (V16 71 f19).toInt = ((V 71 gf)).toInt := (congrArg Int32.toInt t21.2.2.2.1)
  have pr32 : (V16 75 f19).toInt = 0 := (congrArg Int32.toInt t21.2.2.2.2.1).trans (by decide)
  have pr33 : (V16 76 f19).toInt = 0 := (congrArg Int32.toInt t21.2.2.2.2.2).trans (by decide)
  refine lv_astore (lv' := [(4, .ref (Z18.fa f19)), (0, .ref (ad 5)), (1, .ref (Z18.fa gf)), (2, .int p1), (3, .int p2)]) hx hb dX5_pushInside_21 hl (by decide) rfl (fun ls hl => ?_)
  refine lv_aload hx hb dX5_pushInside_23 (lv_at hl 0 rfl) ?_
  refine lv_aload_n hx hb dX5_pushInside_25 rfl (lv_at hl 2 rfl) ?_
  have il34 : gf < Z18.nf := by omega
  refine va_getN (D := D) (ci := 4) (v := .int (V16 73 gf)) (fs := (xfFrame V16 gf)) (C := RX4) (T := TX4) (N := 19) hx hb hg inX4 hown hK hP (336 + gf) (xgFrame il34) rfl 6 (by decide) (hnw.use 1195 n1195 rfl) (fun _ h9 => h9) rfl dX5_pushInside_26 ?_
  have r35 : 0 ≤ ((V16 73 gf)).toInt ∧ ((V16 73 gf)).toInt ≤ 19 := hMV16 73 gf
  refine va_putN (D := D) (ci := 4) (v := .int (V16 73 gf)) (ty := tyX4 6) (fs := (xfFrame V16 f19)) (C := RX4) (T := TX4) (N := 19) hx hb hg inX4 tyX4 tyX4_ok nmX4 hown hK hP hD hS (336 + f19) (xgFrame ilf19) rfl 6 (by decide) (hnw.use 1195 n1195 rfl) (fun _ h9 => h9) rfl (tyX4_ok 6 (by decide)) rfl rfl (Nat.le_of_ble_eq_true rfl) dX5_pushInside_29 (fun H locs hP hD hS => ?_)
  obtain ⟨V36, hV36⟩ : ∃ z, z = up2 V16 73 f19 (V16 73 gf) := ⟨_, rfl⟩
  have ew37 : (xw ad kk V16 L Z18).set (336 + f19) ((Z18.fa f19), .inr (4, (xfFrame V16 f19).set 6 (.int (V16 73 gf)))) = xw ad kk V36 L Z18 := by rw [hV36]; exact xpFrame_method ilf19
  have hP : va_P D vwCl (xw ad kk V36 L Z18) H := by rw [← ew37]; exact hP
  have hD : va_D A (xw ad kk V36 L Z18) := by rw [← ew37]; exact hD
  have hMV36 : rgd bX V36 := hMV16.put hV36 (show 0 ≤ ((V16 73 gf)).toInt ∧ ((V16 73 gf)).toInt ≤ 19 from by (first | exact om_0916ac166aa8 r35.1 r35.2 | omega))
  have agV36 : agr [(5, 6), (5, 9)] [67, 68, 69, 70, 71, 72, 73, 74, 75, 76, 77, 78, 79, 80, 81, 82, 83, 84, 85] V V36 := agV16.up hV36 rfl
  refine lv_aload hx hb dX5_pushInside_32 (lv_at hl 0 rfl) ?_
  refine lv_iload_n hx hb dX5_pushInside_34 rfl (lv_at hl 4 rfl) ?_
  refine va_putN (D := D) (ci := 4) (v := .int p2) (ty := tyX4 7) (fs := (xfFrame V36 f19)) (C := RX4) (T := TX4) (N := 19) hx hb hg inX4 tyX4 tyX4_ok nmX4 hown hK hP hD hS (336 + f19) (xgFrame ilf19) rfl 7 (by decide) (hnw.use 1196 n1196 rfl) (fun _ h9 => h9) rfl (tyX4_ok 7 (by decide)) rfl rfl (Nat.le_of_ble_eq_true rfl) dX5_pushInside_35 (fun H locs hP hD hS => ?_)
  obtain ⟨V38, hV38⟩ : ∃ z, z = up2 V36 74 f19 p2 := ⟨_, rfl⟩
  have ew39 : (xw ad kk V36 L Z18).set (336 + f19) ((Z18.fa f19), .inr (4, (xfFrame V36 f19).set 7 (.int p2))) = xw ad kk V38 L Z18 := by rw [hV38]; exact xpFrame_arg ilf19
  have hP : va_P D vwCl (xw ad kk V38 L Z18) H := by rw [← ew39]; exact hP
  have hD : va_D A (xw ad kk V38 L Z18) := by rw [← ew39]; exact hD
  have hMV38 : rgd bX V38 := hMV36.put hV38 (i_full _)
  have agV38 : agr [(5, 6), (5, 9)] [67, 68, 69, 70, 71, 72, 73, 74, 75, 76, 77, 78, 79, 80, 81, 82, 83, 84, 85] V V38 := agV36.up hV38 rfl
  refine lv_aload hx hb dX5_pushInside_38 (lv_at hl 0 rfl) ?_
  refine lv_iload_n hx hb dX5_pushInside_40 rfl (lv_at hl 3 rfl) ?_
  refine va_putN (D := D) (ci := 4) (v := .int p1) (ty := tyX4 8) (fs := (xfFrame V38 f19)) (C := RX4) (T := TX4) (N := 19) hx hb hg inX4 tyX4 tyX4_ok nmX4 hown hK hP hD hS (336 + f19) (xgFrame ilf19) rfl 8 (by decide) (hnw.use 1197 n1197 rfl) (fun _ h9 => h9) rfl (tyX4_ok 8 (by decide)) rfl rfl (Nat.le_of_ble_eq_true rfl) dX5_pushInside_41 (fun H locs hP hD hS => ?_)
  obtain ⟨V40, hV40⟩ : ∃ z, z = up2 V38 75 f19 p1 := ⟨_, rfl⟩
  have ew41 : (xw ad kk V38 L Z18).set (336 + f19) ((Z18.fa f19), .inr (4, (xfFrame V38 f19).set 8 (.int p1))) = xw ad kk V40 L Z18 := by rw [hV40]; exact xpFrame_position ilf19
  have hP : va_P D vwCl (xw ad kk V40 L Z18) H := by rw [← ew41]; exact hP
  have hD : va_D A (xw ad kk V40 L Z18) := by rw [← ew41]; exact hD
  have hMV40 : rgd bX V40 := hMV38.put hV40 (show 0 ≤ p1.toInt ∧ p1.toInt ≤ 12 from by (first | exact om_8dd06492493b rg_p1.1 rg_p1.2 | omega))
  have agV40 : agr [(5, 6), (5, 9)] [67, 68, 69, 70, 71, 72, 73, 74, 75, 76, 77, 78, 79, 80, 81, 82, 83, 84, 85] V V40 := agV38.up hV40 rfl
  have me42 : ME V V40 f19 := (ME.up (ME.up (ME.up (ME.tr ME.rf t20) hV36 (Or.inl ⟨by decide, by decide, Nat.le_refl _⟩)) hV38 (Or.inl ⟨by decide, by decide, Nat.le_refl _⟩)) hV40 (Or.inl ⟨by decide, by decide, Nat.le_refl _⟩))
  have pq43 : (V40 67 f19).toInt = ((V16 67 f19)).toInt := congrArg Int32.toInt ((up2_o hV40 (by decide)).trans ((up2_o hV38 (by decide)).trans (up2_o hV36 (by decide))))
  have pq44 : (V40 68 f19).toInt = ((V16 68 f19)).toInt := congrArg Int32.toInt ((up2_o hV40 (by decide)).trans ((up2_o hV38 (by decide)).trans (up2_o hV36 (by decide))))
  have pq45 : (V40 70 f19).toInt = ((V16 70 f19)).toInt := congrArg Int32.toInt ((up2_o hV40 (by decide)).trans ((up2_o hV38 (by decide)).trans (up2_o hV36 (by decide))))
  have pq46 : (V40 71 f19).toInt = ((V16 71 f19)).toInt := congrArg Int32.toInt ((up2_o hV40 (by decide)).trans ((up2_o hV38 (by decide)).trans (up2_o hV36 (by decide))))
  have r47 : (-1) ≤ ((V16 71 f19)).toInt ∧ ((V16 71 f19)).toInt ≤ 23 := hMV16 71 f19
  have pq48 : (V40 75 f19).toInt = p1.toInt := congrArg Int32.toInt (up2_s hV40)
  have pq49 : (V40 76 f19).toInt = ((V16 76 f19)).toInt := congrArg Int32.toInt ((up2_o hV40 (by decide)).trans ((up2_o hV38 (by decide)).trans (up2_o hV36 (by decide))))
  have pq50 : (V40 80 f19).toInt = ((V16 80 f19)).toInt := congrArg Int32.toInt ((up2_o hV40 (by decide)).trans ((up2_o hV38 (by decide)).trans (up2_o hV36 (by decide))))
  have r51 : 0 ≤ ((V16 80 f19)).toInt ∧ ((V16 80 f19)).toInt ≤ 300 := hMV16 80 f19
  have pq52 : (V40 84 f19).toInt = ((V16 84 f19)).toInt := congrArg Int32.toInt ((up2_o hV40 (by decide)).trans ((up2_o hV38 (by decide)).trans (up2_o hV36 (by decide))))
  have r53 : 0 ≤ ((V16 84 f19)).toInt ∧ ((V16 84 f19)).toInt ≤ 2147483647 := hMV16 84 f19
  have pq54 : (V40 5 6).toInt = ((V16 5 6)).toInt := congrArg Int32.toInt ((up2_o hV40 (by decide)).trans ((up2_o hV38 (by decide)).trans (up2_o hV36 (by decide))))
  have pq55 : (V40 5 8).toInt = ((V 5 8)).toInt := congrArg Int32.toInt ((up2_o hV40 (by decide)).trans ((up2_o hV38 (by decide)).trans ((up2_o hV36 (by decide)).trans (ajV16 5 8 rfl))))
  have r56 : 0 ≤ ((V 5 8)).toInt ∧ ((V 5 8)).toInt ≤ 300 := hMV 5 8
  have pq57 : (V40 5 9).toInt = ((V16 5 9)).toInt := congrArg Int32.toInt ((up2_o hV40 (by decide)).trans ((up2_o hV38 (by decide)).trans (up2_o hV36 (by decide))))
  have pq58 : (V40 3 13).toInt = ((V 3 13)).toInt := congrArg Int32.toInt ((up2_o hV40 (by decide)).trans ((up2_o hV38 (by decide)).trans ((up2_o hV36 (by decide)).trans (ajV16 3 13 rfl))))
  have pq59 : (V40 43 (5 * b + 2)).toInt = ((V 43 (5 * b + 2))).toInt := congrArg Int32.toInt ((up2_o hV40 (by decide)).trans ((up2_o hV38 (by decide)).trans ((up2_o hV36 (by decide)).trans (ajV16 43 (5 * b + 2) rfl))))
  have pq60 : (V40 42 b).toInt = ((V 42 b)).toInt := congrArg Int32.toInt ((up2_o hV40 (by decide)).trans ((up2_o hV38 (by decide)).trans ((up2_o hV36 (by decide)).trans (ajV16 42 b rfl))))
  have r61 : 0 ≤ ((V 42 b)).toInt ∧ ((V 42 b)).toInt ≤ 8200 := hMV 42 b
  have pq62 : (V40 41 b).toInt = ((V 41 b)).toInt := congrArg Int32.toInt ((up2_o hV40 (by decide)).trans ((up2_o hV38 (by decide)).trans ((up2_o hV36 (by decide)).trans (ajV16 41 b rfl))))
  have r63 : 0 ≤ ((V 41 b)).toInt ∧ ((V 41 b)).toInt ≤ 12 := hMV 41 b
  have rp64 : MJ V40 Z18 b := MT.pu (v := False) mt (by omega) me42 t25.1 (by omega) t25.2 (FK.k3 (by omega) (by omega) (by omega) (by omega)) (fun h => absurd h (by omega)) (by omega) (by omega)
  refine W.know (fun kr1 kr2 => ?_)
  refine W.widen (k := zcc Z) (n := zss Z) (Nat.sub_le _ _) (Nat.sub_le _ _) ?_
  exact W.vret hx hb hr (fun t ht hW => ⟨⟨(V40, L, Z18), rfl, ⟨hMV40, agV40, rfl, zoZ18, rp64⟩, ⟨by rw [ht]; exact hP, va_K.moved hW.alike hK, hD⟩, by rw [ht]; exact kr1, by rw [ht]; exact kr2⟩, hS.F ht⟩) hS.2.2 dX5_pushInside_44
end
section
/-- the last row gets a credit -/
theorem sm_last {g : Nat → Nat} (m : Nat) : ∀ n, sm (fun i => if i + 1 = m then g i + 1 else g i) n ≤ sm g n + (if m < n + 1 then 1 else 0)
  | 0 => Nat.zero_le _
  | n + 1 => by
    have ih := sm_last (g := g) m n
    show sm (fun i => if i + 1 = m then g i + 1 else g i) n + (if n + 1 = m then g n + 1 else g n) ≤ sm g n + g n + _
    by_cases h : n + 1 = m
    · rw [if_pos h, if_pos (by omega)]
      rw [if_neg (by omega)] at ih
      omega
    · rw [if_neg h]
      by_cases h2 : m < n + 1
      · rw [if_pos h2] at ih
        rw [if_pos (by omega)]
        omega
      · rw [if_neg h2] at ih
        rw [if_neg (by omega)]
        omega
theorem MI.lastb {V : Vf} {Z : XZ} {b n r : Nat} {g : Nat → Nat} {w v u : Prop} (h : MI V Z b g n r w v u) (hr : 1 ≤ r) : MI V Z b (fun i => if i + 1 = n then g i + 1 else g i) n (r - 1) w True u := by
  refine ⟨h.sl, h.nf, h.dn, h.sz, h.oc, h.md, h.mk2, ?_, h.o0, ?_, h.tx, h.cd, h.mb, h.ln, h.pt⟩
  · intro i hi
    show FK V b (if i + 1 = n then g i + 1 else g i) i (i + 1 < n ∨ w) (vI V n True u i)
    have f := h.fk i hi
    by_cases e : i + 1 = n
    · rw [if_pos e]
      have f2 := f.w (y := g i + 1) (w' := i + 1 < n ∨ w) (v' := False) id False.elim (Nat.le_succ _)
      exact ⟨f2.1, f2.2.1, f2.2.2.1, f2.2.2.2.1, f2.2.2.2.2.1, f2.2.2.2.2.2.1, f2.2.2.2.2.2.2.1, f2.2.2.2.2.2.2.2.1, f2.2.2.2.2.2.2.2.2.1, fun _ _ _ => Nat.succ_le_succ (Nat.zero_le _)⟩
    · rw [if_neg e]
      exact f.w id (fun z => z.elim Or.inl (fun a => absurd a.1 e)) (Nat.le_refl _)
  · have p := h.pot
    have s := sm_last (g := g) n n
    have : (if n < n + 1 then 1 else 0) = 1 := if_pos (by omega)
    omega
/-- fewer are held as made: the top frame is a root; what is left over may go to the one below -/
theorem MO.mcnt {V W : Vf} {Z : XZ} {b d : Nat} {w v u w' v' u' : Prop} {y : Int32} (h : MO V Z b d w v u) (hk : (V 67 d).toInt = 0) (e : W = up2 V 5 8 y) (h1 : (V 80 d).toInt ≤ y.toInt) (h2 : y.toInt ≤ (V 5 8).toInt) (h3 : 0 ≤ y.toInt) (q3 : u' → u ∨ y.toInt + 1 ≤ (V 5 8).toInt) : MO W Z b d w' v' u' := by
  obtain ⟨g, r, x, h0, hx, hF, hm⟩ := h
  have o : ∀ c k, ¬ (c = 5 ∧ k = 8) → W c k = V c k := fun c k q => by rw [e]; exact up2_pl q
  have e8 : W 5 8 = y := up2_s e
  have hB : BE V W := fun c k a1 a2 => o c k (by omega)
  have e43 : W 43 (5 * b + 2) = V 43 (5 * b + 2) := o _ _ (by omega)
  have e13 : W 3 13 = V 3 13 := o _ _ (by omega)
  have o0 := h0.o0
  have nf : FK W b x d w' v' := FK.k0 (by rw [o 67 d (by omega)]; exact hk) (by rw [o 80 d (by omega), e8]; exact h1)
  have key : MI W Z b g d (r + ((V 5 8).toInt - y.toInt).toNat) True ((V 67 d).toInt ≠ 0 ∨ u) True := by
    refine ⟨?_, h0.nf, h0.dn, by rw [e43]; exact h0.sz, ?_, ?_, ?_, ?_, by rw [e13, o 3 15 (by omega), e8]; exact ⟨o0.1, o0.2.1, h3⟩, ?_, h0.tx.be hB, h0.cd.be hB, by rw [o 5 5 (by omega)]; exact h0.mb, h0.ln, ?_⟩
    · unfold SL
      rw [o 3 15 (by omega), e13]
      exact ⟨h0.sl.1, h0.sl.2.1, fun o' k a1 a2 => by rw [o 30 _ (by omega)]; exact h0.sl.2.2.1 o' k a1 a2, fun i a1 => by rw [o 32 _ (by omega)]; exact h0.sl.2.2.2 i a1⟩
    · intro i hi
      rw [e13] at hi
      rw [o 26 _ (by omega), e43]
      exact h0.oc i hi
    · intro i hi
      rw [e8] at hi
      rw [o 40 _ (by omega), e13]
      exact h0.md i (by omega)
    · intro i j a1 a2
      rw [o 67 i (by omega), o 67 j (by omega), o 80 i (by omega), o 80 j (by omega)]
      exact h0.mk2 i j a1 a2
    · intro i hi
      have f := h0.fk i hi
      have ev : vI W d ((V 67 d).toInt ≠ 0 ∨ u) True i = vI V d ((V 67 d).toInt ≠ 0 ∨ u) True i := by unfold vI; rw [o 67 (d - 1) (by omega)]
      rw [ev]
      unfold FK at f ⊢
      rw [o 67 i (by omega), o 68 i (by omega), o 70 i (by omega), o 71 i (by omega), o 75 i (by omega), o 76 i (by omega), o 80 i (by omega), o 84 i (by omega), e43, o 42 b (by omega), o 41 b (by omega), e13, hB.bd, e8]
      refine ⟨f.1, f.2.1, f.2.2.1, f.2.2.2.1, f.2.2.2.2.1, f.2.2.2.2.2.1, fun k => ?_, f.2.2.2.2.2.2.2⟩
      have := hm hk i hi k
      omega
    · have p := h0.pot
      rw [o 3 15 (by omega), e13, e8, o 44 0 (by omega)]
      omega
    · intro k hk'
      rw [o 25 _ (by omega), e13]
      refine ⟨(h0.pt k hk').1, fun o' h1' => ?_⟩
      rw [o 26 _ (by omega)]
      exact (h0.pt k hk').2 o' h1'
  have hm' : (W 67 d).toInt = 0 → ∀ i, i < d → (W 67 i).toInt = 0 → (W 80 i).toInt ≤ (W 80 d).toInt := by
    intro k i a1 a2
    rw [o 80 i (by omega), o 80 d (by omega)]
    rw [o 67 i (by omega)] at a2
    exact hm hk i a1 a2
  by_cases z : y.toInt + 1 ≤ (V 5 8).toInt
  · have kb := key.lastb (by omega)
    exact ⟨_, _, x, kb.w id (fun _ => trivial) id (Nat.le_refl _), by omega, nf, hm'⟩
  · exact ⟨g, _, x, key.w id (fun a => a.elim (fun c => absurd (by rw [o 67 d (by omega)]; exact hk) c) (fun c => Or.inr ((q3 c).resolve_right z))) id (Nat.le_refl _), by omega, nf, hm'⟩
def mrl2 (fs : List (Nat × Nat)) (cs : List Nat) : Bool := fs.all (fun y => decide (y.1 ≤ 6) && !([(3, 15), (5, 5), (5, 6), (5, 8)].contains y)) && cs.all (fun c => decide (7 ≤ c) && decide (c ≤ 40) && !([32, 40].contains c))
theorem mrl2_no {fs : List (Nat × Nat)} {cs : List Nat} (q : mrl2 fs cs = true) {c k : Nat} (h : (41 ≤ c) ∨ c = 32 ∨ c = 40 ∨ (c, k) = (3, 15) ∨ (c, k) = (5, 5) ∨ (c, k) = (5, 6) ∨ (c, k) = (5, 8)) : wrL fs cs c k = false := by
  unfold mrl2 at q
  rw [Bool.and_eq_true, List.all_eq_true, List.all_eq_true] at q
  unfold wrL
  rw [Bool.or_eq_false_iff]
  refine ⟨?_, ?_⟩
  · rw [← Bool.not_eq_true]
    intro z
    have y := q.1 _ (List.contains_iff_mem.mp z)
    rw [Bool.and_eq_true] at y
    have y1 : c ≤ 6 := of_decide_eq_true y.1
    have y2 := y.2
    rcases h with h | h | h | h | h | h | h
    · omega
    · omega
    · omega
    all_goals (rw [h] at y2; exact absurd y2 (by decide))
  · rw [← Bool.not_eq_true]
    intro z
    have y := q.2 _ (List.contains_iff_mem.mp z)
    rw [Bool.and_eq_true, Bool.and_eq_true] at y
    have y1 : c ≤ 40 := of_decide_eq_true y.1.2
    have y0 : 7 ≤ c := of_decide_eq_true y.1.1
    have y2 := y.2
    rcases h with h | h | h | h | h | h | h
    · omega
    · rw [h] at y2; exact absurd y2 (by decide)
    · rw [h] at y2; exact absurd y2 (by decide)
    all_goals (have := congrArg Prod.fst h; simp only at this; omega)
/-- an object more -/
theorem MI.ob {fs : List (Nat × Nat)} {cs : List Nat} {V W : Vf} {Z : XZ} {b n r o : Nat} {g : Nat → Nat} {w v u : Prop} (h : MI V Z b g n r w v u) (a : agr fs cs V W) (q : mrl2 fs cs = true) (sl : SL W Z) (ho : (o : Int) = (V 3 13).toInt) (h13 : (W 3 13).toInt = (V 3 13).toInt + 1) (h300 : (W 3 13).toInt ≤ 300) (e26 : ∀ q : Nat, ¬ q = o → W 26 q = V 26 q) (n26 : (W 26 o).toInt < (V 43 (5 * b + 2)).toInt) (e25 : ∀ k : Nat, k < 960 → W 25 k = V 25 k ∨ ((W 25 k).toInt = (o : Int) ∧ (W 26 o).toInt = ((k % 24 : Nat) : Int))) : MI W Z b g n (r + 203) w v u := by
  have hB : BE V W := fun c k a1 _ => a c k (mrl2_no q (Or.inl a1))
  have er : ∀ c k, 67 ≤ c → W c k = V c k := fun c k a1 => a c k (mrl2_no q (Or.inl (by omega)))
  have e15 : W 3 15 = V 3 15 := a _ _ (mrl2_no q (by simp))
  have e5 : W 5 5 = V 5 5 := a _ _ (mrl2_no q (by simp))
  have e8 : W 5 8 = V 5 8 := a _ _ (mrl2_no q (by simp))
  have e40 : ∀ k, W 40 k = V 40 k := fun k => a _ _ (mrl2_no q (by simp))
  have e43 : W 43 (5 * b + 2) = V 43 (5 * b + 2) := hB _ _ (by decide) (by decide)
  have o0 := h.o0
  refine ⟨sl, h.nf, h.dn, by rw [e43]; exact h.sz, ?_, ?_, ?_, ?_, ⟨⟨by omega, h300⟩, by rw [e15, e8]; exact o0.2⟩, ?_, h.tx.be hB, h.cd.be hB, by rw [e5]; exact h.mb, h.ln, ?_⟩
  · intro i hi
    rw [e43]
    by_cases e : i = o
    · rw [e]; exact n26
    · rw [e26 i e]; exact h.oc i (by omega)
  · intro i hi
    rw [e8] at hi
    rw [e40, h13]
    have := h.md i hi
    omega
  · intro i j a1 a2
    rw [er 67 i (by decide), er 67 j (by decide), er 80 i (by decide), er 80 j (by decide)]
    exact h.mk2 i j a1 a2
  · intro i hi
    have f := h.fk i hi
    have ev : vI W n v u i = vI V n v u i := by unfold vI; rw [er 67 (n - 1) (by decide)]
    rw [ev]
    unfold FK at f ⊢
    rw [er 67 i (by decide), er 68 i (by decide), er 70 i (by decide), er 71 i (by decide), er 75 i (by decide), er 76 i (by decide), er 80 i (by decide), er 84 i (by decide), e43, hB 42 b (by decide) (by decide), hB 41 b (by decide) (by decide), hB.bd, e8, h13]
    refine ⟨f.1, fun a1 a2 => ?_, f.2.2⟩
    have := f.2.1 a1 a2
    omega
  · have p := h.pot
    rw [e15, h13, e8, hB 44 0 (by decide) (by decide)]
    omega
  · intro k hk
    rcases e25 k hk with z | z
    · have q2 := (h.pt k hk).1
      rw [z, h13]
      refine ⟨by omega, fun o' h1 => ?_⟩
      rw [e26 o' (by omega)]
      exact (h.pt k hk).2 o' h1
    · rw [z.1, h13]
      refine ⟨by omega, fun o' h1 => ?_⟩
      rw [show o' = o from by omega]
      exact z.2
/-- MTw, with room for x links -/
def MTx (V : Vf) (Z : XZ) (b x : Nat) : Prop := ∃ g r, x + 1 ≤ r ∧ MI V Z b g (V 5 6).toInt.toNat r True True False
theorem MTw.ob {fs : List (Nat × Nat)} {cs : List Nat} {V W : Vf} {Z : XZ} {b o : Nat} (h : MTw V Z b) (a : agr fs cs V W) (q : mrl2 fs cs = true) (sl : SL W Z) (ho : (o : Int) = (V 3 13).toInt) (h13 : (W 3 13).toInt = (V 3 13).toInt + 1) (h300 : (W 3 13).toInt ≤ 300) (e26 : ∀ q : Nat, ¬ q = o → W 26 q = V 26 q) (n26 : (W 26 o).toInt < (V 43 (5 * b + 2)).toInt) (e25 : ∀ k : Nat, k < 960 → W 25 k = V 25 k ∨ ((W 25 k).toInt = (o : Int) ∧ (W 26 o).toInt = ((k % 24 : Nat) : Int))) : MTx W Z b 202 := by
  obtain ⟨g, r, h⟩ := h
  have e6 : W 5 6 = V 5 6 := a _ _ (mrl2_no q (by simp))
  exact ⟨g, r + 203, by omega, by rw [e6]; exact h.ob a q sl ho h13 h300 e26 n26 e25⟩
theorem MTx.pu {V W : Vf} {Z Z' : XZ} {b f x : Nat} {v : Prop} (h : MTx V Z b x) (hf : (f : Int) ≤ (V 5 6).toInt ∧ (V 5 6).toInt ≤ (f : Int) + 1) (m : ME V W f) (ez : Z'.ln = Z.ln) (h1 : f + 1 ≤ Z'.nf) (h2 : Z'.nf ≤ 400) (hx : FK W b x f True v) (hm : (W 67 f).toInt = 0 → W 80 f = W 5 8) (e : (W 5 6).toInt = (f : Int) + 1) (q : ¬ (W 5 9).toInt = 1) : MJ W Z' b := by
  obtain ⟨g, r, hxr, h⟩ := h
  exact (h.bump (by omega)).pu (by omega) hf m ez h1 h2 hx hm e trivial (fun z => absurd z.1 q) (fun _ => trivial)
/-- one more is held as made: the frame's life goes there -/
theorem MO.made {V V1 W : Vf} {Z : XZ} {b d k : Nat} {w v u : Prop} {x y : Int32} (h : MO V Z b d w v u) (hk : (V 67 d).toInt = 1) (e1 : V1 = up2 V 5 8 y) (e2 : W = up2 V1 40 k x) (hy : y.toInt = (V 5 8).toInt + 1) (hj : (k : Int) = (V 5 8).toInt) (hx : x.toInt < (V 3 13).toInt) : MP W Z b d True := by
  obtain ⟨g, r, z, h0, hz, hF, hm⟩ := h
  have z1 := (hF.2.2.2.2.2.1 hk).1
  have o0 := h0.o0
  have o : ∀ c k', ¬ (c = 5 ∧ k' = 8) → c ≠ 40 → W c k' = V c k' := fun c k' q q2 => by rw [e2, up2_pl (fun a => q2 a.1), e1]; exact up2_pl q
  have e8 : W 5 8 = y := by rw [e2, up2_pl (by omega), e1]; exact up2_s rfl
  have e40 : ∀ i, i ≠ k → W 40 i = V 40 i := fun i q => by rw [e2, up2_pl (by omega), e1]; exact up2_pl (by omega)
  have n40 : W 40 k = x := up2_s e2
  have hB : BE V W := fun c k' a1 a2 => o c k' (by omega) (by omega)
  have e43 : W 43 (5 * b + 2) = V 43 (5 * b + 2) := o _ _ (by omega) (by omega)
  have e13 : W 3 13 = V 3 13 := o _ _ (by omega) (by omega)
  refine ⟨g, r - 1, ⟨?_, h0.nf, h0.dn, by rw [e43]; exact h0.sz, ?_, ?_, ?_, fun i hi => ?_, by rw [e13, o 3 15 (by omega) (by omega), e8]; exact ⟨o0.1, o0.2.1, by omega⟩, ?_, h0.tx.be hB, h0.cd.be hB, by rw [o 5 5 (by omega) (by omega)]; exact h0.mb, h0.ln, ?_⟩⟩
  · unfold SL
    rw [o 3 15 (by omega) (by omega), e13]
    exact ⟨h0.sl.1, h0.sl.2.1, fun o' k' a1 a2 => by rw [o 30 _ (by omega) (by omega)]; exact h0.sl.2.2.1 o' k' a1 a2, fun i a1 => by rw [o 32 _ (by omega) (by omega)]; exact h0.sl.2.2.2 i a1⟩
  · intro i hi
    rw [e13] at hi
    rw [o 26 _ (by omega) (by omega), e43]
    exact h0.oc i hi
  · intro i hi
    rw [e8] at hi
    rw [e13]
    by_cases q : i = k
    · rw [q, n40]; exact hx
    · rw [e40 i q]; exact h0.md i (by omega)
  · intro i j a1 a2
    rw [o 67 i (by omega) (by omega), o 67 j (by omega) (by omega), o 80 i (by omega) (by omega), o 80 j (by omega) (by omega)]
    exact h0.mk2 i j a1 a2
  · have f := (h0.fk i hi).w (y := g i) (w' := i + 1 < d ∨ True) (v' := vI V d True True i) id (fun z => z.elim Or.inl (fun a => Or.inr ⟨a.1, Or.inl (by omega)⟩)) (Nat.le_refl _)
    have ev : vI W d True True i = vI V d True True i := by unfold vI; rw [o 67 (d - 1) (by omega) (by omega)]
    rw [ev]
    unfold FK at f ⊢
    rw [o 67 i (by omega) (by omega), o 68 i (by omega) (by omega), o 70 i (by omega) (by omega), o 71 i (by omega) (by omega), o 75 i (by omega) (by omega), o 76 i (by omega) (by omega), o 80 i (by omega) (by omega), o 84 i (by omega) (by omega), e43, o 42 b (by omega) (by omega), o 41 b (by omega) (by omega), e13, hB.bd, e8]
    refine ⟨f.1, f.2.1, f.2.2.1, f.2.2.2.1, f.2.2.2.2.1, f.2.2.2.2.2.1, fun a1 => ?_, f.2.2.2.2.2.2.2⟩
    have := f.2.2.2.2.2.2.1 a1
    omega
  · have p := h0.pot
    rw [o 3 15 (by omega) (by omega), e13, e8, o 44 0 (by omega) (by omega)]
    omega
  · intro k' hk'
    rw [o 25 _ (by omega) (by omega), e13]
    refine ⟨(h0.pt k' hk').1, fun o' h1 => ?_⟩
    rw [o 26 _ (by omega) (by omega)]
    exact (h0.pt k' hk').2 o' h1

theorem n622 : lw_tbl[622]? = some (Cond.fieldLinkNest RX5 276 "WiringHouse$Book" "wrapOrder" "[I" "WiringHouse") := la9 (n := 155) (i := 467) lz9 (la9 (n := 240) (i := 227) ln9_1 (lb9 (i := 227) (by decide +kernel)))
theorem n620 : lw_tbl[620]? = some (Cond.fieldLinkNest RX5 279 "WiringHouse$Book" "wraps" "[LWiringHouse$Wrap;" "WiringHouse") := la9 (n := 155) (i := 465) lz9 (la9 (n := 240) (i := 225) ln9_1 (lb9 (i := 225) (by decide +kernel)))
theorem n579 : lw_tbl[579]? = some (Cond.fieldLinkNest RX5 283 "WiringHouse$Wrap" "phase" "I" "WiringHouse") := la9 (n := 155) (i := 424) lz9 (la9 (n := 240) (i := 184) ln9_1 (lb9 (i := 184) (by decide +kernel)))
theorem w1410 : Cond.code yX7_noteThing cX7_noteThing 4 none ∈ GW := gw_k tk9_6 55 (rfl) rfl
theorem w1407 : Cond.methodLink RX5 286 yX7_noteThing ∈ GW := gw_k tk9_6 52 (by decide +kernel) rfl
theorem w1408 : Cond.instanceMethod yX7_noteThing ∈ GW := gw_k tk9_6 53 (by decide +kernel) rfl
theorem w1409 : Cond.selects RX7 yX7_noteThing yX7_noteThing ∈ GW := gw_k tk9_6 54 (by decide +kernel) rfl
theorem hdV_yX7_noteThing : yX7_noteThing.cls = RX7 ∧ yX7_noteThing.cls ≠ "java/lang/invoke/MethodHandle" ∧ yX7_noteThing.cls ≠ "java/lang/invoke/VarHandle" ∧ (parseMethodDescriptor yX7_noteThing.desc).map (fun d => d.parameters.length) = some 3 := by decide +kernel
theorem n581 : lw_tbl[581]? = some (Cond.fieldLinkNest RX5 289 "WiringHouse$Wrap" "start" "I" "WiringHouse") := la9 (n := 155) (i := 426) lz9 (la9 (n := 240) (i := 186) ln9_1 (lb9 (i := 186) (by decide +kernel)))
theorem w1379 : Cond.code yX5_pushWork cX5_pushWork 5 (some (.object "WiringHouse$Frame")) ∈ GW := gw_k tk9_6 24 (rfl) rfl
theorem w1376 : Cond.methodLink RX5 231 yX5_pushWork ∈ GW := gw_k tk9_6 21 (by decide +kernel) rfl
theorem w1378 : Cond.instanceMethod yX5_pushWork ∈ GW := gw_k tk9_6 23 (by decide +kernel) rfl
theorem w57 : Cond.selects RX5 yX5_pushWork yX5_pushWork ∈ GW := gw_mem 57 (by decide +kernel) rfl
theorem hdV_yX5_pushWork : yX5_pushWork.cls = RX5 ∧ yX5_pushWork.cls ≠ "java/lang/invoke/MethodHandle" ∧ yX5_pushWork.cls ≠ "java/lang/invoke/VarHandle" ∧ (parseMethodDescriptor yX5_pushWork.desc).map (fun d => d.parameters.length) = some 3 := by decide +kernel
theorem dk9_dX5_workWrap_0_0 : dOk cX5_workWrap [(0, .aload_n 0, 1), (1, .getfield 24, 3), (4, .getfield 276, 3), (7, .iload_n 2, 1), (8, .iaload, 1), (9, .istore 4, 2), (11, .aload_n 0, 1), (12, .getfield 24, 3), (15, .getfield 279, 3), (18, .iload 4, 2), (20, .aaload, 1), (21, .astore 5, 2), (23, .aload_n 0, 1), (24, .getfield 32, 3), (27, .aload 5, 2), (29, .getfield 283, 3), (32, .iload 4, 2), (34, .iload_n 3, 1), (35, .invokevirtual 286, 3), (38, .aload_n 0, 1), (39, .aload_n 1, 1), (40, .aload 5, 2), (42, .getfield 289, 3), (45, .iload_n 3, 1)] = true ∧ dOk cX5_workWrap [(46, .invokevirtual 231, 3), (49, .areturn, 1)] = true := by decide +kernel
theorem dX5_workWrap_0 : decode cX5_workWrap 0 = .ok (.aload_n 0, 1) := dr9 dk9_dX5_workWrap_0_0.1 0 (0, .aload_n 0, 1) rfl
theorem dX5_workWrap_1 : decode cX5_workWrap 1 = .ok (.getfield 24, 3) := dr9 dk9_dX5_workWrap_0_0.1 1 (1, .getfield 24, 3) rfl
theorem dX5_workWrap_4 : decode cX5_workWrap 4 = .ok (.getfield 276, 3) := dr9 dk9_dX5_workWrap_0_0.1 2 (4, .getfield 276, 3) rfl
theorem dX5_workWrap_7 : decode cX5_workWrap 7 = .ok (.iload_n 2, 1) := dr9 dk9_dX5_workWrap_0_0.1 3 (7, .iload_n 2, 1) rfl
theorem dX5_workWrap_8 : decode cX5_workWrap 8 = .ok (.iaload, 1) := dr9 dk9_dX5_workWrap_0_0.1 4 (8, .iaload, 1) rfl
theorem dX5_workWrap_9 : decode cX5_workWrap 9 = .ok (.istore 4, 2) := dr9 dk9_dX5_workWrap_0_0.1 5 (9, .istore 4, 2) rfl
theorem dX5_workWrap_11 : decode cX5_workWrap 11 = .ok (.aload_n 0, 1) := dr9 dk9_dX5_workWrap_0_0.1 6 (11, .aload_n 0, 1) rfl
theorem dX5_workWrap_12 : decode cX5_workWrap 12 = .ok (.getfield 24, 3) := dr9 dk9_dX5_workWrap_0_0.1 7 (12, .getfield 24, 3) rfl
theorem dX5_workWrap_15 : decode cX5_workWrap 15 = .ok (.getfield 279, 3) := dr9 dk9_dX5_workWrap_0_0.1 8 (15, .getfield 279, 3) rfl
theorem dX5_workWrap_18 : decode cX5_workWrap 18 = .ok (.iload 4, 2) := dr9 dk9_dX5_workWrap_0_0.1 9 (18, .iload 4, 2) rfl
theorem dX5_workWrap_20 : decode cX5_workWrap 20 = .ok (.aaload, 1) := dr9 dk9_dX5_workWrap_0_0.1 10 (20, .aaload, 1) rfl
theorem dX5_workWrap_21 : decode cX5_workWrap 21 = .ok (.astore 5, 2) := dr9 dk9_dX5_workWrap_0_0.1 11 (21, .astore 5, 2) rfl
theorem dX5_workWrap_23 : decode cX5_workWrap 23 = .ok (.aload_n 0, 1) := dr9 dk9_dX5_workWrap_0_0.1 12 (23, .aload_n 0, 1) rfl
theorem dX5_workWrap_24 : decode cX5_workWrap 24 = .ok (.getfield 32, 3) := dr9 dk9_dX5_workWrap_0_0.1 13 (24, .getfield 32, 3) rfl
theorem dX5_workWrap_27 : decode cX5_workWrap 27 = .ok (.aload 5, 2) := dr9 dk9_dX5_workWrap_0_0.1 14 (27, .aload 5, 2) rfl
theorem dX5_workWrap_29 : decode cX5_workWrap 29 = .ok (.getfield 283, 3) := dr9 dk9_dX5_workWrap_0_0.1 15 (29, .getfield 283, 3) rfl
theorem dX5_workWrap_32 : decode cX5_workWrap 32 = .ok (.iload 4, 2) := dr9 dk9_dX5_workWrap_0_0.1 16 (32, .iload 4, 2) rfl
theorem dX5_workWrap_34 : decode cX5_workWrap 34 = .ok (.iload_n 3, 1) := dr9 dk9_dX5_workWrap_0_0.1 17 (34, .iload_n 3, 1) rfl
theorem dX5_workWrap_35 : decode cX5_workWrap 35 = .ok (.invokevirtual 286, 3) := dr9 dk9_dX5_workWrap_0_0.1 18 (35, .invokevirtual 286, 3) rfl
theorem dX5_workWrap_38 : decode cX5_workWrap 38 = .ok (.aload_n 0, 1) := dr9 dk9_dX5_workWrap_0_0.1 19 (38, .aload_n 0, 1) rfl
theorem dX5_workWrap_39 : decode cX5_workWrap 39 = .ok (.aload_n 1, 1) := dr9 dk9_dX5_workWrap_0_0.1 20 (39, .aload_n 1, 1) rfl
theorem dX5_workWrap_40 : decode cX5_workWrap 40 = .ok (.aload 5, 2) := dr9 dk9_dX5_workWrap_0_0.1 21 (40, .aload 5, 2) rfl
theorem dX5_workWrap_42 : decode cX5_workWrap 42 = .ok (.getfield 289, 3) := dr9 dk9_dX5_workWrap_0_0.1 22 (42, .getfield 289, 3) rfl
theorem dX5_workWrap_45 : decode cX5_workWrap 45 = .ok (.iload_n 3, 1) := dr9 dk9_dX5_workWrap_0_0.1 23 (45, .iload_n 3, 1) rfl
theorem dX5_workWrap_46 : decode cX5_workWrap 46 = .ok (.invokevirtual 231, 3) := dr9 dk9_dX5_workWrap_0_0.2 0 (46, .invokevirtual 231, 3) rfl
theorem dX5_workWrap_49 : decode cX5_workWrap 49 = .ok (.areturn, 1) := dr9 dk9_dX5_workWrap_0_0.2 1 (49, .areturn, 1) rfl
abbrev r_x_workWrap (Z : XZ) : Room := { frames := 4, cells := zcc Z, slots := zss Z, locals := 90 }
abbrev q_x_workWrap (D : va_G) (ks : KS) (ad : Nat → Nat) (kk : Nat → ClassId) (V : Vf) (L : Lf) (Z : XZ) (p1 : Int32) (p2 : Int32) (b : Nat) (gf : Nat) (A : Nat → Prop) : Array Value → State → Outcome → State → Prop := qZr D (fun (u : Vf × Lf × XZ × Nat) => rgd bX u.1 ∧ agr [(4, 5), (5, 6), (5, 9)] [33, 34, 35, 67, 68, 69, 70, 71, 72, 73, 74, 75, 76, 77, 78, 79, 80, 81, 82, 83, 84, 85] V u.1 ∧ u.2.1 = L ∧ ZL Z u.2.2.1 ∧ (u.2.2.2 < u.2.2.1.nf) ∧ (MJ u.1 u.2.2.1 b) ∧ ((u.2.2.2 : Int) + 1 = (u.1 5 6).toInt) ∧ ((u.1 67 u.2.2.2).toInt = 4 ∧ (u.1 68 u.2.2.2).toInt = 0) ∧ ((u.1 5 9).toInt = 0)) (fun u => u.2.2.1.fa u.2.2.2) (fun u => xw ad kk u.1 u.2.1 u.2.2.1) (fun u => xty kk u.2.2.1) (fun u => zcc Z - zcc u.2.2.1) (fun u => zss Z - zss u.2.2.1) A
set_option maxHeartbeats 4000000 in
set_option maxRecDepth 100000 in
theorem x_workWrap (l : Launch) (D : va_G) (ks : KS) (sz : Nat) (ad : Nat → Nat) (kk : Nat → ClassId) (V : Vf) (L : Lf) (Z : XZ) (p1 : Int32) (p2 : Int32) (b : Nat) (gf : Nat) (hMV : rgd bX V) (rg_p1 : 0 ≤ p1.toInt ∧ p1.toInt ≤ 11) (hb2 : b < 2) (hgf : gf < Z.nf) (mt : MT V Z b) (hcm : 0 ≤ (V 71 gf).toInt ∧ (V 71 gf).toInt < (V 43 (5 * b + 2)).toInt) (hob : 0 ≤ (V 70 gf).toInt ∧ (V 70 gf).toInt < (V 3 13).toInt) (hat : p1.toInt < (V 41 b).toInt)  : Met l yX5_workWrap (Cond.code yX5_workWrap cX5_workWrap 6 (some (.object "WiringHouse$Frame")) :: GW) (r_x_workWrap Z) (va_Pc [.ref (ad 5), .ref (Z.fa gf), .int p1, .int p2] (gp D ks (xw ad kk V L Z) (xty kk Z) sz)) (q_x_workWrap D ks ad kk V L Z p1 p2 b gf (va_A (xw ad kk V L Z) sz)) (zcc Z) (zss Z) (va_A (xw ad kk V L Z) sz) := by
  refine g_met (q_x_workWrap D ks ad kk V L Z p1 p2 b gf) (by decide) (Nat.le_of_ble_eq_true rfl) ?_
  intro p e s m below meth c A ls H locs hx hb hr hml hown hg hlocks hin hnw hgk hP hK hD hS hA hl
  have hown : s.vm.findClass RX5 = some m.cls := hown
  have hl : lv_has ls 6 [(0, .ref (ad 5)), (1, .ref (Z.fa gf)), (2, .int p1), (3, .int p2)] := hl
  have hP : va_P D vwCl (xw ad kk V L Z) H := hP
  have hD : va_D A (xw ad kk V L Z) := hD
  have hK : va_K D vwCl (xty kk Z) s := hK
  have agV : agr [(4, 5), (5, 6), (5, 9)] [33, 34, 35, 67, 68, 69, 70, 71, 72, 73, 74, 75, 76, 77, 78, 79, 80, 81, 82, 83, 84, 85] V V := agr.rf
  have zoZ : ZL Z Z := ZL.rf
  refine W.know (fun ka kb => ?_)
  refine W.tight (k := zcc Z - zcc Z) (n := zss Z - zss Z) (by omega) (by omega) ?_
  have r1 : (-1) ≤ ((V 71 gf)).toInt ∧ ((V 71 gf)).toInt ≤ 23 := hMV 71 gf
  have r2 : 0 ≤ ((V 43 (5 * b + 2))).toInt ∧ ((V 43 (5 * b + 2))).toInt ≤ ((xcap (5 * b + 2) : Nat) : Int) := hMV 43 (5 * b + 2)
  have r3 : xcap (5 * b + 2) = 24 := xcap_2
  have r4 : 0 ≤ ((V 3 13)).toInt ∧ ((V 3 13)).toInt ≤ 300 := hMV 3 13
  have r5 : 0 ≤ ((V 41 b)).toInt ∧ ((V 41 b)).toInt ≤ 12 := hMV 41 b
  have r6 : 0 ≤ ((V 5 6)).toInt ∧ ((V 5 6)).toInt ≤ 400 := hMV 5 6
  have kdp := i_clamp (x := V 5 6) rfl (by (first | exact om_eafa9039069c r6.1 | omega))
  have hdn := MT.dn mt (by (first | exact om_eafa9039069c r6.1 | omega))
  have mup := MT.up mt
  have msz := mup.1
  have mbk := mup.2.2.2.1
  refine lv_aload_n hx hb dX5_workWrap_0 rfl (lv_at hl 0 rfl) ?_
  refine va_get (D := D) (ci := 5) (v := .ref (ad (38 + Int32.toNatClampNeg (V 5 5)))) (fs := (xfMachine ad V L Z)) (C := RX5) (T := TX5) (N := 15) hx hb hg inX5 hown hK hP 5 xgMachine rfl 5 (by decide) (hg _ w672) (fun _ h9 => h9) rfl dX5_workWrap_1 ?_
  have r7 : 0 ≤ ((V 5 5)).toInt ∧ ((V 5 5)).toInt ≤ 1 := hMV 5 5
  refine g_topv (v := .ref (ad (38 + b))) (rfP (by omega)) ?_
  refine va_getN (D := D) (ci := 0) (v := .ref (ad (68 + b))) (fs := (xfBook ad V b)) (C := RX0) (T := TX0) (N := 13) hx hb hg inX0 hown hK hP (38 + b) (xgBook hb2) rfl 9 (by decide) (hnw.use 622 n622 rfl) (fun _ h9 => h9) rfl dX5_workWrap_4 ?_
  refine lv_iload_n hx hb dX5_workWrap_7 rfl (lv_at hl 2 rfl) ?_
  have il8 : b < 2 := by (first | exact om_f940a4667dd6 hb2 | omega)
  refine va_iald (D := D) (i := p1) hx hb hK hP (68 + b) (61 + b) (xgwrapOrder il8) (xtwrapOrder il8) (i_in (a := p1.toInt) rfl (by (first | exact om_da83cce65d18 rg_p1.1 rg_p1.2 | omega))) dX5_workWrap_8 ?_
  have kc9 := i_clamp (x := p1) rfl (by (first | exact om_eafa9039069c rg_p1.1 | omega))
  refine g_top (v := V 47 (12 * b + (Int32.toNatClampNeg p1))) (if_pos (by omega)) ?_
  have r10 : 0 ≤ ((V 47 (12 * b + (Int32.toNatClampNeg p1)))).toInt ∧ ((V 47 (12 * b + (Int32.toNatClampNeg p1)))).toInt ≤ 11 := hMV 47 (12 * b + (Int32.toNatClampNeg p1))
  refine lv_istore (lv' := [(4, .int (V 47 (12 * b + (Int32.toNatClampNeg p1)))), (0, .ref (ad 5)), (1, .ref (Z.fa gf)), (2, .int p1), (3, .int p2)]) hx hb dX5_workWrap_9 hl (by decide) rfl (fun ls hl => ?_)
  have kcp := i_clamp (x := p1) rfl (by (first | exact om_eafa9039069c rg_p1.1 | omega))
  have htx := mup.2.1.2.2 (Int32.toNatClampNeg p1) (by omega)
  have kcw := i_clamp (x := (V 47 (12 * b + (Int32.toNatClampNeg p1)))) rfl (by (first | exact om_eafa9039069c r10.1 | omega))
  have hgs := mup.2.1.2.1 (Int32.toNatClampNeg (V 47 (12 * b + (Int32.toNatClampNeg p1)))) (by omega)
  refine lv_aload_n hx hb dX5_workWrap_11 rfl (lv_at hl 1 rfl) ?_
  refine va_get (D := D) (ci := 5) (v := .ref (ad (38 + Int32.toNatClampNeg (V 5 5)))) (fs := (xfMachine ad V L Z)) (C := RX5) (T := TX5) (N := 15) hx hb hg inX5 hown hK hP 5 xgMachine rfl 5 (by decide) (hg _ w672) (fun _ h9 => h9) rfl dX5_workWrap_12 ?_
  refine g_topv (v := .ref (ad (38 + b))) (rfP (by omega)) ?_
  refine va_getN (D := D) (ci := 0) (v := .ref (ad (66 + b))) (fs := (xfBook ad V b)) (C := RX0) (T := TX0) (N := 13) hx hb hg inX0 hown hK hP (38 + b) (xgBook hb2) rfl 8 (by decide) (hnw.use 620 n620 rfl) (fun _ h9 => h9) rfl dX5_workWrap_15 ?_
  refine lv_iload hx hb dX5_workWrap_18 (lv_at hl 0 rfl) ?_
  have il11 : b < 2 := by (first | exact om_f940a4667dd6 hb2 | omega)
  refine va_aldq (D := D) (i := (V 47 (12 * b + (Int32.toNatClampNeg p1)))) hx hb hK hP (66 + b) (59 + b) (xgwrapsA il11) (xtwrapsA il11) (i_in (a := ((V 47 (12 * b + (Int32.toNatClampNeg p1)))).toInt) rfl (by (first | exact om_da83cce65d18 r10.1 r10.2 | omega))) dX5_workWrap_20 ?_
  have kc12 := i_clamp (x := (V 47 (12 * b + (Int32.toNatClampNeg p1)))) rfl (by (first | exact om_eafa9039069c r10.1 | omega))
  refine g_topv (v := .ref (ad (312 + (12 * b + (Int32.toNatClampNeg (V 47 (12 * b + (Int32.toNatClampNeg p1)))))))) (congrArg va_rf (if_pos (by omega))) ?_
  have il13 : (12 * b + (Int32.toNatClampNeg (V 47 (12 * b + (Int32.toNatClampNeg p1))))) < 24 := by (first | exact om_a98cd8d2da4e hb2 r10.2 kc12 | omega)
  refine lv_astore (lv' := [(5, .ref (ad (312 + (12 * b + (Int32.toNatClampNeg (V 47 (12 * b + (Int32.toNatClampNeg p1)))))))), (4, .int (V 47 (12 * b + (Int32.toNatClampNeg p1)))), (0, .ref (ad 5)), (1, .ref (Z.fa gf)), (2, .int p1), (3, .int p2)]) hx hb dX5_workWrap_21 hl (by decide) rfl (fun ls hl => ?_)
  refine lv_aload_n hx hb dX5_workWrap_23 rfl (lv_at hl 2 rfl) ?_
  refine va_get (D := D) (ci := 5) (v := .ref (ad 4)) (fs := (xfMachine ad V L Z)) (C := RX5) (T := TX5) (N := 15) hx hb hg inX5 hown hK hP 5 xgMachine rfl 1 (by decide) (hg _ w668) (fun _ h9 => h9) rfl dX5_workWrap_24 ?_
  refine lv_aload hx hb dX5_workWrap_27 (lv_at hl 0 rfl) ?_
  refine va_getN (D := D) (ci := 10) (v := .int (V 65 (12 * b + (Int32.toNatClampNeg (V 47 (12 * b + (Int32.toNatClampNeg p1))))))) (fs := (xfWrap V (12 * b + (Int32.toNatClampNeg (V 47 (12 * b + (Int32.toNatClampNeg p1))))))) (C := RX10) (T := TX10) (N := 5) hx hb hg inX10 hown hK hP (312 + (12 * b + (Int32.toNatClampNeg (V 47 (12 * b + (Int32.toNatClampNeg p1)))))) (xgWrap il13) rfl 3 (by decide) (hnw.use 579 n579 rfl) (fun _ h9 => h9) rfl dX5_workWrap_29 ?_
  refine lv_iload hx hb dX5_workWrap_32 (lv_at hl 1 rfl) ?_
  refine lv_iload_n hx hb dX5_workWrap_34 rfl (lv_at hl 5 rfl) ?_
  refine gA_void (gA_runV (As := [.int (V 65 (12 * b + (Int32.toNatClampNeg (V 47 (12 * b + (Int32.toNatClampNeg p1)))))), .int (V 47 (12 * b + (Int32.toNatClampNeg p1))), .int p2]) (rest := []) (ci := 7) (q0 := 4) hx hb hml hown hg hP hD hK hS hA hnw hgk (x_NnoteThing l D ks H.size ad kk V L Z (V 65 (12 * b + (Int32.toNatClampNeg (V 47 (12 * b + (Int32.toNatClampNeg p1)))))) (V 47 (12 * b + (Int32.toNatClampNeg p1))) p2 hMV ) w1407 w1408 w1409 w166 w1410 rfl xgNotes hdV_yX7_noteThing ⟨Nat.le_of_ble_eq_true rfl, Nat.le_of_ble_eq_true rfl⟩ rfl hl.1 rfl (Nat.le_of_ble_eq_true rfl) dX5_workWrap_35 ⟨z0, z0⟩) hP hD hK hS hA (fun u15 H locs w16 hP hD hK hS => ?_)
  obtain ⟨V17, L18⟩ := u15
  obtain ⟨hMV17, ajV17, axL18⟩ := w16
  have axL18 : L = L18 := Eq.symm axL18
  subst axL18
  have hP : va_P D vwCl (xw ad kk V17 L Z) H := hP
  have hD : va_D A (xw ad kk V17 L Z) := hD
  have hMV17 : rgd bX V17 := hMV17
  have ajV17 : agr [(4, 5)] [33, 34, 35] V V17 := ajV17
  have agV17 : agr [(4, 5), (5, 6), (5, 9)] [33, 34, 35, 67, 68, 69, 70, 71, 72, 73, 74, 75, 76, 77, 78, 79, 80, 81, 82, 83, 84, 85] V V17 := agV.tr ajV17 (by decide) (by decide)
  refine lv_aload_n hx hb dX5_workWrap_38 rfl (lv_at hl 2 rfl) ?_
  refine lv_aload_n hx hb dX5_workWrap_39 rfl (lv_at hl 3 rfl) ?_
  refine lv_aload hx hb dX5_workWrap_40 (lv_at hl 0 rfl) ?_
  refine va_getN (D := D) (ci := 10) (v := .int (V17 66 (12 * b + (Int32.toNatClampNeg (V 47 (12 * b + (Int32.toNatClampNeg p1))))))) (fs := (xfWrap V17 (12 * b + (Int32.toNatClampNeg (V 47 (12 * b + (Int32.toNatClampNeg p1))))))) (C := RX10) (T := TX10) (N := 5) hx hb hg inX10 hown hK hP (312 + (12 * b + (Int32.toNatClampNeg (V 47 (12 * b + (Int32.toNatClampNeg p1)))))) (xgWrap il13) rfl 4 (by decide) (hnw.use 581 n581 rfl) (fun _ h9 => h9) rfl dX5_workWrap_42 ?_
  refine g_top (v := (V 66 (12 * b + (Int32.toNatClampNeg (V 47 (12 * b + (Int32.toNatClampNeg p1))))))) (ajV17 66 (12 * b + (Int32.toNatClampNeg (V 47 (12 * b + (Int32.toNatClampNeg p1))))) rfl) ?_
  have r19 : 0 ≤ ((V 66 (12 * b + (Int32.toNatClampNeg (V 47 (12 * b + (Int32.toNatClampNeg p1))))))).toInt ∧ ((V 66 (12 * b + (Int32.toNatClampNeg (V 47 (12 * b + (Int32.toNatClampNeg p1))))))).toInt ≤ 8200 := hMV 66 (12 * b + (Int32.toNatClampNeg (V 47 (12 * b + (Int32.toNatClampNeg p1)))))
  refine lv_iload_n hx hb dX5_workWrap_45 rfl (lv_at hl 5 rfl) ?_
  have pq20 : (V17 71 gf).toInt = ((V 71 gf)).toInt := congrArg Int32.toInt (ajV17 71 gf rfl)
  have pq21 : (V17 43 (5 * b + 2)).toInt = ((V 43 (5 * b + 2))).toInt := congrArg Int32.toInt (ajV17 43 (5 * b + 2) rfl)
  have pq22 : (V17 3 13).toInt = ((V 3 13)).toInt := congrArg Int32.toInt (ajV17 3 13 rfl)
  have pq23 : (V17 70 gf).toInt = ((V 70 gf)).toInt := congrArg Int32.toInt (ajV17 70 gf rfl)
  have me24 : ME V V17 400 := (ME.tr ME.rf (ME.ag ajV17 (by decide)))
  have mt25 : MT V17 Z b := MT.me mt me24 (ajV17 5 6 rfl)
  have me26 : ME V V17 0 := (ME.tr ME.rf (ME.ag ajV17 (by decide)))
  have ha27 : (V17 42 b).toInt ≤ ((V 66 (12 * b + (Int32.toNatClampNeg (V 47 (12 * b + (Int32.toNatClampNeg p1))))))).toInt ∨ (bdp V17 b (((V 66 (12 * b + (Int32.toNatClampNeg (V 47 (12 * b + (Int32.toNatClampNeg p1))))))).toInt).toNat).1 = true := by rw [me26.1.bd, me26.1 42 b (by decide) (by decide)]; exact gs.fk hgs (hMV 42 b).2
  refine W.know (fun k29 k30 => ?_)
  obtain ⟨Hk28, hHk28⟩ : ∃ z, z = H := ⟨_, rfl⟩
  have k29 : Hk28.size ≤ s.heap.size + (zcc Z - zcc Z) := by rw [hHk28]; exact k29
  have k30 : tot Hk28 ≤ tot s.heap + (zss Z - zss Z) := by rw [hHk28]; exact k30
  refine gZ_ref (gA_runV (As := [.ref (Z.fa gf), .int (V 66 (12 * b + (Int32.toNatClampNeg (V 47 (12 * b + (Int32.toNatClampNeg p1)))))), .int p2]) (rest := []) (ci := 5) (q0 := 5) hx hb hml hown hg hP hD hK hS hA hnw hgk (x_pushWork l D ks H.size ad kk V17 L Z (V 66 (12 * b + (Int32.toNatClampNeg (V 47 (12 * b + (Int32.toNatClampNeg p1)))))) p2 (b) (gf) hMV17 (by (first | exact om_e81ebfc6b250 r19.1 r19.2 | omega)) (show b < 2 from by (first | exact om_f940a4667dd6 hb2 | omega)) (show gf < Z.nf from by (first | exact om_8c5722e49bb1 hgf | omega)) mt25 (show 0 ≤ (V17 71 gf).toInt ∧ (V17 71 gf).toInt < (V17 43 (5 * b + 2)).toInt from by (first | exact om_a269f3c8aec5 hcm.1 hcm.2 pq20 pq21 | omega)) (show 0 ≤ (V17 70 gf).toInt ∧ (V17 70 gf).toInt < (V17 3 13).toInt from by (first | exact om_9cffcb132c39 hob.1 hob.2 pq22 pq23 | omega)) ha27) w1376 w1378 w57 w171 w1379 rfl xgMachine hdV_yX5_pushWork ⟨Nat.le_of_ble_eq_true rfl, Nat.le_of_ble_eq_true rfl⟩ rfl hl.1 rfl (Nat.le_of_ble_eq_true rfl) dX5_workWrap_46 ⟨z1 zoZ.1, z1 zoZ.2.1⟩) hD hS hA (fun u32 H locs w33 hP hD hK hS y34 y35 => ?_)
  obtain ⟨V36, L37, Z38, f39⟩ := u32
  obtain ⟨hMV36, ajV36, axL37, zlZ38, ilf39, t40, t41, t42, t43⟩ := w33
  have axL37 : L = L37 := Eq.symm axL37
  subst axL37
  have hP : va_P D vwCl (xw ad kk V36 L Z38) H := hP
  have hD : va_D A (xw ad kk V36 L Z38) := hD
  have hK : va_K D vwCl (xty kk Z38) s := hK
  have hMV36 : rgd bX V36 := hMV36
  have ajV36 : agr [(5, 6), (5, 9)] [67, 68, 69, 70, 71, 72, 73, 74, 75, 76, 77, 78, 79, 80, 81, 82, 83, 84, 85] V17 V36 := ajV36
  have agV36 : agr [(4, 5), (5, 6), (5, 9)] [33, 34, 35, 67, 68, 69, 70, 71, 72, 73, 74, 75, 76, 77, 78, 79, 80, 81, 82, 83, 84, 85] V V36 := agV17.tr ajV36 (by decide) (by decide)
  have zlZ38 : ZL Z Z38 := zlZ38
  have zoZ38 : ZL Z Z38 := ZL.tr zoZ zlZ38
  have ziZ38 := zlZ38.1
  have zjZ38 := zlZ38.2.1
  have zkZ38 := zlZ38.2.2.1
  have zmZ38 := zoZ38.1
  have znZ38 := zoZ38.2.1
  have zpZ_Z38 := zoZ.1
  have zqZ_Z38 := zoZ.2.1
  have y34 : H.size ≤ Hk28.size + (zcc Z - zcc Z38) := by rw [hHk28]; exact y34
  have y35 : tot H ≤ tot Hk28 + (zss Z - zss Z38) := by rw [hHk28]; exact y35
  refine W.tight (k := zcc Z - zcc Z38) (n := zss Z - zss Z38) (by first | exact tg9 y34 k29 zlZ38.1 zoZ.1 | omega) (by first | exact tg9 y35 k30 zlZ38.2.1 zoZ.2.1 | omega) ?_
  have hl : lv_has ls 6 [(5, .ref (ad (312 + (12 * b + (Int32.toNatClampNeg (V 47 (12 * b + (Int32.toNatClampNeg p1)))))))), (4, .int (V 47 (12 * b + (Int32.toNatClampNeg p1)))), (0, .ref (ad 5)), (1, .ref (Z38.fa gf)), (2, .int p1), (3, .int p2)] := by rw [zlZ38.2.2.2.2 gf hgf]; exact hl
  have ilf39 : f39 < Z38.nf := ilf39
  have t40 : MJ V36 Z38 b := t40
  have t41 : (f39 : Int) + 1 = (V36 5 6).toInt := t41
  have t42 : (V36 67 f39).toInt = 4 ∧ (V36 68 f39).toInt = 0 := t42
  have t43 : (V36 5 9).toInt = 0 := t43
  have r44 : 0 ≤ ((V36 5 6)).toInt ∧ ((V36 5 6)).toInt ≤ 400 := hMV36 5 6
  have r45 : 0 ≤ ((V36 5 9)).toInt ∧ ((V36 5 9)).toInt ≤ 3 := hMV36 5 9
  refine W.know (fun kr1 kr2 => ?_)
  refine W.widen (k := zcc Z) (n := zss Z) (Nat.sub_le _ _) (Nat.sub_le _ _) ?_
  exact W.aret (v := .ref (Z38.fa f39)) hx hb hr (Or.inl ⟨_, rfl⟩) (Or.inr ⟨_, rfl⟩) (fun t ht hW => ⟨⟨(V36, L, Z38, f39), rfl, ⟨hMV36, agV36, rfl, zoZ38, ilf39, t40, (show (f39 : Int) + 1 = (V36 5 6).toInt from by omega), t42, (show (V36 5 9).toInt = 0 from by (first | exact om_b66ba74381d5 t43 | omega))⟩, ⟨by rw [ht]; exact hP, va_K.moved hW.alike hK, hD⟩, by rw [ht]; exact kr1, by rw [ht]; exact kr2⟩, hS.F ht⟩) hS.2.2 dX5_workWrap_49
end
section
theorem w1284 : Cond.code yX5_takesStep cX5_takesStep 1 (some .boolean) ∈ GW := gw_k tk9_5 169 (rfl) rfl
theorem w1281 : Cond.methodLink RX5 207 yX5_takesStep ∈ GW := gw_k tk9_5 166 (by decide +kernel) rfl
theorem w1283 : Cond.instanceMethod yX5_takesStep ∈ GW := gw_k tk9_5 168 (by decide +kernel) rfl
theorem w48 : Cond.selects RX5 yX5_takesStep yX5_takesStep ∈ GW := gw_mem 48 (by decide +kernel) rfl
theorem hdV_yX5_takesStep : yX5_takesStep.cls = RX5 ∧ yX5_takesStep.cls ≠ "java/lang/invoke/MethodHandle" ∧ yX5_takesStep.cls ≠ "java/lang/invoke/VarHandle" ∧ (parseMethodDescriptor yX5_takesStep.desc).map (fun d => d.parameters.length) = some 0 := by decide +kernel
theorem w1289 : Cond.code yX8_beginObject cX8_beginObject 5 (some .int) ∈ GW := gw_k tk9_5 174 (rfl) rfl
theorem w1286 : Cond.methodLink RX5 211 yX8_beginObject ∈ GW := gw_k tk9_5 171 (by decide +kernel) rfl
theorem w1287 : Cond.instanceMethod yX8_beginObject ∈ GW := gw_k tk9_5 172 (by decide +kernel) rfl
theorem w1288 : Cond.selects RX8 yX8_beginObject yX8_beginObject ∈ GW := gw_k tk9_5 173 (by decide +kernel) rfl
theorem hdV_yX8_beginObject : yX8_beginObject.cls = RX8 ∧ yX8_beginObject.cls ≠ "java/lang/invoke/MethodHandle" ∧ yX8_beginObject.cls ≠ "java/lang/invoke/VarHandle" ∧ (parseMethodDescriptor yX8_beginObject.desc).map (fun d => d.parameters.length) = some 3 := by decide +kernel
theorem w1264 : Cond.code yX5_failWith cX5_failWith 3 none ∈ GW := gw_k tk9_5 149 (rfl) rfl
theorem w1261 : Cond.methodLink RX5 169 yX5_failWith ∈ GW := gw_k tk9_5 146 (by decide +kernel) rfl
theorem w1263 : Cond.instanceMethod yX5_failWith ∈ GW := gw_k tk9_5 148 (by decide +kernel) rfl
theorem w46 : Cond.selects RX5 yX5_failWith yX5_failWith ∈ GW := gw_mem 46 (by decide +kernel) rfl
theorem hdV_yX5_failWith : yX5_failWith.cls = RX5 ∧ yX5_failWith.cls ≠ "java/lang/invoke/MethodHandle" ∧ yX5_failWith.cls ≠ "java/lang/invoke/VarHandle" ∧ (parseMethodDescriptor yX5_failWith.desc).map (fun d => d.parameters.length) = some 2 := by decide +kernel
theorem w1260 : Cond.methodLink RX5 172 yX0_has ∈ GW := gw_k tk9_5 145 (by decide +kernel) rfl
theorem w1265 : Cond.methodLink RX5 185 yX8_placeOf ∈ GW := gw_k tk9_5 150 (by decide +kernel) rfl
theorem w1269 : Cond.methodLink RX5 189 yX8_isSpoiled ∈ GW := gw_k tk9_5 154 (by decide +kernel) rfl
theorem w1280 : Cond.code yX5_beginMaking cX5_beginMaking 6 none ∈ GW := gw_k tk9_5 165 (rfl) rfl
theorem w1277 : Cond.methodLink RX5 196 yX5_beginMaking ∈ GW := gw_k tk9_5 162 (by decide +kernel) rfl
theorem w1279 : Cond.instanceMethod yX5_beginMaking ∈ GW := gw_k tk9_5 164 (by decide +kernel) rfl
theorem w47 : Cond.selects RX5 yX5_beginMaking yX5_beginMaking ∈ GW := gw_mem 47 (by decide +kernel) rfl
theorem hdV_yX5_beginMaking : yX5_beginMaking.cls = RX5 ∧ yX5_beginMaking.cls ≠ "java/lang/invoke/MethodHandle" ∧ yX5_beginMaking.cls ≠ "java/lang/invoke/VarHandle" ∧ (parseMethodDescriptor yX5_beginMaking.desc).map (fun d => d.parameters.length) = some 4 := by decide +kernel
theorem w1276 : Cond.code yX8_objectAt cX8_objectAt 3 (some .int) ∈ GW := gw_k tk9_5 161 (rfl) rfl
theorem w1273 : Cond.methodLink RX5 193 yX8_objectAt ∈ GW := gw_k tk9_5 158 (by decide +kernel) rfl
theorem w1274 : Cond.instanceMethod yX8_objectAt ∈ GW := gw_k tk9_5 159 (by decide +kernel) rfl
theorem w1275 : Cond.selects RX8 yX8_objectAt yX8_objectAt ∈ GW := gw_k tk9_5 160 (by decide +kernel) rfl
theorem hdV_yX8_objectAt : yX8_objectAt.cls = RX8 ∧ yX8_objectAt.cls ≠ "java/lang/invoke/MethodHandle" ∧ yX8_objectAt.cls ≠ "java/lang/invoke/VarHandle" ∧ (parseMethodDescriptor yX8_objectAt.desc).map (fun d => d.parameters.length) = some 2 := by decide +kernel
theorem w1299 : Cond.code yX8_isMade cX8_isMade 2 (some .boolean) ∈ GW := gw_k tk9_5 184 (rfl) rfl
theorem w1296 : Cond.methodLink RX5 200 yX8_isMade ∈ GW := gw_k tk9_5 181 (by decide +kernel) rfl
theorem w1297 : Cond.instanceMethod yX8_isMade ∈ GW := gw_k tk9_5 182 (by decide +kernel) rfl
theorem w1298 : Cond.selects RX8 yX8_isMade yX8_isMade ∈ GW := gw_k tk9_5 183 (by decide +kernel) rfl
theorem hdV_yX8_isMade : yX8_isMade.cls = RX8 ∧ yX8_isMade.cls ≠ "java/lang/invoke/MethodHandle" ∧ yX8_isMade.cls ≠ "java/lang/invoke/VarHandle" ∧ (parseMethodDescriptor yX8_isMade.desc).map (fun d => d.parameters.length) = some 1 := by decide +kernel
theorem w1323 : Cond.code yX5_pushClose cX5_pushClose 3 none ∈ GW := gw_k tk9_5 208 (rfl) rfl
theorem w1320 : Cond.methodLink RX5 166 yX5_pushClose ∈ GW := gw_k tk9_5 205 (by decide +kernel) rfl
theorem w1321 : Cond.instanceMethod yX5_pushClose ∈ GW := gw_k tk9_5 206 (by decide +kernel) rfl
theorem w1322 : Cond.selects RX5 yX5_pushClose yX5_pushClose ∈ GW := gw_k tk9_5 207 (by decide +kernel) rfl
theorem hdV_yX5_pushClose : yX5_pushClose.cls = RX5 ∧ yX5_pushClose.cls ≠ "java/lang/invoke/MethodHandle" ∧ yX5_pushClose.cls ≠ "java/lang/invoke/VarHandle" ∧ (parseMethodDescriptor yX5_pushClose.desc).map (fun d => d.parameters.length) = some 2 := by decide +kernel
theorem w1319 : Cond.code yX5_undoNext cX5_undoNext 2 none ∈ GW := gw_k tk9_5 204 (rfl) rfl
theorem w1316 : Cond.methodLink RX5 163 yX5_undoNext ∈ GW := gw_k tk9_5 201 (by decide +kernel) rfl
theorem w1318 : Cond.instanceMethod yX5_undoNext ∈ GW := gw_k tk9_5 203 (by decide +kernel) rfl
theorem w52 : Cond.selects RX5 yX5_undoNext yX5_undoNext ∈ GW := gw_mem 52 (by decide +kernel) rfl
theorem hdV_yX5_undoNext : yX5_undoNext.cls = RX5 ∧ yX5_undoNext.cls ≠ "java/lang/invoke/MethodHandle" ∧ yX5_undoNext.cls ≠ "java/lang/invoke/VarHandle" ∧ (parseMethodDescriptor yX5_undoNext.desc).map (fun d => d.parameters.length) = some 1 := by decide +kernel
theorem w1315 : Cond.code yX5_holdFailure cX5_holdFailure 2 none ∈ GW := gw_k tk9_5 200 (rfl) rfl
theorem w1312 : Cond.methodLink RX5 160 yX5_holdFailure ∈ GW := gw_k tk9_5 197 (by decide +kernel) rfl
theorem w1314 : Cond.instanceMethod yX5_holdFailure ∈ GW := gw_k tk9_5 199 (by decide +kernel) rfl
theorem w51 : Cond.selects RX5 yX5_holdFailure yX5_holdFailure ∈ GW := gw_mem 51 (by decide +kernel) rfl
theorem hdV_yX5_holdFailure : yX5_holdFailure.cls = RX5 ∧ yX5_holdFailure.cls ≠ "java/lang/invoke/MethodHandle" ∧ yX5_holdFailure.cls ≠ "java/lang/invoke/VarHandle" ∧ (parseMethodDescriptor yX5_holdFailure.desc).map (fun d => d.parameters.length) = some 1 := by decide +kernel
theorem w1259 : Cond.code yX5_seek cX5_seek 7 none ∈ GW := gw_k tk9_5 144 (rfl) rfl
theorem w1256 : Cond.methodLink RX5 153 yX5_seek ∈ GW := gw_k tk9_5 141 (by decide +kernel) rfl
theorem w1258 : Cond.instanceMethod yX5_seek ∈ GW := gw_k tk9_5 143 (by decide +kernel) rfl
theorem w45 : Cond.selects RX5 yX5_seek yX5_seek ∈ GW := gw_mem 45 (by decide +kernel) rfl
theorem hdV_yX5_seek : yX5_seek.cls = RX5 ∧ yX5_seek.cls ≠ "java/lang/invoke/MethodHandle" ∧ yX5_seek.cls ≠ "java/lang/invoke/VarHandle" ∧ (parseMethodDescriptor yX5_seek.desc).map (fun d => d.parameters.length) = some 3 := by decide +kernel
theorem dk9_dX5_beginMaking_0_0 : dOk cX5_beginMaking [(0, .aload_n 0, 1), (1, .invokevirtual 207, 3), (4, .ifCond .ne 4, 3), (8, .aload_n 0, 1), (9, .getfield 28, 3), (12, .iload_n 1, 1), (13, .iload_n 2, 1), (14, .iload 4, 2), (16, .invokevirtual 211, 3), (19, .istore 5, 2), (21, .iload 5, 2), (23, .iconst (-1), 1), (24, .if_icmp .ne 11, 3), (35, .aload_n 0, 1), (36, .iconst 1, 1), (37, .iload_n 3, 1), (38, .iload 5, 2), (40, .iload_n 1, 1), (41, .iload_n 2, 1), (42, .invokevirtual 119, 3), (45, .pop, 1), (46, .return_, 1), (27, .aload_n 0, 1), (28, .iconst 0, 1)] = true ∧ dOk cX5_beginMaking [(29, .bipush 16, 2), (31, .invokevirtual 169, 3), (34, .return_, 1), (7, .return_, 1)] = true := by decide +kernel
theorem dX5_beginMaking_0 : decode cX5_beginMaking 0 = .ok (.aload_n 0, 1) := dr9 dk9_dX5_beginMaking_0_0.1 0 (0, .aload_n 0, 1) rfl
theorem dX5_beginMaking_1 : decode cX5_beginMaking 1 = .ok (.invokevirtual 207, 3) := dr9 dk9_dX5_beginMaking_0_0.1 1 (1, .invokevirtual 207, 3) rfl
theorem dX5_beginMaking_4 : decode cX5_beginMaking 4 = .ok (.ifCond .ne 4, 3) := dr9 dk9_dX5_beginMaking_0_0.1 2 (4, .ifCond .ne 4, 3) rfl
theorem dX5_beginMaking_8 : decode cX5_beginMaking 8 = .ok (.aload_n 0, 1) := dr9 dk9_dX5_beginMaking_0_0.1 3 (8, .aload_n 0, 1) rfl
theorem dX5_beginMaking_9 : decode cX5_beginMaking 9 = .ok (.getfield 28, 3) := dr9 dk9_dX5_beginMaking_0_0.1 4 (9, .getfield 28, 3) rfl
theorem dX5_beginMaking_12 : decode cX5_beginMaking 12 = .ok (.iload_n 1, 1) := dr9 dk9_dX5_beginMaking_0_0.1 5 (12, .iload_n 1, 1) rfl
theorem dX5_beginMaking_13 : decode cX5_beginMaking 13 = .ok (.iload_n 2, 1) := dr9 dk9_dX5_beginMaking_0_0.1 6 (13, .iload_n 2, 1) rfl
theorem dX5_beginMaking_14 : decode cX5_beginMaking 14 = .ok (.iload 4, 2) := dr9 dk9_dX5_beginMaking_0_0.1 7 (14, .iload 4, 2) rfl
theorem dX5_beginMaking_16 : decode cX5_beginMaking 16 = .ok (.invokevirtual 211, 3) := dr9 dk9_dX5_beginMaking_0_0.1 8 (16, .invokevirtual 211, 3) rfl
theorem dX5_beginMaking_19 : decode cX5_beginMaking 19 = .ok (.istore 5, 2) := dr9 dk9_dX5_beginMaking_0_0.1 9 (19, .istore 5, 2) rfl
theorem dX5_beginMaking_21 : decode cX5_beginMaking 21 = .ok (.iload 5, 2) := dr9 dk9_dX5_beginMaking_0_0.1 10 (21, .iload 5, 2) rfl
theorem dX5_beginMaking_23 : decode cX5_beginMaking 23 = .ok (.iconst (-1), 1) := dr9 dk9_dX5_beginMaking_0_0.1 11 (23, .iconst (-1), 1) rfl
theorem dX5_beginMaking_24 : decode cX5_beginMaking 24 = .ok (.if_icmp .ne 11, 3) := dr9 dk9_dX5_beginMaking_0_0.1 12 (24, .if_icmp .ne 11, 3) rfl
theorem dX5_beginMaking_35 : decode cX5_beginMaking 35 = .ok (.aload_n 0, 1) := dr9 dk9_dX5_beginMaking_0_0.1 13 (35, .aload_n 0, 1) rfl
theorem dX5_beginMaking_36 : decode cX5_beginMaking 36 = .ok (.iconst 1, 1) := dr9 dk9_dX5_beginMaking_0_0.1 14 (36, .iconst 1, 1) rfl
theorem dX5_beginMaking_37 : decode cX5_beginMaking 37 = .ok (.iload_n 3, 1) := dr9 dk9_dX5_beginMaking_0_0.1 15 (37, .iload_n 3, 1) rfl
theorem dX5_beginMaking_38 : decode cX5_beginMaking 38 = .ok (.iload 5, 2) := dr9 dk9_dX5_beginMaking_0_0.1 16 (38, .iload 5, 2) rfl
theorem dX5_beginMaking_40 : decode cX5_beginMaking 40 = .ok (.iload_n 1, 1) := dr9 dk9_dX5_beginMaking_0_0.1 17 (40, .iload_n 1, 1) rfl
theorem dX5_beginMaking_41 : decode cX5_beginMaking 41 = .ok (.iload_n 2, 1) := dr9 dk9_dX5_beginMaking_0_0.1 18 (41, .iload_n 2, 1) rfl
theorem dX5_beginMaking_42 : decode cX5_beginMaking 42 = .ok (.invokevirtual 119, 3) := dr9 dk9_dX5_beginMaking_0_0.1 19 (42, .invokevirtual 119, 3) rfl
theorem dX5_beginMaking_45 : decode cX5_beginMaking 45 = .ok (.pop, 1) := dr9 dk9_dX5_beginMaking_0_0.1 20 (45, .pop, 1) rfl
theorem dX5_beginMaking_46 : decode cX5_beginMaking 46 = .ok (.return_, 1) := dr9 dk9_dX5_beginMaking_0_0.1 21 (46, .return_, 1) rfl
theorem dX5_beginMaking_27 : decode cX5_beginMaking 27 = .ok (.aload_n 0, 1) := dr9 dk9_dX5_beginMaking_0_0.1 22 (27, .aload_n 0, 1) rfl
theorem dX5_beginMaking_28 : decode cX5_beginMaking 28 = .ok (.iconst 0, 1) := dr9 dk9_dX5_beginMaking_0_0.1 23 (28, .iconst 0, 1) rfl
theorem dX5_beginMaking_29 : decode cX5_beginMaking 29 = .ok (.bipush 16, 2) := dr9 dk9_dX5_beginMaking_0_0.2 0 (29, .bipush 16, 2) rfl
theorem dX5_beginMaking_31 : decode cX5_beginMaking 31 = .ok (.invokevirtual 169, 3) := dr9 dk9_dX5_beginMaking_0_0.2 1 (31, .invokevirtual 169, 3) rfl
theorem dX5_beginMaking_34 : decode cX5_beginMaking 34 = .ok (.return_, 1) := dr9 dk9_dX5_beginMaking_0_0.2 2 (34, .return_, 1) rfl
theorem dX5_beginMaking_7 : decode cX5_beginMaking 7 = .ok (.return_, 1) := dr9 dk9_dX5_beginMaking_0_0.2 3 (7, .return_, 1) rfl
theorem dk9_dX5_seek_0_0 : dOk cX5_seek [(0, .aload_n 0, 1), (1, .getfield 24, 3), (4, .iload_n 1, 1), (5, .invokevirtual 172, 3), (8, .ifCond .ne 11, 3), (19, .aload_n 0, 1), (20, .getfield 24, 3), (23, .getfield 178, 3), (26, .iload_n 1, 1), (27, .aaload, 1), (28, .getfield 182, 3), (31, .iconst 3, 1), (32, .if_icmp .eq 7, 3), (39, .iconst 0, 1), (40, .istore 4, 2), (42, .aload_n 0, 1), (43, .getfield 28, 3), (46, .aload_n 0, 1), (47, .getfield 24, 3), (50, .getfield 178, 3), (53, .iload_n 1, 1), (54, .aaload, 1), (55, .getfield 182, 3), (58, .iload_n 2, 1)] = true ∧ dOk cX5_seek [(59, .invokevirtual 185, 3), (62, .istore 5, 2), (64, .iload 5, 2), (66, .iconst (-1), 1), (67, .if_icmp .ne 11, 3), (78, .aload_n 0, 1), (79, .getfield 28, 3), (82, .iload 5, 2), (84, .iload_n 1, 1), (85, .invokevirtual 189, 3), (88, .ifCond .eq 11, 3), (99, .iload 4, 2), (101, .ifCond .eq 16, 3), (117, .iconst (-1), 1), (118, .istore 6, 2), (120, .iload 6, 2), (122, .iconst (-1), 1), (123, .if_icmp .ne 16, 3), (126, .aload_n 0, 1), (127, .iload_n 1, 1), (128, .iload 5, 2), (130, .iload_n 3, 1), (131, .iload 4, 2), (133, .invokevirtual 196, 3)] = true ∧ dOk cX5_seek [(136, .goto 31, 3), (167, .return_, 1), (91, .aload_n 0, 1), (92, .iconst 0, 1), (93, .bipush 15, 2), (95, .invokevirtual 169, 3), (98, .return_, 1), (70, .aload_n 0, 1), (71, .iconst 0, 1), (72, .bipush 14, 2), (74, .invokevirtual 169, 3), (77, .return_, 1), (35, .iconst 1, 1), (36, .goto 4, 3), (104, .aload_n 0, 1), (105, .getfield 28, 3), (108, .iload 5, 2), (110, .iload_n 1, 1), (111, .invokevirtual 193, 3), (114, .goto 4, 3), (139, .aload_n 0, 1), (140, .getfield 28, 3), (143, .iload 6, 2), (145, .invokevirtual 200, 3)] = true ∧ dOk cX5_seek [(148, .ifCond .eq 12, 3), (160, .aload_n 0, 1), (161, .iconst 0, 1), (162, .bipush 12, 2), (164, .invokevirtual 169, 3), (151, .aload_n 0, 1), (152, .iload 6, 2), (154, .invokevirtual 203, 3), (157, .goto 10, 3), (11, .aload_n 0, 1), (12, .iconst 0, 1), (13, .bipush 14, 2), (15, .invokevirtual 169, 3), (18, .return_, 1)] = true := by decide +kernel
theorem dX5_seek_0 : decode cX5_seek 0 = .ok (.aload_n 0, 1) := dr9 dk9_dX5_seek_0_0.1 0 (0, .aload_n 0, 1) rfl
theorem dX5_seek_1 : decode cX5_seek 1 = .ok (.getfield 24, 3) := dr9 dk9_dX5_seek_0_0.1 1 (1, .getfield 24, 3) rfl
theorem dX5_seek_4 : decode cX5_seek 4 = .ok (.iload_n 1, 1) := dr9 dk9_dX5_seek_0_0.1 2 (4, .iload_n 1, 1) rfl
theorem dX5_seek_5 : decode cX5_seek 5 = .ok (.invokevirtual 172, 3) := dr9 dk9_dX5_seek_0_0.1 3 (5, .invokevirtual 172, 3) rfl
theorem dX5_seek_8 : decode cX5_seek 8 = .ok (.ifCond .ne 11, 3) := dr9 dk9_dX5_seek_0_0.1 4 (8, .ifCond .ne 11, 3) rfl
theorem dX5_seek_19 : decode cX5_seek 19 = .ok (.aload_n 0, 1) := dr9 dk9_dX5_seek_0_0.1 5 (19, .aload_n 0, 1) rfl
theorem dX5_seek_20 : decode cX5_seek 20 = .ok (.getfield 24, 3) := dr9 dk9_dX5_seek_0_0.1 6 (20, .getfield 24, 3) rfl
theorem dX5_seek_23 : decode cX5_seek 23 = .ok (.getfield 178, 3) := dr9 dk9_dX5_seek_0_0.1 7 (23, .getfield 178, 3) rfl
theorem dX5_seek_26 : decode cX5_seek 26 = .ok (.iload_n 1, 1) := dr9 dk9_dX5_seek_0_0.1 8 (26, .iload_n 1, 1) rfl
theorem dX5_seek_27 : decode cX5_seek 27 = .ok (.aaload, 1) := dr9 dk9_dX5_seek_0_0.1 9 (27, .aaload, 1) rfl
theorem dX5_seek_28 : decode cX5_seek 28 = .ok (.getfield 182, 3) := dr9 dk9_dX5_seek_0_0.1 10 (28, .getfield 182, 3) rfl
theorem dX5_seek_31 : decode cX5_seek 31 = .ok (.iconst 3, 1) := dr9 dk9_dX5_seek_0_0.1 11 (31, .iconst 3, 1) rfl
theorem dX5_seek_32 : decode cX5_seek 32 = .ok (.if_icmp .eq 7, 3) := dr9 dk9_dX5_seek_0_0.1 12 (32, .if_icmp .eq 7, 3) rfl
theorem dX5_seek_39 : decode cX5_seek 39 = .ok (.iconst 0, 1) := dr9 dk9_dX5_seek_0_0.1 13 (39, .iconst 0, 1) rfl
theorem dX5_seek_40 : decode cX5_seek 40 = .ok (.istore 4, 2) := dr9 dk9_dX5_seek_0_0.1 14 (40, .istore 4, 2) rfl
theorem dX5_seek_42 : decode cX5_seek 42 = .ok (.aload_n 0, 1) := dr9 dk9_dX5_seek_0_0.1 15 (42, .aload_n 0, 1) rfl
theorem dX5_seek_43 : decode cX5_seek 43 = .ok (.getfield 28, 3) := dr9 dk9_dX5_seek_0_0.1 16 (43, .getfield 28, 3) rfl
theorem dX5_seek_46 : decode cX5_seek 46 = .ok (.aload_n 0, 1) := dr9 dk9_dX5_seek_0_0.1 17 (46, .aload_n 0, 1) rfl
theorem dX5_seek_47 : decode cX5_seek 47 = .ok (.getfield 24, 3) := dr9 dk9_dX5_seek_0_0.1 18 (47, .getfield 24, 3) rfl
theorem dX5_seek_50 : decode cX5_seek 50 = .ok (.getfield 178, 3) := dr9 dk9_dX5_seek_0_0.1 19 (50, .getfield 178, 3) rfl
theorem dX5_seek_53 : decode cX5_seek 53 = .ok (.iload_n 1, 1) := dr9 dk9_dX5_seek_0_0.1 20 (53, .iload_n 1, 1) rfl
theorem dX5_seek_54 : decode cX5_seek 54 = .ok (.aaload, 1) := dr9 dk9_dX5_seek_0_0.1 21 (54, .aaload, 1) rfl
theorem dX5_seek_55 : decode cX5_seek 55 = .ok (.getfield 182, 3) := dr9 dk9_dX5_seek_0_0.1 22 (55, .getfield 182, 3) rfl
theorem dX5_seek_58 : decode cX5_seek 58 = .ok (.iload_n 2, 1) := dr9 dk9_dX5_seek_0_0.1 23 (58, .iload_n 2, 1) rfl
theorem dX5_seek_59 : decode cX5_seek 59 = .ok (.invokevirtual 185, 3) := dr9 dk9_dX5_seek_0_0.2.1 0 (59, .invokevirtual 185, 3) rfl
theorem dX5_seek_62 : decode cX5_seek 62 = .ok (.istore 5, 2) := dr9 dk9_dX5_seek_0_0.2.1 1 (62, .istore 5, 2) rfl
theorem dX5_seek_64 : decode cX5_seek 64 = .ok (.iload 5, 2) := dr9 dk9_dX5_seek_0_0.2.1 2 (64, .iload 5, 2) rfl
theorem dX5_seek_66 : decode cX5_seek 66 = .ok (.iconst (-1), 1) := dr9 dk9_dX5_seek_0_0.2.1 3 (66, .iconst (-1), 1) rfl
theorem dX5_seek_67 : decode cX5_seek 67 = .ok (.if_icmp .ne 11, 3) := dr9 dk9_dX5_seek_0_0.2.1 4 (67, .if_icmp .ne 11, 3) rfl
theorem dX5_seek_78 : decode cX5_seek 78 = .ok (.aload_n 0, 1) := dr9 dk9_dX5_seek_0_0.2.1 5 (78, .aload_n 0, 1) rfl
theorem dX5_seek_79 : decode cX5_seek 79 = .ok (.getfield 28, 3) := dr9 dk9_dX5_seek_0_0.2.1 6 (79, .getfield 28, 3) rfl
theorem dX5_seek_82 : decode cX5_seek 82 = .ok (.iload 5, 2) := dr9 dk9_dX5_seek_0_0.2.1 7 (82, .iload 5, 2) rfl
theorem dX5_seek_84 : decode cX5_seek 84 = .ok (.iload_n 1, 1) := dr9 dk9_dX5_seek_0_0.2.1 8 (84, .iload_n 1, 1) rfl
theorem dX5_seek_85 : decode cX5_seek 85 = .ok (.invokevirtual 189, 3) := dr9 dk9_dX5_seek_0_0.2.1 9 (85, .invokevirtual 189, 3) rfl
theorem dX5_seek_88 : decode cX5_seek 88 = .ok (.ifCond .eq 11, 3) := dr9 dk9_dX5_seek_0_0.2.1 10 (88, .ifCond .eq 11, 3) rfl
theorem dX5_seek_99 : decode cX5_seek 99 = .ok (.iload 4, 2) := dr9 dk9_dX5_seek_0_0.2.1 11 (99, .iload 4, 2) rfl
theorem dX5_seek_101 : decode cX5_seek 101 = .ok (.ifCond .eq 16, 3) := dr9 dk9_dX5_seek_0_0.2.1 12 (101, .ifCond .eq 16, 3) rfl
theorem dX5_seek_117 : decode cX5_seek 117 = .ok (.iconst (-1), 1) := dr9 dk9_dX5_seek_0_0.2.1 13 (117, .iconst (-1), 1) rfl
theorem dX5_seek_118 : decode cX5_seek 118 = .ok (.istore 6, 2) := dr9 dk9_dX5_seek_0_0.2.1 14 (118, .istore 6, 2) rfl
theorem dX5_seek_120 : decode cX5_seek 120 = .ok (.iload 6, 2) := dr9 dk9_dX5_seek_0_0.2.1 15 (120, .iload 6, 2) rfl
theorem dX5_seek_122 : decode cX5_seek 122 = .ok (.iconst (-1), 1) := dr9 dk9_dX5_seek_0_0.2.1 16 (122, .iconst (-1), 1) rfl
theorem dX5_seek_123 : decode cX5_seek 123 = .ok (.if_icmp .ne 16, 3) := dr9 dk9_dX5_seek_0_0.2.1 17 (123, .if_icmp .ne 16, 3) rfl
theorem dX5_seek_126 : decode cX5_seek 126 = .ok (.aload_n 0, 1) := dr9 dk9_dX5_seek_0_0.2.1 18 (126, .aload_n 0, 1) rfl
theorem dX5_seek_127 : decode cX5_seek 127 = .ok (.iload_n 1, 1) := dr9 dk9_dX5_seek_0_0.2.1 19 (127, .iload_n 1, 1) rfl
theorem dX5_seek_128 : decode cX5_seek 128 = .ok (.iload 5, 2) := dr9 dk9_dX5_seek_0_0.2.1 20 (128, .iload 5, 2) rfl
theorem dX5_seek_130 : decode cX5_seek 130 = .ok (.iload_n 3, 1) := dr9 dk9_dX5_seek_0_0.2.1 21 (130, .iload_n 3, 1) rfl
theorem dX5_seek_131 : decode cX5_seek 131 = .ok (.iload 4, 2) := dr9 dk9_dX5_seek_0_0.2.1 22 (131, .iload 4, 2) rfl
theorem dX5_seek_133 : decode cX5_seek 133 = .ok (.invokevirtual 196, 3) := dr9 dk9_dX5_seek_0_0.2.1 23 (133, .invokevirtual 196, 3) rfl
theorem dX5_seek_136 : decode cX5_seek 136 = .ok (.goto 31, 3) := dr9 dk9_dX5_seek_0_0.2.2.1 0 (136, .goto 31, 3) rfl
theorem dX5_seek_167 : decode cX5_seek 167 = .ok (.return_, 1) := dr9 dk9_dX5_seek_0_0.2.2.1 1 (167, .return_, 1) rfl
theorem dX5_seek_91 : decode cX5_seek 91 = .ok (.aload_n 0, 1) := dr9 dk9_dX5_seek_0_0.2.2.1 2 (91, .aload_n 0, 1) rfl
theorem dX5_seek_92 : decode cX5_seek 92 = .ok (.iconst 0, 1) := dr9 dk9_dX5_seek_0_0.2.2.1 3 (92, .iconst 0, 1) rfl
theorem dX5_seek_93 : decode cX5_seek 93 = .ok (.bipush 15, 2) := dr9 dk9_dX5_seek_0_0.2.2.1 4 (93, .bipush 15, 2) rfl
theorem dX5_seek_95 : decode cX5_seek 95 = .ok (.invokevirtual 169, 3) := dr9 dk9_dX5_seek_0_0.2.2.1 5 (95, .invokevirtual 169, 3) rfl
theorem dX5_seek_98 : decode cX5_seek 98 = .ok (.return_, 1) := dr9 dk9_dX5_seek_0_0.2.2.1 6 (98, .return_, 1) rfl
theorem dX5_seek_70 : decode cX5_seek 70 = .ok (.aload_n 0, 1) := dr9 dk9_dX5_seek_0_0.2.2.1 7 (70, .aload_n 0, 1) rfl
theorem dX5_seek_71 : decode cX5_seek 71 = .ok (.iconst 0, 1) := dr9 dk9_dX5_seek_0_0.2.2.1 8 (71, .iconst 0, 1) rfl
theorem dX5_seek_72 : decode cX5_seek 72 = .ok (.bipush 14, 2) := dr9 dk9_dX5_seek_0_0.2.2.1 9 (72, .bipush 14, 2) rfl
theorem dX5_seek_74 : decode cX5_seek 74 = .ok (.invokevirtual 169, 3) := dr9 dk9_dX5_seek_0_0.2.2.1 10 (74, .invokevirtual 169, 3) rfl
theorem dX5_seek_77 : decode cX5_seek 77 = .ok (.return_, 1) := dr9 dk9_dX5_seek_0_0.2.2.1 11 (77, .return_, 1) rfl
theorem dX5_seek_35 : decode cX5_seek 35 = .ok (.iconst 1, 1) := dr9 dk9_dX5_seek_0_0.2.2.1 12 (35, .iconst 1, 1) rfl
theorem dX5_seek_36 : decode cX5_seek 36 = .ok (.goto 4, 3) := dr9 dk9_dX5_seek_0_0.2.2.1 13 (36, .goto 4, 3) rfl
theorem dX5_seek_104 : decode cX5_seek 104 = .ok (.aload_n 0, 1) := dr9 dk9_dX5_seek_0_0.2.2.1 14 (104, .aload_n 0, 1) rfl
theorem dX5_seek_105 : decode cX5_seek 105 = .ok (.getfield 28, 3) := dr9 dk9_dX5_seek_0_0.2.2.1 15 (105, .getfield 28, 3) rfl
theorem dX5_seek_108 : decode cX5_seek 108 = .ok (.iload 5, 2) := dr9 dk9_dX5_seek_0_0.2.2.1 16 (108, .iload 5, 2) rfl
theorem dX5_seek_110 : decode cX5_seek 110 = .ok (.iload_n 1, 1) := dr9 dk9_dX5_seek_0_0.2.2.1 17 (110, .iload_n 1, 1) rfl
theorem dX5_seek_111 : decode cX5_seek 111 = .ok (.invokevirtual 193, 3) := dr9 dk9_dX5_seek_0_0.2.2.1 18 (111, .invokevirtual 193, 3) rfl
theorem dX5_seek_114 : decode cX5_seek 114 = .ok (.goto 4, 3) := dr9 dk9_dX5_seek_0_0.2.2.1 19 (114, .goto 4, 3) rfl
theorem dX5_seek_139 : decode cX5_seek 139 = .ok (.aload_n 0, 1) := dr9 dk9_dX5_seek_0_0.2.2.1 20 (139, .aload_n 0, 1) rfl
theorem dX5_seek_140 : decode cX5_seek 140 = .ok (.getfield 28, 3) := dr9 dk9_dX5_seek_0_0.2.2.1 21 (140, .getfield 28, 3) rfl
theorem dX5_seek_143 : decode cX5_seek 143 = .ok (.iload 6, 2) := dr9 dk9_dX5_seek_0_0.2.2.1 22 (143, .iload 6, 2) rfl
theorem dX5_seek_145 : decode cX5_seek 145 = .ok (.invokevirtual 200, 3) := dr9 dk9_dX5_seek_0_0.2.2.1 23 (145, .invokevirtual 200, 3) rfl
theorem dX5_seek_148 : decode cX5_seek 148 = .ok (.ifCond .eq 12, 3) := dr9 dk9_dX5_seek_0_0.2.2.2 0 (148, .ifCond .eq 12, 3) rfl
theorem dX5_seek_160 : decode cX5_seek 160 = .ok (.aload_n 0, 1) := dr9 dk9_dX5_seek_0_0.2.2.2 1 (160, .aload_n 0, 1) rfl
theorem dX5_seek_161 : decode cX5_seek 161 = .ok (.iconst 0, 1) := dr9 dk9_dX5_seek_0_0.2.2.2 2 (161, .iconst 0, 1) rfl
theorem dX5_seek_162 : decode cX5_seek 162 = .ok (.bipush 12, 2) := dr9 dk9_dX5_seek_0_0.2.2.2 3 (162, .bipush 12, 2) rfl
theorem dX5_seek_164 : decode cX5_seek 164 = .ok (.invokevirtual 169, 3) := dr9 dk9_dX5_seek_0_0.2.2.2 4 (164, .invokevirtual 169, 3) rfl
theorem dX5_seek_151 : decode cX5_seek 151 = .ok (.aload_n 0, 1) := dr9 dk9_dX5_seek_0_0.2.2.2 5 (151, .aload_n 0, 1) rfl
theorem dX5_seek_152 : decode cX5_seek 152 = .ok (.iload 6, 2) := dr9 dk9_dX5_seek_0_0.2.2.2 6 (152, .iload 6, 2) rfl
theorem dX5_seek_154 : decode cX5_seek 154 = .ok (.invokevirtual 203, 3) := dr9 dk9_dX5_seek_0_0.2.2.2 7 (154, .invokevirtual 203, 3) rfl
theorem dX5_seek_157 : decode cX5_seek 157 = .ok (.goto 10, 3) := dr9 dk9_dX5_seek_0_0.2.2.2 8 (157, .goto 10, 3) rfl
theorem dX5_seek_11 : decode cX5_seek 11 = .ok (.aload_n 0, 1) := dr9 dk9_dX5_seek_0_0.2.2.2 9 (11, .aload_n 0, 1) rfl
theorem dX5_seek_12 : decode cX5_seek 12 = .ok (.iconst 0, 1) := dr9 dk9_dX5_seek_0_0.2.2.2 10 (12, .iconst 0, 1) rfl
theorem dX5_seek_13 : decode cX5_seek 13 = .ok (.bipush 14, 2) := dr9 dk9_dX5_seek_0_0.2.2.2 11 (13, .bipush 14, 2) rfl
theorem dX5_seek_15 : decode cX5_seek 15 = .ok (.invokevirtual 169, 3) := dr9 dk9_dX5_seek_0_0.2.2.2 12 (15, .invokevirtual 169, 3) rfl
theorem dX5_seek_18 : decode cX5_seek 18 = .ok (.return_, 1) := dr9 dk9_dX5_seek_0_0.2.2.2 13 (18, .return_, 1) rfl
theorem dk9_dX5_undoNext_0_0 : dOk cX5_undoNext [(0, .aload_n 0, 1), (1, .getfield 46, 3), (4, .aload_n 1, 1), (5, .getfield 123, 3), (8, .if_icmp .le 31, 3), (39, .aload_n 0, 1), (40, .aload_n 1, 1), (41, .getfield 147, 3), (44, .aload_n 1, 1), (45, .getfield 148, 3), (48, .invokevirtual 169, 3), (51, .aload_n 1, 1), (52, .getfield 115, 3), (55, .ifCond .eq 8, 3), (63, .aload_n 0, 1), (64, .invokevirtual 157, 3), (67, .return_, 1), (58, .aload_n 0, 1), (59, .iconst 3, 1), (60, .putfield 49, 3), (11, .aload_n 0, 1), (12, .dup, 1), (13, .getfield 46, 3), (16, .iconst 1, 1)] = true ∧ dOk cX5_undoNext [(17, .isub, 1), (18, .putfield 46, 3), (21, .aload_n 0, 1), (22, .aload_n 0, 1), (23, .getfield 21, 3), (26, .aload_n 0, 1), (27, .getfield 46, 3), (30, .iaload, 1), (31, .aload_n 1, 1), (32, .getfield 97, 3), (35, .invokevirtual 166, 3), (38, .return_, 1)] = true := by decide +kernel
theorem dX5_undoNext_0 : decode cX5_undoNext 0 = .ok (.aload_n 0, 1) := dr9 dk9_dX5_undoNext_0_0.1 0 (0, .aload_n 0, 1) rfl
theorem dX5_undoNext_1 : decode cX5_undoNext 1 = .ok (.getfield 46, 3) := dr9 dk9_dX5_undoNext_0_0.1 1 (1, .getfield 46, 3) rfl
theorem dX5_undoNext_4 : decode cX5_undoNext 4 = .ok (.aload_n 1, 1) := dr9 dk9_dX5_undoNext_0_0.1 2 (4, .aload_n 1, 1) rfl
theorem dX5_undoNext_5 : decode cX5_undoNext 5 = .ok (.getfield 123, 3) := dr9 dk9_dX5_undoNext_0_0.1 3 (5, .getfield 123, 3) rfl
theorem dX5_undoNext_8 : decode cX5_undoNext 8 = .ok (.if_icmp .le 31, 3) := dr9 dk9_dX5_undoNext_0_0.1 4 (8, .if_icmp .le 31, 3) rfl
theorem dX5_undoNext_39 : decode cX5_undoNext 39 = .ok (.aload_n 0, 1) := dr9 dk9_dX5_undoNext_0_0.1 5 (39, .aload_n 0, 1) rfl
theorem dX5_undoNext_40 : decode cX5_undoNext 40 = .ok (.aload_n 1, 1) := dr9 dk9_dX5_undoNext_0_0.1 6 (40, .aload_n 1, 1) rfl
theorem dX5_undoNext_41 : decode cX5_undoNext 41 = .ok (.getfield 147, 3) := dr9 dk9_dX5_undoNext_0_0.1 7 (41, .getfield 147, 3) rfl
theorem dX5_undoNext_44 : decode cX5_undoNext 44 = .ok (.aload_n 1, 1) := dr9 dk9_dX5_undoNext_0_0.1 8 (44, .aload_n 1, 1) rfl
theorem dX5_undoNext_45 : decode cX5_undoNext 45 = .ok (.getfield 148, 3) := dr9 dk9_dX5_undoNext_0_0.1 9 (45, .getfield 148, 3) rfl
theorem dX5_undoNext_48 : decode cX5_undoNext 48 = .ok (.invokevirtual 169, 3) := dr9 dk9_dX5_undoNext_0_0.1 10 (48, .invokevirtual 169, 3) rfl
theorem dX5_undoNext_51 : decode cX5_undoNext 51 = .ok (.aload_n 1, 1) := dr9 dk9_dX5_undoNext_0_0.1 11 (51, .aload_n 1, 1) rfl
theorem dX5_undoNext_52 : decode cX5_undoNext 52 = .ok (.getfield 115, 3) := dr9 dk9_dX5_undoNext_0_0.1 12 (52, .getfield 115, 3) rfl
theorem dX5_undoNext_55 : decode cX5_undoNext 55 = .ok (.ifCond .eq 8, 3) := dr9 dk9_dX5_undoNext_0_0.1 13 (55, .ifCond .eq 8, 3) rfl
theorem dX5_undoNext_63 : decode cX5_undoNext 63 = .ok (.aload_n 0, 1) := dr9 dk9_dX5_undoNext_0_0.1 14 (63, .aload_n 0, 1) rfl
theorem dX5_undoNext_64 : decode cX5_undoNext 64 = .ok (.invokevirtual 157, 3) := dr9 dk9_dX5_undoNext_0_0.1 15 (64, .invokevirtual 157, 3) rfl
theorem dX5_undoNext_67 : decode cX5_undoNext 67 = .ok (.return_, 1) := dr9 dk9_dX5_undoNext_0_0.1 16 (67, .return_, 1) rfl
theorem dX5_undoNext_58 : decode cX5_undoNext 58 = .ok (.aload_n 0, 1) := dr9 dk9_dX5_undoNext_0_0.1 17 (58, .aload_n 0, 1) rfl
theorem dX5_undoNext_59 : decode cX5_undoNext 59 = .ok (.iconst 3, 1) := dr9 dk9_dX5_undoNext_0_0.1 18 (59, .iconst 3, 1) rfl
theorem dX5_undoNext_60 : decode cX5_undoNext 60 = .ok (.putfield 49, 3) := dr9 dk9_dX5_undoNext_0_0.1 19 (60, .putfield 49, 3) rfl
theorem dX5_undoNext_11 : decode cX5_undoNext 11 = .ok (.aload_n 0, 1) := dr9 dk9_dX5_undoNext_0_0.1 20 (11, .aload_n 0, 1) rfl
theorem dX5_undoNext_12 : decode cX5_undoNext 12 = .ok (.dup, 1) := dr9 dk9_dX5_undoNext_0_0.1 21 (12, .dup, 1) rfl
theorem dX5_undoNext_13 : decode cX5_undoNext 13 = .ok (.getfield 46, 3) := dr9 dk9_dX5_undoNext_0_0.1 22 (13, .getfield 46, 3) rfl
theorem dX5_undoNext_16 : decode cX5_undoNext 16 = .ok (.iconst 1, 1) := dr9 dk9_dX5_undoNext_0_0.1 23 (16, .iconst 1, 1) rfl
theorem dX5_undoNext_17 : decode cX5_undoNext 17 = .ok (.isub, 1) := dr9 dk9_dX5_undoNext_0_0.2 0 (17, .isub, 1) rfl
theorem dX5_undoNext_18 : decode cX5_undoNext 18 = .ok (.putfield 46, 3) := dr9 dk9_dX5_undoNext_0_0.2 1 (18, .putfield 46, 3) rfl
theorem dX5_undoNext_21 : decode cX5_undoNext 21 = .ok (.aload_n 0, 1) := dr9 dk9_dX5_undoNext_0_0.2 2 (21, .aload_n 0, 1) rfl
theorem dX5_undoNext_22 : decode cX5_undoNext 22 = .ok (.aload_n 0, 1) := dr9 dk9_dX5_undoNext_0_0.2 3 (22, .aload_n 0, 1) rfl
theorem dX5_undoNext_23 : decode cX5_undoNext 23 = .ok (.getfield 21, 3) := dr9 dk9_dX5_undoNext_0_0.2 4 (23, .getfield 21, 3) rfl
theorem dX5_undoNext_26 : decode cX5_undoNext 26 = .ok (.aload_n 0, 1) := dr9 dk9_dX5_undoNext_0_0.2 5 (26, .aload_n 0, 1) rfl
theorem dX5_undoNext_27 : decode cX5_undoNext 27 = .ok (.getfield 46, 3) := dr9 dk9_dX5_undoNext_0_0.2 6 (27, .getfield 46, 3) rfl
theorem dX5_undoNext_30 : decode cX5_undoNext 30 = .ok (.iaload, 1) := dr9 dk9_dX5_undoNext_0_0.2 7 (30, .iaload, 1) rfl
theorem dX5_undoNext_31 : decode cX5_undoNext 31 = .ok (.aload_n 1, 1) := dr9 dk9_dX5_undoNext_0_0.2 8 (31, .aload_n 1, 1) rfl
theorem dX5_undoNext_32 : decode cX5_undoNext 32 = .ok (.getfield 97, 3) := dr9 dk9_dX5_undoNext_0_0.2 9 (32, .getfield 97, 3) rfl
theorem dX5_undoNext_35 : decode cX5_undoNext 35 = .ok (.invokevirtual 166, 3) := dr9 dk9_dX5_undoNext_0_0.2 10 (35, .invokevirtual 166, 3) rfl
theorem dX5_undoNext_38 : decode cX5_undoNext 38 = .ok (.return_, 1) := dr9 dk9_dX5_undoNext_0_0.2 11 (38, .return_, 1) rfl
theorem dk9_dX5_goOnGetting_0_0 : dOk cX5_goOnGetting [(0, .aload_n 1, 1), (1, .getfield 94, 3), (4, .ifCond .ne 25, 3), (29, .aload_n 1, 1), (30, .getfield 94, 3), (33, .iconst 1, 1), (34, .if_icmp .ne 37, 3), (71, .aload_n 0, 1), (72, .getfield 49, 3), (75, .iconst 3, 1), (76, .if_icmp .ne 8, 3), (84, .aload_n 0, 1), (85, .aload_n 1, 1), (86, .invokevirtual 163, 3), (89, .return_, 1), (79, .aload_n 1, 1), (80, .iconst 1, 1), (81, .putfield 115, 3), (37, .aload_n 0, 1), (38, .getfield 49, 3), (41, .iconst 2, 1), (42, .if_icmp .eq 16, 3), (58, .aload_n 0, 1), (59, .aload_n 1, 1)] = true ∧ dOk cX5_goOnGetting [(60, .invokevirtual 160, 3), (63, .aload_n 1, 1), (64, .iconst 2, 1), (65, .putfield 94, 3), (68, .goto 16, 3), (45, .aload_n 0, 1), (46, .aload_n 1, 1), (47, .getfield 123, 3), (50, .putfield 46, 3), (53, .aload_n 0, 1), (54, .invokevirtual 157, 3), (57, .return_, 1), (7, .aload_n 1, 1), (8, .iconst 1, 1), (9, .putfield 94, 3), (12, .aload_n 0, 1), (13, .aload_n 1, 1), (14, .getfield 103, 3), (17, .aload_n 1, 1), (18, .getfield 106, 3), (21, .aload_n 1, 1), (22, .getfield 97, 3), (25, .invokevirtual 153, 3), (28, .return_, 1)] = true := by decide +kernel
theorem dX5_goOnGetting_0 : decode cX5_goOnGetting 0 = .ok (.aload_n 1, 1) := dr9 dk9_dX5_goOnGetting_0_0.1 0 (0, .aload_n 1, 1) rfl
theorem dX5_goOnGetting_1 : decode cX5_goOnGetting 1 = .ok (.getfield 94, 3) := dr9 dk9_dX5_goOnGetting_0_0.1 1 (1, .getfield 94, 3) rfl
theorem dX5_goOnGetting_4 : decode cX5_goOnGetting 4 = .ok (.ifCond .ne 25, 3) := dr9 dk9_dX5_goOnGetting_0_0.1 2 (4, .ifCond .ne 25, 3) rfl
theorem dX5_goOnGetting_29 : decode cX5_goOnGetting 29 = .ok (.aload_n 1, 1) := dr9 dk9_dX5_goOnGetting_0_0.1 3 (29, .aload_n 1, 1) rfl
theorem dX5_goOnGetting_30 : decode cX5_goOnGetting 30 = .ok (.getfield 94, 3) := dr9 dk9_dX5_goOnGetting_0_0.1 4 (30, .getfield 94, 3) rfl
theorem dX5_goOnGetting_33 : decode cX5_goOnGetting 33 = .ok (.iconst 1, 1) := dr9 dk9_dX5_goOnGetting_0_0.1 5 (33, .iconst 1, 1) rfl
theorem dX5_goOnGetting_34 : decode cX5_goOnGetting 34 = .ok (.if_icmp .ne 37, 3) := dr9 dk9_dX5_goOnGetting_0_0.1 6 (34, .if_icmp .ne 37, 3) rfl
theorem dX5_goOnGetting_71 : decode cX5_goOnGetting 71 = .ok (.aload_n 0, 1) := dr9 dk9_dX5_goOnGetting_0_0.1 7 (71, .aload_n 0, 1) rfl
theorem dX5_goOnGetting_72 : decode cX5_goOnGetting 72 = .ok (.getfield 49, 3) := dr9 dk9_dX5_goOnGetting_0_0.1 8 (72, .getfield 49, 3) rfl
theorem dX5_goOnGetting_75 : decode cX5_goOnGetting 75 = .ok (.iconst 3, 1) := dr9 dk9_dX5_goOnGetting_0_0.1 9 (75, .iconst 3, 1) rfl
theorem dX5_goOnGetting_76 : decode cX5_goOnGetting 76 = .ok (.if_icmp .ne 8, 3) := dr9 dk9_dX5_goOnGetting_0_0.1 10 (76, .if_icmp .ne 8, 3) rfl
theorem dX5_goOnGetting_84 : decode cX5_goOnGetting 84 = .ok (.aload_n 0, 1) := dr9 dk9_dX5_goOnGetting_0_0.1 11 (84, .aload_n 0, 1) rfl
theorem dX5_goOnGetting_85 : decode cX5_goOnGetting 85 = .ok (.aload_n 1, 1) := dr9 dk9_dX5_goOnGetting_0_0.1 12 (85, .aload_n 1, 1) rfl
theorem dX5_goOnGetting_86 : decode cX5_goOnGetting 86 = .ok (.invokevirtual 163, 3) := dr9 dk9_dX5_goOnGetting_0_0.1 13 (86, .invokevirtual 163, 3) rfl
theorem dX5_goOnGetting_89 : decode cX5_goOnGetting 89 = .ok (.return_, 1) := dr9 dk9_dX5_goOnGetting_0_0.1 14 (89, .return_, 1) rfl
theorem dX5_goOnGetting_79 : decode cX5_goOnGetting 79 = .ok (.aload_n 1, 1) := dr9 dk9_dX5_goOnGetting_0_0.1 15 (79, .aload_n 1, 1) rfl
theorem dX5_goOnGetting_80 : decode cX5_goOnGetting 80 = .ok (.iconst 1, 1) := dr9 dk9_dX5_goOnGetting_0_0.1 16 (80, .iconst 1, 1) rfl
theorem dX5_goOnGetting_81 : decode cX5_goOnGetting 81 = .ok (.putfield 115, 3) := dr9 dk9_dX5_goOnGetting_0_0.1 17 (81, .putfield 115, 3) rfl
theorem dX5_goOnGetting_37 : decode cX5_goOnGetting 37 = .ok (.aload_n 0, 1) := dr9 dk9_dX5_goOnGetting_0_0.1 18 (37, .aload_n 0, 1) rfl
theorem dX5_goOnGetting_38 : decode cX5_goOnGetting 38 = .ok (.getfield 49, 3) := dr9 dk9_dX5_goOnGetting_0_0.1 19 (38, .getfield 49, 3) rfl
theorem dX5_goOnGetting_41 : decode cX5_goOnGetting 41 = .ok (.iconst 2, 1) := dr9 dk9_dX5_goOnGetting_0_0.1 20 (41, .iconst 2, 1) rfl
theorem dX5_goOnGetting_42 : decode cX5_goOnGetting 42 = .ok (.if_icmp .eq 16, 3) := dr9 dk9_dX5_goOnGetting_0_0.1 21 (42, .if_icmp .eq 16, 3) rfl
theorem dX5_goOnGetting_58 : decode cX5_goOnGetting 58 = .ok (.aload_n 0, 1) := dr9 dk9_dX5_goOnGetting_0_0.1 22 (58, .aload_n 0, 1) rfl
theorem dX5_goOnGetting_59 : decode cX5_goOnGetting 59 = .ok (.aload_n 1, 1) := dr9 dk9_dX5_goOnGetting_0_0.1 23 (59, .aload_n 1, 1) rfl
theorem dX5_goOnGetting_60 : decode cX5_goOnGetting 60 = .ok (.invokevirtual 160, 3) := dr9 dk9_dX5_goOnGetting_0_0.2 0 (60, .invokevirtual 160, 3) rfl
theorem dX5_goOnGetting_63 : decode cX5_goOnGetting 63 = .ok (.aload_n 1, 1) := dr9 dk9_dX5_goOnGetting_0_0.2 1 (63, .aload_n 1, 1) rfl
theorem dX5_goOnGetting_64 : decode cX5_goOnGetting 64 = .ok (.iconst 2, 1) := dr9 dk9_dX5_goOnGetting_0_0.2 2 (64, .iconst 2, 1) rfl
theorem dX5_goOnGetting_65 : decode cX5_goOnGetting 65 = .ok (.putfield 94, 3) := dr9 dk9_dX5_goOnGetting_0_0.2 3 (65, .putfield 94, 3) rfl
theorem dX5_goOnGetting_68 : decode cX5_goOnGetting 68 = .ok (.goto 16, 3) := dr9 dk9_dX5_goOnGetting_0_0.2 4 (68, .goto 16, 3) rfl
theorem dX5_goOnGetting_45 : decode cX5_goOnGetting 45 = .ok (.aload_n 0, 1) := dr9 dk9_dX5_goOnGetting_0_0.2 5 (45, .aload_n 0, 1) rfl
theorem dX5_goOnGetting_46 : decode cX5_goOnGetting 46 = .ok (.aload_n 1, 1) := dr9 dk9_dX5_goOnGetting_0_0.2 6 (46, .aload_n 1, 1) rfl
theorem dX5_goOnGetting_47 : decode cX5_goOnGetting 47 = .ok (.getfield 123, 3) := dr9 dk9_dX5_goOnGetting_0_0.2 7 (47, .getfield 123, 3) rfl
theorem dX5_goOnGetting_50 : decode cX5_goOnGetting 50 = .ok (.putfield 46, 3) := dr9 dk9_dX5_goOnGetting_0_0.2 8 (50, .putfield 46, 3) rfl
theorem dX5_goOnGetting_53 : decode cX5_goOnGetting 53 = .ok (.aload_n 0, 1) := dr9 dk9_dX5_goOnGetting_0_0.2 9 (53, .aload_n 0, 1) rfl
theorem dX5_goOnGetting_54 : decode cX5_goOnGetting 54 = .ok (.invokevirtual 157, 3) := dr9 dk9_dX5_goOnGetting_0_0.2 10 (54, .invokevirtual 157, 3) rfl
theorem dX5_goOnGetting_57 : decode cX5_goOnGetting 57 = .ok (.return_, 1) := dr9 dk9_dX5_goOnGetting_0_0.2 11 (57, .return_, 1) rfl
theorem dX5_goOnGetting_7 : decode cX5_goOnGetting 7 = .ok (.aload_n 1, 1) := dr9 dk9_dX5_goOnGetting_0_0.2 12 (7, .aload_n 1, 1) rfl
theorem dX5_goOnGetting_8 : decode cX5_goOnGetting 8 = .ok (.iconst 1, 1) := dr9 dk9_dX5_goOnGetting_0_0.2 13 (8, .iconst 1, 1) rfl
theorem dX5_goOnGetting_9 : decode cX5_goOnGetting 9 = .ok (.putfield 94, 3) := dr9 dk9_dX5_goOnGetting_0_0.2 14 (9, .putfield 94, 3) rfl
theorem dX5_goOnGetting_12 : decode cX5_goOnGetting 12 = .ok (.aload_n 0, 1) := dr9 dk9_dX5_goOnGetting_0_0.2 15 (12, .aload_n 0, 1) rfl
theorem dX5_goOnGetting_13 : decode cX5_goOnGetting 13 = .ok (.aload_n 1, 1) := dr9 dk9_dX5_goOnGetting_0_0.2 16 (13, .aload_n 1, 1) rfl
theorem dX5_goOnGetting_14 : decode cX5_goOnGetting 14 = .ok (.getfield 103, 3) := dr9 dk9_dX5_goOnGetting_0_0.2 17 (14, .getfield 103, 3) rfl
theorem dX5_goOnGetting_17 : decode cX5_goOnGetting 17 = .ok (.aload_n 1, 1) := dr9 dk9_dX5_goOnGetting_0_0.2 18 (17, .aload_n 1, 1) rfl
theorem dX5_goOnGetting_18 : decode cX5_goOnGetting 18 = .ok (.getfield 106, 3) := dr9 dk9_dX5_goOnGetting_0_0.2 19 (18, .getfield 106, 3) rfl
theorem dX5_goOnGetting_21 : decode cX5_goOnGetting 21 = .ok (.aload_n 1, 1) := dr9 dk9_dX5_goOnGetting_0_0.2 20 (21, .aload_n 1, 1) rfl
theorem dX5_goOnGetting_22 : decode cX5_goOnGetting 22 = .ok (.getfield 97, 3) := dr9 dk9_dX5_goOnGetting_0_0.2 21 (22, .getfield 97, 3) rfl
theorem dX5_goOnGetting_25 : decode cX5_goOnGetting 25 = .ok (.invokevirtual 153, 3) := dr9 dk9_dX5_goOnGetting_0_0.2 22 (25, .invokevirtual 153, 3) rfl
theorem dX5_goOnGetting_28 : decode cX5_goOnGetting 28 = .ok (.return_, 1) := dr9 dk9_dX5_goOnGetting_0_0.2 23 (28, .return_, 1) rfl
abbrev r_x_answerWith2 : Room := { frames := 0, cells := 0, slots := 0, locals := 0 }
abbrev q_x_answerWith2 (D : va_G) (ks : KS) (ad : Nat → Nat) (kk : Nat → ClassId) (V : Vf) (L : Lf) (Z : XZ) (p0 : Int32) (A : Nat → Prop) : Array Value → State → Outcome → State → Prop := va_Qv (fun (u : Vf × Lf) => rgd bX u.1 ∧ agr [(5, 9), (5, 10)] [] V u.1 ∧ u.2 = L ∧ ((u.1 5 9).toInt = 1) ∧ ((u.1 5 10).toInt = p0.toInt)) (fun u t => gq D A (xw ad kk u.1 u.2 Z) (xty kk Z) t) A
set_option maxHeartbeats 4000000 in
set_option maxRecDepth 100000 in
theorem x_answerWith2 (l : Launch) (D : va_G) (ks : KS) (sz : Nat) (ad : Nat → Nat) (kk : Nat → ClassId) (V : Vf) (L : Lf) (Z : XZ) (p0 : Int32) (hMV : rgd bX V)  : Met l yX5_answerWith (Cond.code yX5_answerWith cX5_answerWith 2 none :: GW) r_x_answerWith2 (va_Pc [.ref (ad 5), .int p0] (gp D ks (xw ad kk V L Z) (xty kk Z) sz)) (q_x_answerWith2 D ks ad kk V L Z p0 (va_A (xw ad kk V L Z) sz)) 0 0 (va_A (xw ad kk V L Z) sz) := by
  refine g_met (q_x_answerWith2 D ks ad kk V L Z p0) (by decide) (Nat.le_of_ble_eq_true rfl) ?_
  intro p e s m below meth c A ls H locs hx hb hr hml hown hg hlocks hin hnw hgk hP hK hD hS hA hl
  have hown : s.vm.findClass RX5 = some m.cls := hown
  have hl : lv_has ls 2 [(0, .ref (ad 5)), (1, .int p0)] := hl
  have hP : va_P D vwCl (xw ad kk V L Z) H := hP
  have hD : va_D A (xw ad kk V L Z) := hD
  have hK : va_K D vwCl (xty kk Z) s := hK
  have agV : agr [(5, 9), (5, 10)] [] V V := agr.rf
  refine lv_aload_n hx hb dX5_answerWith_0 rfl (lv_at hl 0 rfl) ?_
  refine lv_iconst (v := 1) hx hb dX5_answerWith_1 (by decide) ?_
  refine va_put (D := D) (ci := 5) (v := .int 1) (ty := tyX5 9) (fs := (xfMachine ad V L Z)) (C := RX5) (T := TX5) (N := 15) hx hb hg inX5 tyX5 tyX5_ok nmX5 hown hK hP hD hS 5 xgMachine rfl 9 (by decide) (hg _ w676) (fun _ h9 => h9) rfl (tyX5_ok 9 (by decide)) rfl rfl (Nat.le_of_ble_eq_true rfl) dX5_answerWith_2 (fun H locs hP hD hS => ?_)
  obtain ⟨V1, hV1⟩ : ∃ z, z = up2 V 5 9 1 := ⟨_, rfl⟩
  have ew2 : (xw ad kk V L Z).set 5 ((ad 5), .inr (5, (xfMachine ad V L Z).set 9 (.int 1))) = xw ad kk V1 L Z := by rw [hV1]; exact xw_ss (by decide) rfl (xb_si (by decide))
  have hP : va_P D vwCl (xw ad kk V1 L Z) H := by rw [← ew2]; exact hP
  have hD : va_D A (xw ad kk V1 L Z) := by rw [← ew2]; exact hD
  have hMV1 : rgd bX V1 := hMV.put hV1 (by decide)
  have agV1 : agr [(5, 9), (5, 10)] [] V V1 := agV.up hV1 rfl
  refine lv_aload_n hx hb dX5_answerWith_5 rfl (lv_at hl 0 rfl) ?_
  refine lv_iload_n hx hb dX5_answerWith_6 rfl (lv_at hl 1 rfl) ?_
  refine va_put (D := D) (ci := 5) (v := .int p0) (ty := tyX5 10) (fs := (xfMachine ad V1 L Z)) (C := RX5) (T := TX5) (N := 15) hx hb hg inX5 tyX5 tyX5_ok nmX5 hown hK hP hD hS 5 xgMachine rfl 10 (by decide) (hg _ w677) (fun _ h9 => h9) rfl (tyX5_ok 10 (by decide)) rfl rfl (Nat.le_of_ble_eq_true rfl) dX5_answerWith_7 (fun H locs hP hD hS => ?_)
  obtain ⟨V3, hV3⟩ : ∃ z, z = up2 V1 5 10 p0 := ⟨_, rfl⟩
  have ew4 : (xw ad kk V1 L Z).set 5 ((ad 5), .inr (5, (xfMachine ad V1 L Z).set 10 (.int p0))) = xw ad kk V3 L Z := by rw [hV3]; exact xw_ss (by decide) rfl (xb_si (by decide))
  have hP : va_P D vwCl (xw ad kk V3 L Z) H := by rw [← ew4]; exact hP
  have hD : va_D A (xw ad kk V3 L Z) := by rw [← ew4]; exact hD
  have hMV3 : rgd bX V3 := hMV1.put hV3 (i_full _)
  have agV3 : agr [(5, 9), (5, 10)] [] V V3 := agV1.up hV3 rfl
  have pq5 : (V3 5 9).toInt = 1 := (congrArg Int32.toInt ((up2_k hV3 (by decide)).trans (up2_s hV1))).trans (by decide)
  have pq6 : (V3 5 10).toInt = p0.toInt := congrArg Int32.toInt (up2_s hV3)
  exact W.vret hx hb hr (fun t ht hW => ⟨⟨(V3, L), rfl, ⟨hMV3, agV3, rfl, (show (V3 5 9).toInt = 1 from by (first | exact om_710535a98d88 pq5 | omega)), (show (V3 5 10).toInt = p0.toInt from by (first | exact om_570b691c1130 pq6 | omega))⟩, by rw [ht]; exact hP, va_K.moved hW.alike hK, hD⟩, hS.F ht⟩) hS.2.2 dX5_answerWith_10
abbrev r_x_objectAt2 : Room := { frames := 0, cells := 0, slots := 0, locals := 0 }
abbrev q_x_objectAt2 (D : va_G) (ks : KS) (ad : Nat → Nat) (kk : Nat → ClassId) (V : Vf) (L : Lf) (Z : XZ) (p0 : Int32) (p1 : Int32) (A : Nat → Prop) : Array Value → State → Outcome → State → Prop := va_Qi (fun (r : Int32) (_ : Unit) => ((-1) ≤ r.toInt ∧ r.toInt ≤ 299) ∧ (r = V 25 (24 * Int32.toNatClampNeg p0 + Int32.toNatClampNeg p1))) (fun _ t => gq D A (xw ad kk V L Z) (xty kk Z) t) A
set_option maxHeartbeats 4000000 in
set_option maxRecDepth 100000 in
theorem x_objectAt2 (l : Launch) (D : va_G) (ks : KS) (sz : Nat) (ad : Nat → Nat) (kk : Nat → ClassId) (V : Vf) (L : Lf) (Z : XZ) (p0 : Int32) (p1 : Int32) (hMV : rgd bX V) (rg_p0 : 0 ≤ p0.toInt ∧ p0.toInt ≤ 39) (rg_p1 : 0 ≤ p1.toInt ∧ p1.toInt ≤ 23)  : Met l yX8_objectAt (Cond.code yX8_objectAt cX8_objectAt 3 (some .int) :: GW) r_x_objectAt2 (va_Pc [.ref (ad 3), .int p0, .int p1] (gp D ks (xw ad kk V L Z) (xty kk Z) sz)) (q_x_objectAt2 D ks ad kk V L Z p0 p1 (va_A (xw ad kk V L Z) sz)) 0 0 (va_A (xw ad kk V L Z) sz) := by
  refine g_met (q_x_objectAt2 D ks ad kk V L Z p0 p1) (by decide) (Nat.le_of_ble_eq_true rfl) ?_
  intro p e s m below meth c A ls H locs hx hb hr hml hown hg hlocks hin hnw hgk hP hK hD hS hA hl
  have hown : s.vm.findClass RX8 = some m.cls := hown
  have hl : lv_has ls 3 [(0, .ref (ad 3)), (1, .int p0), (2, .int p1)] := hl
  have hP : va_P D vwCl (xw ad kk V L Z) H := hP
  have hD : va_D A (xw ad kk V L Z) := hD
  have hK : va_K D vwCl (xty kk Z) s := hK
  refine lv_aload_n hx hb dX8_objectAt_0 rfl (lv_at hl 0 rfl) ?_
  refine va_get (D := D) (ci := 8) (v := .ref (ad 22)) (fs := (xfStock ad V L Z)) (C := RX8) (T := TX8) (N := 16) hx hb hg inX8 hown hK hP 3 xgStock rfl 4 (by decide) (hg _ w378) (fun _ h9 => h9) rfl dX8_objectAt_1 ?_
  refine lv_iload_n hx hb dX8_objectAt_4 rfl (lv_at hl 1 rfl) ?_
  refine lv_bipush (v := 24) hx hb dX8_objectAt_5 (by decide) ?_
  refine lv_imul hx hb dX8_objectAt_7 ?_
  refine lv_topi (fun z1 ez1 => ?_)
  have hz1 : z1.toInt = p0.toInt * 24 := i_mul ez1 rfl (by decide) (by (first | exact om_1c6a8f74b4b6 rg_p0.1 rg_p0.2 | omega))
  refine lv_iload_n hx hb dX8_objectAt_8 rfl (lv_at hl 2 rfl) ?_
  refine lv_iadd hx hb dX8_objectAt_9 ?_
  refine lv_topi (fun z2 ez2 => ?_)
  have hz2 : z2.toInt = z1.toInt + p1.toInt := i_add ez2 rfl rfl (by (first | exact om_efd5f9e1113c rg_p0.1 rg_p0.2 rg_p1.1 rg_p1.2 hz1 | omega))
  refine va_iald (D := D) (i := z2) hx hb hK hP 22 15 rfl rfl (i_in (a := z2.toInt) rfl (by (first | exact om_8cac2fcdd7d1 rg_p0.1 rg_p0.2 rg_p1.1 rg_p1.2 hz1 hz2 | omega))) dX8_objectAt_10 ?_
  have r3 : (-1) ≤ ((V 25 (Int32.toNatClampNeg z2))).toInt ∧ ((V 25 (Int32.toNatClampNeg z2))).toInt ≤ 299 := hMV 25 (Int32.toNatClampNeg z2)
  have k1 := i_clamp (x := z2) rfl (by (first | exact om_6a6e19407997 rg_p0.1 rg_p1.1 hz1 hz2 | omega))
  have k2 := i_clamp (x := p0) rfl (by (first | exact om_eafa9039069c rg_p0.1 | omega))
  have k3 := i_clamp (x := p1) rfl (by (first | exact om_eafa9039069c rg_p1.1 | omega))
  exact W.iret (v := (V 25 (Int32.toNatClampNeg z2))) hx hb hr (fun t ht hW => ⟨⟨(V 25 (Int32.toNatClampNeg z2)), (), rfl, ⟨(show (-1) ≤ ((V 25 (Int32.toNatClampNeg z2))).toInt ∧ ((V 25 (Int32.toNatClampNeg z2))).toInt ≤ 299 from by (first | exact om_0fcd3dacd231 r3.1 r3.2 | omega)), (congrArg (V 25) (by omega))⟩, by rw [ht]; exact hP, va_K.moved hW.alike hK, hD⟩, hS.F ht⟩) hS.2.2 dX8_objectAt_11
abbrev r_x_holdFailure2 : Room := { frames := 0, cells := 0, slots := 0, locals := 0 }
abbrev q_x_holdFailure2 (D : va_G) (ks : KS) (ad : Nat → Nat) (kk : Nat → ClassId) (V : Vf) (L : Lf) (Z : XZ) (gf : Nat) (A : Nat → Prop) : Array Value → State → Outcome → State → Prop := va_Qv (fun (u : Vf × Lf) => rgd bX u.1 ∧ agr [] [81, 82] V u.1 ∧ u.2 = L ∧ (ME V u.1 gf)) (fun u t => gq D A (xw ad kk u.1 u.2 Z) (xty kk Z) t) A
set_option maxHeartbeats 4000000 in
set_option maxRecDepth 100000 in
theorem x_holdFailure2 (l : Launch) (D : va_G) (ks : KS) (sz : Nat) (ad : Nat → Nat) (kk : Nat → ClassId) (V : Vf) (L : Lf) (Z : XZ) (gf : Nat) (hMV : rgd bX V) (hgf : gf < Z.nf)  : Met l yX5_holdFailure (Cond.code yX5_holdFailure cX5_holdFailure 2 none :: GW) r_x_holdFailure2 (va_Pc [.ref (ad 5), .ref (Z.fa gf)] (gp D ks (xw ad kk V L Z) (xty kk Z) sz)) (q_x_holdFailure2 D ks ad kk V L Z  gf (va_A (xw ad kk V L Z) sz)) 0 0 (va_A (xw ad kk V L Z) sz) := by
  refine g_met (q_x_holdFailure2 D ks ad kk V L Z  gf) (by decide) (Nat.le_of_ble_eq_true rfl) ?_
  intro p e s m below meth c A ls H locs hx hb hr hml hown hg hlocks hin hnw hgk hP hK hD hS hA hl
  have hown : s.vm.findClass RX5 = some m.cls := hown
  have hl : lv_has ls 2 [(0, .ref (ad 5)), (1, .ref (Z.fa gf))] := hl
  have hP : va_P D vwCl (xw ad kk V L Z) H := hP
  have hD : va_D A (xw ad kk V L Z) := hD
  have hK : va_K D vwCl (xty kk Z) s := hK
  have agV : agr [] [81, 82] V V := agr.rf
  refine lv_aload_n hx hb dX5_holdFailure_0 rfl (lv_at hl 1 rfl) ?_
  refine lv_aload_n hx hb dX5_holdFailure_1 rfl (lv_at hl 0 rfl) ?_
  refine va_get (D := D) (ci := 5) (v := .int (V 5 11)) (fs := (xfMachine ad V L Z)) (C := RX5) (T := TX5) (N := 15) hx hb hg inX5 hown hK hP 5 xgMachine rfl 11 (by decide) (hg _ w678) (fun _ h9 => h9) rfl dX5_holdFailure_2 ?_
  refine va_putN (D := D) (ci := 4) (v := .int (V 5 11)) (ty := tyX4 14) (fs := (xfFrame V gf)) (C := RX4) (T := TX4) (N := 19) hx hb hg inX4 tyX4 tyX4_ok nmX4 hown hK hP hD hS (336 + gf) (xgFrame hgf) rfl 14 (by decide) (hnw.use 1203 n1203 rfl) (fun _ h9 => h9) rfl (tyX4_ok 14 (by decide)) rfl rfl (Nat.le_of_ble_eq_true rfl) dX5_holdFailure_5 (fun H locs hP hD hS => ?_)
  obtain ⟨V1, hV1⟩ : ∃ z, z = up2 V 81 gf (V 5 11) := ⟨_, rfl⟩
  have ew2 : (xw ad kk V L Z).set (336 + gf) ((Z.fa gf), .inr (4, (xfFrame V gf).set 14 (.int (V 5 11)))) = xw ad kk V1 L Z := by rw [hV1]; exact xpFrame_needs hgf
  have hP : va_P D vwCl (xw ad kk V1 L Z) H := by rw [← ew2]; exact hP
  have hD : va_D A (xw ad kk V1 L Z) := by rw [← ew2]; exact hD
  have hMV1 : rgd bX V1 := hMV.put hV1 (i_full _)
  have agV1 : agr [] [81, 82] V V1 := agV.up hV1 rfl
  refine lv_aload_n hx hb dX5_holdFailure_8 rfl (lv_at hl 1 rfl) ?_
  refine lv_aload_n hx hb dX5_holdFailure_9 rfl (lv_at hl 0 rfl) ?_
  refine va_get (D := D) (ci := 5) (v := .int (V1 5 12)) (fs := (xfMachine ad V1 L Z)) (C := RX5) (T := TX5) (N := 15) hx hb hg inX5 hown hK hP 5 xgMachine rfl 12 (by decide) (hg _ w679) (fun _ h9 => h9) rfl dX5_holdFailure_10 ?_
  refine g_top (v := (V 5 12)) (up2_o hV1 (by decide)) ?_
  refine va_putN (D := D) (ci := 4) (v := .int (V 5 12)) (ty := tyX4 15) (fs := (xfFrame V1 gf)) (C := RX4) (T := TX4) (N := 19) hx hb hg inX4 tyX4 tyX4_ok nmX4 hown hK hP hD hS (336 + gf) (xgFrame hgf) rfl 15 (by decide) (hnw.use 1204 n1204 rfl) (fun _ h9 => h9) rfl (tyX4_ok 15 (by decide)) rfl rfl (Nat.le_of_ble_eq_true rfl) dX5_holdFailure_13 (fun H locs hP hD hS => ?_)
  obtain ⟨V3, hV3⟩ : ∃ z, z = up2 V1 82 gf (V 5 12) := ⟨_, rfl⟩
  have ew4 : (xw ad kk V1 L Z).set (336 + gf) ((Z.fa gf), .inr (4, (xfFrame V1 gf).set 15 (.int (V 5 12)))) = xw ad kk V3 L Z := by rw [hV3]; exact xpFrame_failure hgf
  have hP : va_P D vwCl (xw ad kk V3 L Z) H := by rw [← ew4]; exact hP
  have hD : va_D A (xw ad kk V3 L Z) := by rw [← ew4]; exact hD
  have hMV3 : rgd bX V3 := hMV1.put hV3 (i_full _)
  have agV3 : agr [] [81, 82] V V3 := agV1.up hV3 rfl
  have me5 : ME V V3 gf := (ME.up (ME.up ME.rf hV1 (Or.inl ⟨by decide, by decide, Nat.le_refl _⟩)) hV3 (Or.inl ⟨by decide, by decide, Nat.le_refl _⟩))
  exact W.vret hx hb hr (fun t ht hW => ⟨⟨(V3, L), rfl, ⟨hMV3, agV3, rfl, me5⟩, by rw [ht]; exact hP, va_K.moved hW.alike hK, hD⟩, hS.F ht⟩) hS.2.2 dX5_holdFailure_16
abbrev r_x_beginObject2 : Room := { frames := 2, cells := 0, slots := 0, locals := 46 }
abbrev q_x_beginObject2 (D : va_G) (ks : KS) (ad : Nat → Nat) (kk : Nat → ClassId) (V : Vf) (L : Lf) (Z : XZ) (p0 : Int32) (p1 : Int32) (p2 : Int32) (A : Nat → Prop) : Array Value → State → Outcome → State → Prop := va_Qi (fun (r : Int32) (u : Vf × Lf) => rgd bX u.1 ∧ agr [(3, 13)] [25, 26, 27, 28, 30] V u.1 ∧ u.2 = L ∧ ((-1) ≤ r.toInt ∧ r.toInt ≤ 299) ∧ (SL u.1 Z) ∧ (Imp (0 ≤ r.toInt) (∀ q : Nat, 8 * Int32.toNatClampNeg (V 3 13) ≤ q → q < 8 * Int32.toNatClampNeg (V 3 13) + 8 → (u.1 30 q).toInt = -1)) ∧ (Imp (0 ≤ r.toInt) (∀ q : Nat, ¬ (8 * Int32.toNatClampNeg (V 3 13) ≤ q ∧ q < 8 * Int32.toNatClampNeg (V 3 13) + 8) → u.1 30 q = V 30 q)) ∧ (Imp (0 ≤ r.toInt) (∀ q : Nat, ¬ q = Int32.toNatClampNeg (V 3 13) → u.1 26 q = V 26 q)) ∧ (Imp (0 ≤ r.toInt) (r.toInt = (V 3 13).toInt ∧ (u.1 3 13).toInt = (V 3 13).toInt + 1)) ∧ (Imp (r.toInt = -1) ((u.1 3 13).toInt = (V 3 13).toInt)) ∧ (Imp (0 ≤ r.toInt) (u.1 26 (Int32.toNatClampNeg (V 3 13)) = p0)) ∧ (Imp (r.toInt = -1) (u.1 = V)) ∧ (Imp (0 ≤ r.toInt) (∀ k : Nat, k < 960 → u.1 25 k = V 25 k ∨ ((u.1 25 k).toInt = r.toInt ∧ p0.toInt = ((k % 24 : Nat) : Int))))) (fun u t => gq D A (xw ad kk u.1 u.2 Z) (xty kk Z) t) A
set_option maxHeartbeats 4000000 in
set_option maxRecDepth 100000 in
theorem x_beginObject2 (l : Launch) (D : va_G) (ks : KS) (sz : Nat) (ad : Nat → Nat) (kk : Nat → ClassId) (V : Vf) (L : Lf) (Z : XZ) (p0 : Int32) (p1 : Int32) (p2 : Int32) (hMV : rgd bX V) (rg_p0 : 0 ≤ p0.toInt ∧ p0.toInt ≤ 23) (rg_p1 : 0 ≤ p1.toInt ∧ p1.toInt ≤ 39) (rg_p2 : 0 ≤ p2.toInt ∧ p2.toInt ≤ 1) (sl : SL V Z)  : Met l yX8_beginObject (Cond.code yX8_beginObject cX8_beginObject 5 (some .int) :: GW) r_x_beginObject2 (va_Pc [.ref (ad 3), .int p0, .int p1, .int p2] (gp D ks (xw ad kk V L Z) (xty kk Z) sz)) (q_x_beginObject2 D ks ad kk V L Z p0 p1 p2 (va_A (xw ad kk V L Z) sz)) 0 0 (va_A (xw ad kk V L Z) sz) := by
  refine g_met (q_x_beginObject2 D ks ad kk V L Z p0 p1 p2) (by decide) (Nat.le_of_ble_eq_true rfl) ?_
  intro p e s m below meth c A ls H locs hx hb hr hml hown hg hlocks hin hnw hgk hP hK hD hS hA hl
  have hown : s.vm.findClass RX8 = some m.cls := hown
  have hl : lv_has ls 5 [(0, .ref (ad 3)), (1, .int p0), (2, .int p1), (3, .int p2)] := hl
  have hP : va_P D vwCl (xw ad kk V L Z) H := hP
  have hD : va_D A (xw ad kk V L Z) := hD
  have hK : va_K D vwCl (xty kk Z) s := hK
  have agV : agr [(3, 13)] [25, 26, 27, 28, 30] V V := agr.rf
  refine lv_aload_n hx hb dX8_beginObject_0 rfl (lv_at hl 0 rfl) ?_
  refine va_get (D := D) (ci := 8) (v := .int (V 3 13)) (fs := (xfStock ad V L Z)) (C := RX8) (T := TX8) (N := 16) hx hb hg inX8 hown hK hP 3 xgStock rfl 13 (by decide) (hg _ w391) (fun _ h9 => h9) rfl dX8_beginObject_1 ?_
  have r1 : 0 ≤ ((V 3 13)).toInt ∧ ((V 3 13)).toInt ≤ 300 := hMV 3 13
  refine lv_sipush (v := 300) hx hb dX8_beginObject_4 (by decide) ?_
  refine lv_icmp_lt (tgt := 12) hx hb dX8_beginObject_7 (by decide) (fun c2 => ?_) (fun c2 => ?_)
  · skip
    have f3 : ((V 3 13)).toInt < 300 := b_lt rfl (by decide) c2
    refine lv_aload_n hx hb dX8_beginObject_12 rfl (lv_at hl 0 rfl) ?_
    refine lv_dup hx hb dX8_beginObject_13 rfl ?_
    refine va_get (D := D) (ci := 8) (v := .int (V 3 13)) (fs := (xfStock ad V L Z)) (C := RX8) (T := TX8) (N := 16) hx hb hg inX8 hown hK hP 3 xgStock rfl 13 (by decide) (hg _ w391) (fun _ h9 => h9) rfl dX8_beginObject_14 ?_
    refine lv_dup_x1 hx hb dX8_beginObject_17 rfl rfl ?_
    refine lv_iconst (v := 1) hx hb dX8_beginObject_18 (by decide) ?_
    refine lv_iadd hx hb dX8_beginObject_19 ?_
    refine lv_topi (fun z4 ez4 => ?_)
    have hz4 : z4.toInt = ((V 3 13)).toInt + 1 := i_add ez4 rfl (by decide) (by (first | exact om_e89c2ae064a9 r1.1 f3 | omega))
    refine va_put (D := D) (ci := 8) (v := .int z4) (ty := tyX8 13) (fs := (xfStock ad V L Z)) (C := RX8) (T := TX8) (N := 16) hx hb hg inX8 tyX8 tyX8_ok nmX8 hown hK hP hD hS 3 xgStock rfl 13 (by decide) (hg _ w391) (fun _ h9 => h9) rfl (tyX8_ok 13 (by decide)) rfl rfl (Nat.le_of_ble_eq_true rfl) dX8_beginObject_20 (fun H locs hP hD hS => ?_)
    obtain ⟨V5, hV5⟩ : ∃ z, z = up2 V 3 13 z4 := ⟨_, rfl⟩
    have ew6 : (xw ad kk V L Z).set 3 ((ad 3), .inr (8, (xfStock ad V L Z).set 13 (.int z4))) = xw ad kk V5 L Z := by rw [hV5]; exact xw_ss (by decide) rfl (xb_si (by decide))
    have hP : va_P D vwCl (xw ad kk V5 L Z) H := by rw [← ew6]; exact hP
    have hD : va_D A (xw ad kk V5 L Z) := by rw [← ew6]; exact hD
    have hMV5 : rgd bX V5 := hMV.put hV5 (show 0 ≤ z4.toInt ∧ z4.toInt ≤ 300 from by first | exact om_59cf3ec53513 r1.1 f3 hz4 | first | omega | ((try (have i_sl := Imp.go sl (by omega))); omega))
    have agV5 : agr [(3, 13)] [25, 26, 27, 28, 30] V V5 := agV.up hV5 rfl
    refine lv_istore (lv' := [(4, .int (V 3 13)), (0, .ref (ad 3)), (1, .int p0), (2, .int p1), (3, .int p2)]) hx hb dX8_beginObject_23 hl (by decide) rfl (fun ls hl => ?_)
    refine lv_aload_n hx hb dX8_beginObject_25 rfl (lv_at hl 1 rfl) ?_
    refine va_get (D := D) (ci := 8) (v := .ref (ad 23)) (fs := (xfStock ad V5 L Z)) (C := RX8) (T := TX8) (N := 16) hx hb hg inX8 hown hK hP 3 xgStock rfl 5 (by decide) (hg _ w379) (fun _ h9 => h9) rfl dX8_beginObject_26 ?_
    refine lv_iload hx hb dX8_beginObject_29 (lv_at hl 0 rfl) ?_
    refine lv_iload_n hx hb dX8_beginObject_31 rfl (lv_at hl 2 rfl) ?_
    refine va_iast (D := D) (i := (V 3 13)) (x := p0) hx hb hK hP hD hS 23 16 rfl rfl (i_in (a := ((V 3 13)).toInt) rfl (by first | exact om_5b0e5b7d98b0 r1.1 f3 | first | omega | ((try (have i_sl := Imp.go sl (by omega))); omega))) dX8_beginObject_32 (fun H locs hP hD hS => ?_)
    obtain ⟨V7, hV7⟩ : ∃ z, z = up2 V5 26 (Int32.toNatClampNeg (V 3 13)) p0 := ⟨_, rfl⟩
    have ew8 : (xw ad kk V5 L Z).set 23 ((ad 23), .inl ((kk 23), 300, .inl (upd (V5 26) (Int32.toNatClampNeg (V 3 13)) p0))) = xw ad kk V7 L Z := by rw [hV7]; exact xw_ss (by decide) rfl (xb_si (by decide))
    have hP : va_P D vwCl (xw ad kk V7 L Z) H := by rw [← ew8]; exact hP
    have hD : va_D A (xw ad kk V7 L Z) := by rw [← ew8]; exact hD
    have hMV7 : rgd bX V7 := hMV5.put hV7 (show 0 ≤ p0.toInt ∧ p0.toInt ≤ 23 from by first | exact om_d3435e1acec6 rg_p0.1 rg_p0.2 | first | omega | ((try (have i_sl := Imp.go sl (by omega))); omega))
    have agV7 : agr [(3, 13)] [25, 26, 27, 28, 30] V V7 := agV5.up hV7 rfl
    refine lv_aload_n hx hb dX8_beginObject_33 rfl (lv_at hl 1 rfl) ?_
    refine va_get (D := D) (ci := 8) (v := .ref (ad 24)) (fs := (xfStock ad V7 L Z)) (C := RX8) (T := TX8) (N := 16) hx hb hg inX8 hown hK hP 3 xgStock rfl 6 (by decide) (hg _ w381) (fun _ h9 => h9) rfl dX8_beginObject_34 ?_
    refine lv_iload hx hb dX8_beginObject_37 (lv_at hl 0 rfl) ?_
    refine lv_iload_n hx hb dX8_beginObject_39 rfl (lv_at hl 3 rfl) ?_
    refine va_iast (D := D) (i := (V 3 13)) (x := p1) hx hb hK hP hD hS 24 17 rfl rfl (i_in (a := ((V 3 13)).toInt) rfl (by first | exact om_5b0e5b7d98b0 r1.1 f3 | first | omega | ((try (have i_sl := Imp.go sl (by omega))); omega))) dX8_beginObject_40 (fun H locs hP hD hS => ?_)
    obtain ⟨V9, hV9⟩ : ∃ z, z = up2 V7 27 (Int32.toNatClampNeg (V 3 13)) p1 := ⟨_, rfl⟩
    have ew10 : (xw ad kk V7 L Z).set 24 ((ad 24), .inl ((kk 24), 300, .inl (upd (V7 27) (Int32.toNatClampNeg (V 3 13)) p1))) = xw ad kk V9 L Z := by rw [hV9]; exact xw_ss (by decide) rfl (xb_si (by decide))
    have hP : va_P D vwCl (xw ad kk V9 L Z) H := by rw [← ew10]; exact hP
    have hD : va_D A (xw ad kk V9 L Z) := by rw [← ew10]; exact hD
    have hMV9 : rgd bX V9 := hMV7.put hV9 (show 0 ≤ p1.toInt ∧ p1.toInt ≤ 39 from by first | exact om_13ba01c174fe rg_p1.1 rg_p1.2 | first | omega | ((try (have i_sl := Imp.go sl (by omega))); omega))
    have agV9 : agr [(3, 13)] [25, 26, 27, 28, 30] V V9 := agV7.up hV9 rfl
    refine lv_aload_n hx hb dX8_beginObject_41 rfl (lv_at hl 1 rfl) ?_
    refine va_get (D := D) (ci := 8) (v := .ref (ad 25)) (fs := (xfStock ad V9 L Z)) (C := RX8) (T := TX8) (N := 16) hx hb hg inX8 hown hK hP 3 xgStock rfl 7 (by decide) (hg _ w384) (fun _ h9 => h9) rfl dX8_beginObject_42 ?_
    refine lv_iload hx hb dX8_beginObject_45 (lv_at hl 0 rfl) ?_
    refine lv_iconst (v := 0) hx hb dX8_beginObject_47 (by decide) ?_
    refine va_iast (D := D) (i := (V 3 13)) (x := 0) hx hb hK hP hD hS 25 18 rfl rfl (i_in (a := ((V 3 13)).toInt) rfl (by first | exact om_5b0e5b7d98b0 r1.1 f3 | first | omega | ((try (have i_sl := Imp.go sl (by omega))); omega))) dX8_beginObject_48 (fun H locs hP hD hS => ?_)
    obtain ⟨V11, hV11⟩ : ∃ z, z = up2 V9 28 (Int32.toNatClampNeg (V 3 13)) 0 := ⟨_, rfl⟩
    have ew12 : (xw ad kk V9 L Z).set 25 ((ad 25), .inl ((kk 25), 300, .inl (upd (V9 28) (Int32.toNatClampNeg (V 3 13)) 0))) = xw ad kk V11 L Z := by rw [hV11]; exact xw_ss (by decide) rfl (xb_si (by decide))
    have hP : va_P D vwCl (xw ad kk V11 L Z) H := by rw [← ew12]; exact hP
    have hD : va_D A (xw ad kk V11 L Z) := by rw [← ew12]; exact hD
    have hMV11 : rgd bX V11 := hMV9.put hV11 (i_full _)
    have agV11 : agr [(3, 13)] [25, 26, 27, 28, 30] V V11 := agV9.up hV11 rfl
    refine lv_aload_n hx hb dX8_beginObject_49 rfl (lv_at hl 1 rfl) ?_
    refine va_get (D := D) (ci := 8) (v := .ref (ad 27)) (fs := (xfStock ad V11 L Z)) (C := RX8) (T := TX8) (N := 16) hx hb hg inX8 hown hK hP 3 xgStock rfl 9 (by decide) (hg _ w387) (fun _ h9 => h9) rfl dX8_beginObject_50 ?_
    refine lv_iload hx hb dX8_beginObject_53 (lv_at hl 0 rfl) ?_
    refine lv_bipush (v := 8) hx hb dX8_beginObject_55 (by decide) ?_
    refine lv_imul hx hb dX8_beginObject_57 ?_
    refine lv_topi (fun z13 ez13 => ?_)
    have hz13 : z13.toInt = ((V 3 13)).toInt * 8 := i_mul ez13 rfl (by decide) (by (first | exact om_fb983384b73c r1.1 f3 | omega))
    refine lv_iload hx hb dX8_beginObject_58 (lv_at hl 0 rfl) ?_
    refine lv_bipush (v := 8) hx hb dX8_beginObject_60 (by decide) ?_
    refine lv_imul hx hb dX8_beginObject_62 ?_
    refine lv_topi (fun z14 ez14 => ?_)
    have hz14 : z14.toInt = ((V 3 13)).toInt * 8 := i_mul ez14 rfl (by decide) (by (first | exact om_fb983384b73c r1.1 f3 | omega))
    refine lv_bipush (v := 8) hx hb dX8_beginObject_63 (by decide) ?_
    refine lv_iadd hx hb dX8_beginObject_65 ?_
    refine lv_topi (fun z15 ez15 => ?_)
    have hz15 : z15.toInt = z14.toInt + 8 := i_add ez15 rfl (by decide) (by (first | exact om_438d47d7348e r1.1 f3 hz14 | omega))
    refine lv_iconst (v := (-1)) hx hb dX8_beginObject_66 (by decide) ?_
    have r16 : Int32.toInt (-1) = (-1) := by decide
    refine gA_void (gA_runS (As := [.ref (ad 27), .int z13, .int z15, .int (-1)]) (rest := []) hx hb hml hown hg hP hD hK hS hA hnw hgk (x_fillChains l D ks H.size ad kk V11 L Z z13 z15 (-1) hMV11 (by first | exact om_cf3ce3a8143f r1.1 f3 hz13 | first | omega | ((try (have i_sl := Imp.go sl (by omega))); omega)) (by first | exact om_f84b3797aa63 r1.1 f3 hz14 hz15 | first | omega | ((try (have i_sl := Imp.go sl (by omega))); omega)) (by decide) (show z13.toInt ≤ z15.toInt from by first | exact om_8d4dcf0abdd0 hz13 hz14 hz15 | first | omega | ((try (have i_sl := Imp.go sl (by omega))); omega))) w1290 w1291 w165 w1292 hdS_yJ7_fill_fda19 ⟨Nat.le_of_ble_eq_true rfl, Nat.le_of_ble_eq_true rfl⟩ rfl hl.1 rfl (Nat.le_of_ble_eq_true rfl) dX8_beginObject_67 ⟨Nat.le_of_ble_eq_true rfl, Nat.le_of_ble_eq_true rfl⟩) hP hD hK hS hA (fun u18 H locs w19 hP hD hK hS => ?_)
    obtain ⟨V22, L23⟩ := u18
    obtain ⟨hMV22, ajV22, axL23, t20, t21⟩ := w19
    have axL23 : L = L23 := Eq.symm axL23
    subst axL23
    have hP : va_P D vwCl (xw ad kk V22 L Z) H := hP
    have hD : va_D A (xw ad kk V22 L Z) := hD
    have hMV22 : rgd bX V22 := hMV22
    have ajV22 : agr [] [30] V11 V22 := ajV22
    have agV22 : agr [(3, 13)] [25, 26, 27, 28, 30] V V22 := agV11.tr ajV22 (by decide) (by decide)
    have t20 : (∀ q : Nat, z13.toInt ≤ (q : Int) → (q : Int) < z15.toInt → V22 30 (q) = (-1)) := t20
    have t21 : (∀ q : Nat, ¬ (Int32.toNatClampNeg z13 ≤ q ∧ q < Int32.toNatClampNeg z15) → V22 30 q = V11 30 q) := t21
    refine lv_iload_n hx hb dX8_beginObject_70 rfl (lv_at hl 4 rfl) ?_
    refine lv_if_eq (tgt := 87) hx hb dX8_beginObject_71 (by decide) (fun c24 => ?_) (fun c24 => ?_)
    · skip
      have f25 : p2.toInt = 0 := b_eq rfl (by decide) c24
      refine lv_iload hx hb dX8_beginObject_87 (lv_at hl 0 rfl) ?_
      have pq26 : (V22 3 13).toInt = z4.toInt := congrArg Int32.toInt ((ajV22 3 13 rfl).trans ((up2_o hV11 (by decide)).trans ((up2_o hV9 (by decide)).trans ((up2_o hV7 (by decide)).trans (up2_s hV5)))))
      have ko9 := i_clamp (x := V 3 13) rfl (by (first | exact om_eafa9039069c r1.1 | omega))
      have k81 := i_clamp (x := z13) rfl (by (first | exact om_e2aed66a0329 r1.1 hz13 | omega))
      have k82 := i_clamp (x := z15) rfl (by (first | exact om_75dff009eb56 r1.1 hz14 hz15 | omega))
      have bn : ∀ q : Nat, 8 * Int32.toNatClampNeg (V 3 13) ≤ q → q < 8 * Int32.toNatClampNeg (V 3 13) + 8 → (V22 30 q).toInt = -1 := fun q h1 h2 => by rw [(show agr [] [] V22 V22 from agr.rf) 30 _ rfl, t20 q (by omega) (by omega)]; decide
      have be : ∀ q : Nat, ¬ (8 * Int32.toNatClampNeg (V 3 13) ≤ q ∧ q < 8 * Int32.toNatClampNeg (V 3 13) + 8) → V22 30 q = V 30 q := fun q hq => (((show agr [] [] V22 V22 from agr.rf) 30 _ rfl).trans (t21 q (by omega))).trans ((show agr [(3, 13)] [26, 27, 28] V V11 from (agr.up (agr.up (agr.up (agr.up agr.rf hV5 rfl) hV7 rfl) hV9 rfl) hV11 rfl)) 30 _ rfl)
      have rp27 : SL V22 Z := SL.new (o := Int32.toNatClampNeg (V 3 13)) sl agV22 rfl (fun _ => rfl) (by omega) (by omega) bn be (hMV 3 15).1
      have rp28 : Imp (0 ≤ ((V 3 13)).toInt) (∀ q : Nat, ¬ q = Int32.toNatClampNeg (V 3 13) → V22 26 q = V 26 q) := Imp.mk (fun _ q hq => (((((ajV22 26 _ rfl).trans (up2_o hV11 (by decide))).trans (up2_o hV9 (by decide))).trans (up2_k hV7 hq)).trans (up2_o hV5 (by decide))))
      exact W.iret (v := (V 3 13)) hx hb hr (fun t ht hW => ⟨⟨(V 3 13), (V22, L), rfl, ⟨hMV22, agV22, rfl, (show (-1) ≤ ((V 3 13)).toInt ∧ ((V 3 13)).toInt ≤ 299 from by first | exact om_89495db99b5a r1.1 f3 | first | omega | ((try (have i_sl := Imp.go sl (by omega))); omega)), rp27, (Imp.mk (fun _ => bn)), (Imp.mk (fun _ => be)), rp28, (Imp.mk (fun hp => have hp : 0 ≤ ((V 3 13)).toInt := hp; (show ((V 3 13)).toInt = (V 3 13).toInt ∧ (V22 3 13).toInt = (V 3 13).toInt + 1 from by first | exact om_973282c118df hz4 pq26 | first | omega | ((try (have i_sl := Imp.go sl (by omega))); omega)))), (Imp.mk (fun hp => have hp : ((V 3 13)).toInt = -1 := hp; (show (V22 3 13).toInt = (V 3 13).toInt from by first | omega | ((try (have i_sl := Imp.go sl (by omega))); omega)))), (Imp.mk (fun _ => ((ajV22 26 (Int32.toNatClampNeg (V 3 13)) rfl).trans ((up2_o hV11 (by decide)).trans ((up2_o hV9 (by decide)).trans (up2_s hV7)))))), (Imp.mk (fun hp => absurd hp (by omega))), (Imp.mk (fun _ k hk => Or.inl ((ajV22 25 _ rfl).trans ((up2_o hV11 (by decide)).trans ((up2_o hV9 (by decide)).trans ((up2_o hV7 (by decide)).trans (up2_o hV5 (by decide))))))))⟩, by rw [ht]; exact hP, va_K.moved hW.alike hK, hD⟩, hS.F ht⟩) hS.2.2 dX8_beginObject_89
    · skip
      have f29 : p2.toInt ≠ 0 := b_neq rfl (by decide) c24
      refine lv_aload_n hx hb dX8_beginObject_74 rfl (lv_at hl 1 rfl) ?_
      refine va_get (D := D) (ci := 8) (v := .ref (ad 22)) (fs := (xfStock ad V22 L Z)) (C := RX8) (T := TX8) (N := 16) hx hb hg inX8 hown hK hP 3 xgStock rfl 4 (by decide) (hg _ w378) (fun _ h9 => h9) rfl dX8_beginObject_75 ?_
      refine lv_iload_n hx hb dX8_beginObject_78 rfl (lv_at hl 3 rfl) ?_
      refine lv_bipush (v := 24) hx hb dX8_beginObject_79 (by decide) ?_
      refine lv_imul hx hb dX8_beginObject_81 ?_
      refine lv_topi (fun z30 ez30 => ?_)
      have hz30 : z30.toInt = p1.toInt * 24 := i_mul ez30 rfl (by decide) (by (first | exact om_1c6a8f74b4b6 rg_p1.1 rg_p1.2 | omega))
      refine lv_iload_n hx hb dX8_beginObject_82 rfl (lv_at hl 2 rfl) ?_
      refine lv_iadd hx hb dX8_beginObject_83 ?_
      refine lv_topi (fun z31 ez31 => ?_)
      have hz31 : z31.toInt = z30.toInt + p0.toInt := i_add ez31 rfl rfl (by (first | exact om_7ffda8569b0d rg_p0.1 rg_p0.2 rg_p1.1 rg_p1.2 hz30 | omega))
      refine lv_iload hx hb dX8_beginObject_84 (lv_at hl 0 rfl) ?_
      refine va_iast (D := D) (i := z31) (x := (V 3 13)) hx hb hK hP hD hS 22 15 rfl rfl (i_in (a := z31.toInt) rfl (by first | exact om_a05674d1bef4 rg_p0.1 rg_p0.2 rg_p1.1 rg_p1.2 hz30 hz31 | first | omega | ((try (have i_sl := Imp.go sl (by omega))); omega))) dX8_beginObject_86 (fun H locs hP hD hS => ?_)
      obtain ⟨V32, hV32⟩ : ∃ z, z = up2 V22 25 (Int32.toNatClampNeg z31) (V 3 13) := ⟨_, rfl⟩
      have ew33 : (xw ad kk V22 L Z).set 22 ((ad 22), .inl ((kk 22), 960, .inl (upd (V22 25) (Int32.toNatClampNeg z31) (V 3 13)))) = xw ad kk V32 L Z := by rw [hV32]; exact xw_ss (by decide) rfl (xb_si (by decide))
      have hP : va_P D vwCl (xw ad kk V32 L Z) H := by rw [← ew33]; exact hP
      have hD : va_D A (xw ad kk V32 L Z) := by rw [← ew33]; exact hD
      have hMV32 : rgd bX V32 := hMV22.put hV32 (show (-1) ≤ ((V 3 13)).toInt ∧ ((V 3 13)).toInt ≤ 299 from by first | exact om_89495db99b5a r1.1 f3 | first | omega | ((try (have i_sl := Imp.go sl (by omega))); omega))
      have agV32 : agr [(3, 13)] [25, 26, 27, 28, 30] V V32 := agV22.up hV32 rfl
      refine lv_iload hx hb dX8_beginObject_87 (lv_at hl 0 rfl) ?_
      have pq34 : (V32 3 13).toInt = z4.toInt := congrArg Int32.toInt ((up2_o hV32 (by decide)).trans ((ajV22 3 13 rfl).trans ((up2_o hV11 (by decide)).trans ((up2_o hV9 (by decide)).trans ((up2_o hV7 (by decide)).trans (up2_s hV5))))))
      have ko9 := i_clamp (x := V 3 13) rfl (by (first | exact om_eafa9039069c r1.1 | omega))
      have k81 := i_clamp (x := z13) rfl (by (first | exact om_e2aed66a0329 r1.1 hz13 | omega))
      have k82 := i_clamp (x := z15) rfl (by (first | exact om_75dff009eb56 r1.1 hz14 hz15 | omega))
      have bn : ∀ q : Nat, 8 * Int32.toNatClampNeg (V 3 13) ≤ q → q < 8 * Int32.toNatClampNeg (V 3 13) + 8 → (V32 30 q).toInt = -1 := fun q h1 h2 => by rw [(show agr [] [25] V22 V32 from (agr.up agr.rf hV32 rfl)) 30 _ rfl, t20 q (by omega) (by omega)]; decide
      have be : ∀ q : Nat, ¬ (8 * Int32.toNatClampNeg (V 3 13) ≤ q ∧ q < 8 * Int32.toNatClampNeg (V 3 13) + 8) → V32 30 q = V 30 q := fun q hq => (((show agr [] [25] V22 V32 from (agr.up agr.rf hV32 rfl)) 30 _ rfl).trans (t21 q (by omega))).trans ((show agr [(3, 13)] [26, 27, 28] V V11 from (agr.up (agr.up (agr.up (agr.up agr.rf hV5 rfl) hV7 rfl) hV9 rfl) hV11 rfl)) 30 _ rfl)
      have rp35 : SL V32 Z := SL.new (o := Int32.toNatClampNeg (V 3 13)) sl agV32 rfl (fun _ => rfl) (by omega) (by omega) bn be (hMV 3 15).1
      have rp36 : Imp (0 ≤ ((V 3 13)).toInt) (∀ q : Nat, ¬ q = Int32.toNatClampNeg (V 3 13) → V32 26 q = V 26 q) := Imp.mk (fun _ q hq => ((((((up2_o hV32 (by decide)).trans (ajV22 26 _ rfl)).trans (up2_o hV11 (by decide))).trans (up2_o hV9 (by decide))).trans (up2_k hV7 hq)).trans (up2_o hV5 (by decide))))
      have kb1 := i_clamp (x := z31) rfl (by (first | exact om_b4d5075f46c7 rg_p0.1 rg_p1.1 hz30 hz31 | omega))
      have kb2 := i_clamp (x := p0) rfl (by (first | exact om_eafa9039069c rg_p0.1 | omega))
      have kb3 := i_clamp (x := p1) rfl (by (first | exact om_eafa9039069c rg_p1.1 | omega))
      have rp37 : Imp (0 ≤ ((V 3 13)).toInt) (∀ k : Nat, k < 960 → V32 25 k = V 25 k ∨ ((V32 25 k).toInt = ((V 3 13)).toInt ∧ p0.toInt = ((k % 24 : Nat) : Int))) := Imp.mk (fun _ k hk => (Nat.decEq k (Int32.toNatClampNeg z31)).byCases (fun q => Or.inr ⟨by rw [q, (up2_s hV32)], by omega⟩) (fun q => Or.inl ((up2_k hV32 q).trans ((ajV22 25 _ rfl).trans ((up2_o hV11 (by decide)).trans ((up2_o hV9 (by decide)).trans ((up2_o hV7 (by decide)).trans (up2_o hV5 (by decide)))))))))
      exact W.iret (v := (V 3 13)) hx hb hr (fun t ht hW => ⟨⟨(V 3 13), (V32, L), rfl, ⟨hMV32, agV32, rfl, (show (-1) ≤ ((V 3 13)).toInt ∧ ((V 3 13)).toInt ≤ 299 from by first | exact om_89495db99b5a r1.1 f3 | first | omega | ((try (have i_sl := Imp.go sl (by omega))); omega)), rp35, (Imp.mk (fun _ => bn)), (Imp.mk (fun _ => be)), rp36, (Imp.mk (fun hp => have hp : 0 ≤ ((V 3 13)).toInt := hp; (show ((V 3 13)).toInt = (V 3 13).toInt ∧ (V32 3 13).toInt = (V 3 13).toInt + 1 from by first | exact om_973282c118df hz4 pq34 | first | omega | ((try (have i_sl := Imp.go sl (by omega))); omega)))), (Imp.mk (fun hp => have hp : ((V 3 13)).toInt = -1 := hp; (show (V32 3 13).toInt = (V 3 13).toInt from by first | omega | ((try (have i_sl := Imp.go sl (by omega))); omega)))), (Imp.mk (fun _ => ((up2_o hV32 (by decide)).trans ((ajV22 26 (Int32.toNatClampNeg (V 3 13)) rfl).trans ((up2_o hV11 (by decide)).trans ((up2_o hV9 (by decide)).trans (up2_s hV7))))))), (Imp.mk (fun hp => absurd hp (by omega))), rp37⟩, by rw [ht]; exact hP, va_K.moved hW.alike hK, hD⟩, hS.F ht⟩) hS.2.2 dX8_beginObject_89
  · skip
    have f38 : 300 ≤ ((V 3 13)).toInt := b_nlt rfl (by decide) c2
    refine lv_iconst (v := (-1)) hx hb dX8_beginObject_10 (by decide) ?_
    exact W.iret (v := (-1)) hx hb hr (fun t ht hW => ⟨⟨(-1), (V, L), rfl, ⟨hMV, agV, rfl, (by decide), sl, (Imp.mk (fun hp => absurd hp (by decide))), (Imp.mk (fun hp => absurd hp (by decide))), (Imp.mk (fun hp => absurd hp (by decide))), (Imp.mk (fun hp => absurd hp (by decide))), (Imp.mk (fun _ => (show (V 3 13).toInt = (V 3 13).toInt from by first | exact om_4c2c879c4424 | first | omega | ((try (have i_sl := Imp.go sl (by omega))); omega)))), (Imp.mk (fun hp => absurd hp (by decide))), (Imp.mk (fun _ => rfl)), (Imp.mk (fun hp => absurd hp (by decide)))⟩, by rw [ht]; exact hP, va_K.moved hW.alike hK, hD⟩, hS.F ht⟩) hS.2.2 dX8_beginObject_11
abbrev r_x_dropObject2 : Room := { frames := 0, cells := 0, slots := 0, locals := 0 }
abbrev q_x_dropObject2 (D : va_G) (ks : KS) (ad : Nat → Nat) (kk : Nat → ClassId) (V : Vf) (L : Lf) (Z : XZ) (p0 : Int32) (A : Nat → Prop) : Array Value → State → Outcome → State → Prop := va_Qv (fun (u : Vf × Lf) => rgd bX u.1 ∧ agr [] [25, 28] V u.1 ∧ u.2 = L ∧ (∀ n, ME V u.1 n)) (fun u t => gq D A (xw ad kk u.1 u.2 Z) (xty kk Z) t) A
set_option maxHeartbeats 4000000 in
set_option maxRecDepth 100000 in
theorem x_dropObject2 (l : Launch) (D : va_G) (ks : KS) (sz : Nat) (ad : Nat → Nat) (kk : Nat → ClassId) (V : Vf) (L : Lf) (Z : XZ) (p0 : Int32) (hMV : rgd bX V) (rg_p0 : 0 ≤ p0.toInt ∧ p0.toInt ≤ 299)  : Met l yX8_dropObject (Cond.code yX8_dropObject cX8_dropObject 3 none :: GW) r_x_dropObject2 (va_Pc [.ref (ad 3), .int p0] (gp D ks (xw ad kk V L Z) (xty kk Z) sz)) (q_x_dropObject2 D ks ad kk V L Z p0 (va_A (xw ad kk V L Z) sz)) 0 0 (va_A (xw ad kk V L Z) sz) := by
  refine g_met (q_x_dropObject2 D ks ad kk V L Z p0) (by decide) (Nat.le_of_ble_eq_true rfl) ?_
  intro p e s m below meth c A ls H locs hx hb hr hml hown hg hlocks hin hnw hgk hP hK hD hS hA hl
  have hown : s.vm.findClass RX8 = some m.cls := hown
  have hl : lv_has ls 3 [(0, .ref (ad 3)), (1, .int p0)] := hl
  have hP : va_P D vwCl (xw ad kk V L Z) H := hP
  have hD : va_D A (xw ad kk V L Z) := hD
  have hK : va_K D vwCl (xty kk Z) s := hK
  have agV : agr [] [25, 28] V V := agr.rf
  refine lv_aload_n hx hb dX8_dropObject_0 rfl (lv_at hl 0 rfl) ?_
  refine va_get (D := D) (ci := 8) (v := .ref (ad 24)) (fs := (xfStock ad V L Z)) (C := RX8) (T := TX8) (N := 16) hx hb hg inX8 hown hK hP 3 xgStock rfl 6 (by decide) (hg _ w381) (fun _ h9 => h9) rfl dX8_dropObject_1 ?_
  refine lv_iload_n hx hb dX8_dropObject_4 rfl (lv_at hl 1 rfl) ?_
  refine va_iald (D := D) (i := p0) hx hb hK hP 24 17 rfl rfl (i_in (a := p0.toInt) rfl (by (first | exact om_375eda9ff8f1 rg_p0.1 rg_p0.2 | omega))) dX8_dropObject_5 ?_
  have r1 : 0 ≤ ((V 27 (Int32.toNatClampNeg p0))).toInt ∧ ((V 27 (Int32.toNatClampNeg p0))).toInt ≤ 39 := hMV 27 (Int32.toNatClampNeg p0)
  refine lv_bipush (v := 24) hx hb dX8_dropObject_6 (by decide) ?_
  refine lv_imul hx hb dX8_dropObject_8 ?_
  refine lv_topi (fun z2 ez2 => ?_)
  have hz2 : z2.toInt = ((V 27 (Int32.toNatClampNeg p0))).toInt * 24 := i_mul ez2 rfl (by decide) (by (first | exact om_1c6a8f74b4b6 r1.1 r1.2 | omega))
  refine lv_aload_n hx hb dX8_dropObject_9 rfl (lv_at hl 0 rfl) ?_
  refine va_get (D := D) (ci := 8) (v := .ref (ad 23)) (fs := (xfStock ad V L Z)) (C := RX8) (T := TX8) (N := 16) hx hb hg inX8 hown hK hP 3 xgStock rfl 5 (by decide) (hg _ w379) (fun _ h9 => h9) rfl dX8_dropObject_10 ?_
  refine lv_iload_n hx hb dX8_dropObject_13 rfl (lv_at hl 1 rfl) ?_
  refine va_iald (D := D) (i := p0) hx hb hK hP 23 16 rfl rfl (i_in (a := p0.toInt) rfl (by (first | exact om_375eda9ff8f1 rg_p0.1 rg_p0.2 | omega))) dX8_dropObject_14 ?_
  have r3 : 0 ≤ ((V 26 (Int32.toNatClampNeg p0))).toInt ∧ ((V 26 (Int32.toNatClampNeg p0))).toInt ≤ 23 := hMV 26 (Int32.toNatClampNeg p0)
  refine lv_iadd hx hb dX8_dropObject_15 ?_
  refine lv_topi (fun z4 ez4 => ?_)
  have hz4 : z4.toInt = z2.toInt + ((V 26 (Int32.toNatClampNeg p0))).toInt := i_add ez4 rfl rfl (by (first | exact om_9248ba120274 r1.1 r1.2 hz2 r3.1 r3.2 | omega))
  refine lv_istore_n (lv' := [(2, .int z4), (0, .ref (ad 3)), (1, .int p0)]) hx hb dX8_dropObject_16 rfl hl (by decide) rfl (fun ls hl => ?_)
  refine lv_aload_n hx hb dX8_dropObject_17 rfl (lv_at hl 1 rfl) ?_
  refine va_get (D := D) (ci := 8) (v := .ref (ad 25)) (fs := (xfStock ad V L Z)) (C := RX8) (T := TX8) (N := 16) hx hb hg inX8 hown hK hP 3 xgStock rfl 7 (by decide) (hg _ w384) (fun _ h9 => h9) rfl dX8_dropObject_18 ?_
  refine lv_iload_n hx hb dX8_dropObject_21 rfl (lv_at hl 2 rfl) ?_
  refine lv_iconst (v := 2) hx hb dX8_dropObject_22 (by decide) ?_
  refine va_iast (D := D) (i := p0) (x := 2) hx hb hK hP hD hS 25 18 rfl rfl (i_in (a := p0.toInt) rfl (by (first | exact om_375eda9ff8f1 rg_p0.1 rg_p0.2 | omega))) dX8_dropObject_23 (fun H locs hP hD hS => ?_)
  obtain ⟨V5, hV5⟩ : ∃ z, z = up2 V 28 (Int32.toNatClampNeg p0) 2 := ⟨_, rfl⟩
  have ew6 : (xw ad kk V L Z).set 25 ((ad 25), .inl ((kk 25), 300, .inl (upd (V 28) (Int32.toNatClampNeg p0) 2))) = xw ad kk V5 L Z := by rw [hV5]; exact xw_ss (by decide) rfl (xb_si (by decide))
  have hP : va_P D vwCl (xw ad kk V5 L Z) H := by rw [← ew6]; exact hP
  have hD : va_D A (xw ad kk V5 L Z) := by rw [← ew6]; exact hD
  have hMV5 : rgd bX V5 := hMV.put hV5 (i_full _)
  have agV5 : agr [] [25, 28] V V5 := agV.up hV5 rfl
  refine lv_aload_n hx hb dX8_dropObject_24 rfl (lv_at hl 1 rfl) ?_
  refine va_get (D := D) (ci := 8) (v := .ref (ad 22)) (fs := (xfStock ad V5 L Z)) (C := RX8) (T := TX8) (N := 16) hx hb hg inX8 hown hK hP 3 xgStock rfl 4 (by decide) (hg _ w378) (fun _ h9 => h9) rfl dX8_dropObject_25 ?_
  refine lv_iload_n hx hb dX8_dropObject_28 rfl (lv_at hl 0 rfl) ?_
  refine va_iald (D := D) (i := z4) hx hb hK hP 22 15 rfl rfl (i_in (a := z4.toInt) rfl (by (first | exact om_05b08aa47414 r1.1 r1.2 hz2 r3.1 r3.2 hz4 | omega))) dX8_dropObject_29 ?_
  refine g_top (v := (V 25 (Int32.toNatClampNeg z4))) (up2_o hV5 (by decide)) ?_
  have r7 : (-1) ≤ ((V 25 (Int32.toNatClampNeg z4))).toInt ∧ ((V 25 (Int32.toNatClampNeg z4))).toInt ≤ 299 := hMV 25 (Int32.toNatClampNeg z4)
  refine lv_iload_n hx hb dX8_dropObject_30 rfl (lv_at hl 2 rfl) ?_
  refine lv_icmp_ne (tgt := 41) hx hb dX8_dropObject_31 (by decide) (fun c8 => ?_) (fun c8 => ?_)
  · skip
    have f9 : ((V 25 (Int32.toNatClampNeg z4))).toInt ≠ p0.toInt := b_neq rfl rfl c8
    have m1 : Int32.toInt (-1) = -1 := by decide
    have me10 : ∀ n, ME V V5 n := fun n => (ME.up ME.rf hV5 (Or.inr (by omega)))
    exact W.vret hx hb hr (fun t ht hW => ⟨⟨(V5, L), rfl, ⟨hMV5, agV5, rfl, me10⟩, by rw [ht]; exact hP, va_K.moved hW.alike hK, hD⟩, hS.F ht⟩) hS.2.2 dX8_dropObject_41
  · skip
    have f11 : ((V 25 (Int32.toNatClampNeg z4))).toInt = p0.toInt := b_eq rfl rfl c8
    refine lv_aload_n hx hb dX8_dropObject_34 rfl (lv_at hl 1 rfl) ?_
    refine va_get (D := D) (ci := 8) (v := .ref (ad 22)) (fs := (xfStock ad V5 L Z)) (C := RX8) (T := TX8) (N := 16) hx hb hg inX8 hown hK hP 3 xgStock rfl 4 (by decide) (hg _ w378) (fun _ h9 => h9) rfl dX8_dropObject_35 ?_
    refine lv_iload_n hx hb dX8_dropObject_38 rfl (lv_at hl 0 rfl) ?_
    refine lv_iconst (v := (-1)) hx hb dX8_dropObject_39 (by decide) ?_
    refine va_iast (D := D) (i := z4) (x := (-1)) hx hb hK hP hD hS 22 15 rfl rfl (i_in (a := z4.toInt) rfl (by (first | exact om_05b08aa47414 r1.1 r1.2 hz2 r3.1 r3.2 hz4 | omega))) dX8_dropObject_40 (fun H locs hP hD hS => ?_)
    obtain ⟨V12, hV12⟩ : ∃ z, z = up2 V5 25 (Int32.toNatClampNeg z4) (-1) := ⟨_, rfl⟩
    have ew13 : (xw ad kk V5 L Z).set 22 ((ad 22), .inl ((kk 22), 960, .inl (upd (V5 25) (Int32.toNatClampNeg z4) (-1)))) = xw ad kk V12 L Z := by rw [hV12]; exact xw_ss (by decide) rfl (xb_si (by decide))
    have hP : va_P D vwCl (xw ad kk V12 L Z) H := by rw [← ew13]; exact hP
    have hD : va_D A (xw ad kk V12 L Z) := by rw [← ew13]; exact hD
    have hMV12 : rgd bX V12 := hMV5.put hV12 (show (-1) ≤ Int32.toInt (-1) ∧ Int32.toInt (-1) ≤ 299 from by decide)
    have agV12 : agr [] [25, 28] V V12 := agV5.up hV12 rfl
    have m1 : Int32.toInt (-1) = -1 := by decide
    have me14 : ∀ n, ME V V12 n := fun n => (ME.up (ME.up ME.rf hV5 (Or.inr (by omega))) hV12 (Or.inr (by omega)))
    exact W.vret hx hb hr (fun t ht hW => ⟨⟨(V12, L), rfl, ⟨hMV12, agV12, rfl, me14⟩, by rw [ht]; exact hP, va_K.moved hW.alike hK, hD⟩, hS.F ht⟩) hS.2.2 dX8_dropObject_41
abbrev r_x_wrapFrom2 : Room := { frames := 1, cells := 0, slots := 0, locals := 24 }
abbrev q_x_wrapFrom2 (D : va_G) (ks : KS) (ad : Nat → Nat) (kk : Nat → ClassId) (V : Vf) (L : Lf) (Z : XZ) (p0 : Int32) (p1 : Int32) (p2 : Int32) (p3 : Int32) (b : Nat) (A : Nat → Prop) : Array Value → State → Outcome → State → Prop := va_Qi (fun (r : Int32) (_ : Unit) => ((-1) ≤ r.toInt ∧ r.toInt ≤ 11) ∧ (Imp (0 ≤ r.toInt) (r.toInt < (V 41 b).toInt))) (fun _ t => gq D A (xw ad kk V L Z) (xty kk Z) t) A
set_option maxHeartbeats 4000000 in
set_option maxRecDepth 100000 in
theorem x_wrapFrom2 (l : Launch) (D : va_G) (ks : KS) (sz : Nat) (ad : Nat → Nat) (kk : Nat → ClassId) (V : Vf) (L : Lf) (Z : XZ) (p0 : Int32) (p1 : Int32) (p2 : Int32) (p3 : Int32) (b : Nat) (hMV : rgd bX V) (rg_p0 : 0 ≤ p0.toInt ∧ p0.toInt ≤ 12) (rg_p2 : 0 ≤ p2.toInt ∧ p2.toInt ≤ 23) (hb2 : b < 2)  : Met l yX0_wrapFrom (Cond.code yX0_wrapFrom cX0_wrapFrom 6 (some .int) :: GW) r_x_wrapFrom2 (va_Pc [.ref (ad (38 + b)), .int p0, .int p1, .int p2, .int p3] (gp D ks (xw ad kk V L Z) (xty kk Z) sz)) (q_x_wrapFrom2 D ks ad kk V L Z p0 p1 p2 p3 b (va_A (xw ad kk V L Z) sz)) 0 0 (va_A (xw ad kk V L Z) sz) := by
  refine g_met (q_x_wrapFrom2 D ks ad kk V L Z p0 p1 p2 p3 b) (by decide) (Nat.le_of_ble_eq_true rfl) ?_
  intro p e s m below meth c A ls H locs hx hb hr hml hown hg hlocks hin hnw hgk hP hK hD hS hA hl
  have hown : s.vm.findClass RX0 = some m.cls := hown
  have hl : lv_has ls 6 [(0, .ref (ad (38 + b))), (1, .int p0), (2, .int p1), (3, .int p2), (4, .int p3)] := hl
  have hP : va_P D vwCl (xw ad kk V L Z) H := hP
  have hD : va_D A (xw ad kk V L Z) := hD
  have hK : va_K D vwCl (xty kk Z) s := hK
  refine lv_iload_n hx hb dX0_wrapFrom_0 rfl (lv_at hl 1 rfl) ?_
  refine lv_istore (lv' := [(5, .int p0), (0, .ref (ad (38 + b))), (1, .int p0), (2, .int p1), (3, .int p2), (4, .int p3)]) hx hb dX0_wrapFrom_1 hl (by decide) rfl (fun ls hl => ?_)
  have lp2 : ∀ (fulp2 : Nat) (y1 : Int32) (H : Heap) (locs : List Loc) (ls : Array Slot), 0 ≤ y1.toInt ∧ y1.toInt ≤ 12 → 12 - y1.toInt < (fulp2 : Int) → va_P D vwCl (xw ad kk V L Z) H → va_D A (xw ad kk V L Z) → va_S A s.heap H locs → lv_has ls 6 [(5, .int y1), (0, .ref (ad (38 + b))), (1, .int p0), (2, .int p1), (3, .int p2), (4, .int p3)] → W p l e r_x_wrapFrom2 s m ([.ref (ad (38 + b)), .int p0, .int p1, .int p2, .int p3] : List Value).toArray below meth c H locs 0 0 (MQ below (q_x_wrapFrom2 D ks ad kk V L Z p0 p1 p2 p3 b A) ([.ref (ad (38 + b)), .int p0, .int p1, .int p2, .int p3] : List Value).toArray s 0 0 A) (F0 m 3 ls []) := by
    intro fulp2
    induction fulp2 with
    | zero =>
      intro y1 H locs ls klp2_0 hn  hP hD hS hl
      exfalso; (first | exact om_b9de4c342026 klp2_0.2 hn | omega)
    | succ fulp2 ihlp2 =>
      intro y1 H locs ls klp2_0 hn  hP hD hS hl
      refine lv_iload hx hb dX0_wrapFrom_3 (lv_at hl 0 rfl) ?_
      refine lv_aload_n hx hb dX0_wrapFrom_5 rfl (lv_at hl 1 rfl) ?_
      refine va_get (D := D) (ci := 0) (v := .int (V 41 b)) (fs := (xfBook ad V b)) (C := RX0) (T := TX0) (N := 13) hx hb hg inX0 hown hK hP (38 + b) (xgBook hb2) rfl 11 (by decide) (hg _ w625) (fun _ h9 => h9) rfl dX0_wrapFrom_6 ?_
      have r3 : 0 ≤ ((V 41 b)).toInt ∧ ((V 41 b)).toInt ≤ 12 := hMV 41 b
      refine lv_icmp_ge (tgt := 44) hx hb dX0_wrapFrom_9 (by decide) (fun c4 => ?_) (fun c4 => ?_)
      · skip
        have f5 : ((V 41 b)).toInt ≤ y1.toInt := b_le rfl rfl c4
        refine lv_iconst (v := (-1)) hx hb dX0_wrapFrom_44 (by decide) ?_
        exact W.iret (v := (-1)) hx hb hr (fun t ht hW => ⟨⟨(-1), (), rfl, ⟨(by decide), (Imp.mk (fun hp => absurd hp (by decide)))⟩, by rw [ht]; exact hP, va_K.moved hW.alike hK, hD⟩, hS.F ht⟩) hS.2.2 dX0_wrapFrom_45
      · skip
        have f6 : y1.toInt < ((V 41 b)).toInt := b_nle rfl rfl c4
        refine lv_aload_n hx hb dX0_wrapFrom_12 rfl (lv_at hl 1 rfl) ?_
        refine lv_aload_n hx hb dX0_wrapFrom_13 rfl (lv_at hl 1 rfl) ?_
        refine va_get (D := D) (ci := 0) (v := .ref (ad (66 + b))) (fs := (xfBook ad V b)) (C := RX0) (T := TX0) (N := 13) hx hb hg inX0 hown hK hP (38 + b) (xgBook hb2) rfl 8 (by decide) (hg _ w619) (fun _ h9 => h9) rfl dX0_wrapFrom_14 ?_
        refine lv_aload_n hx hb dX0_wrapFrom_17 rfl (lv_at hl 1 rfl) ?_
        refine va_get (D := D) (ci := 0) (v := .ref (ad (68 + b))) (fs := (xfBook ad V b)) (C := RX0) (T := TX0) (N := 13) hx hb hg inX0 hown hK hP (38 + b) (xgBook hb2) rfl 9 (by decide) (hg _ w621) (fun _ h9 => h9) rfl dX0_wrapFrom_18 ?_
        refine lv_iload hx hb dX0_wrapFrom_21 (lv_at hl 0 rfl) ?_
        have il7 : b < 2 := by (first | exact om_f940a4667dd6 hb2 | omega)
        refine va_iald (D := D) (i := y1) hx hb hK hP (68 + b) (61 + b) (xgwrapOrder il7) (xtwrapOrder il7) (i_in (a := y1.toInt) rfl (by (first | exact om_90c9ae59974b klp2_0.1 r3.2 f6 | omega))) dX0_wrapFrom_23 ?_
        have kc8 := i_clamp (x := y1) rfl (by (first | exact om_eafa9039069c klp2_0.1 | omega))
        refine g_top (v := V 47 (12 * b + (Int32.toNatClampNeg y1))) (if_pos (by omega)) ?_
        have r9 : 0 ≤ ((V 47 (12 * b + (Int32.toNatClampNeg y1)))).toInt ∧ ((V 47 (12 * b + (Int32.toNatClampNeg y1)))).toInt ≤ 11 := hMV 47 (12 * b + (Int32.toNatClampNeg y1))
        have il10 : b < 2 := by (first | exact om_f940a4667dd6 hb2 | omega)
        refine va_aldq (D := D) (i := (V 47 (12 * b + (Int32.toNatClampNeg y1)))) hx hb hK hP (66 + b) (59 + b) (xgwrapsA il10) (xtwrapsA il10) (i_in (a := ((V 47 (12 * b + (Int32.toNatClampNeg y1)))).toInt) rfl (by (first | exact om_da83cce65d18 r9.1 r9.2 | omega))) dX0_wrapFrom_24 ?_
        have kc11 := i_clamp (x := (V 47 (12 * b + (Int32.toNatClampNeg y1)))) rfl (by (first | exact om_eafa9039069c r9.1 | omega))
        refine g_topv (v := .ref (ad (312 + (12 * b + (Int32.toNatClampNeg (V 47 (12 * b + (Int32.toNatClampNeg y1)))))))) (congrArg va_rf (if_pos (by omega))) ?_
        have il12 : (12 * b + (Int32.toNatClampNeg (V 47 (12 * b + (Int32.toNatClampNeg y1))))) < 24 := by (first | exact om_a98cd8d2da4e hb2 r9.2 kc11 | omega)
        refine lv_iload_n hx hb dX0_wrapFrom_25 rfl (lv_at hl 3 rfl) ?_
        refine lv_iload_n hx hb dX0_wrapFrom_26 rfl (lv_at hl 4 rfl) ?_
        refine lv_iload hx hb dX0_wrapFrom_27 (lv_at hl 5 rfl) ?_
        refine gA_int (gA_runV (As := [.ref (ad (312 + (12 * b + (Int32.toNatClampNeg (V 47 (12 * b + (Int32.toNatClampNeg y1))))))), .int p1, .int p2, .int p3]) (rest := []) (ci := 0) (q0 := (38 + b)) hx hb hml hown hg hP hD hK hS hA hnw hgk (x_isFor l D ks H.size ad kk V L Z p1 p2 p3 (b) ((12 * b + (Int32.toNatClampNeg (V 47 (12 * b + (Int32.toNatClampNeg y1)))))) hMV (by (first | exact om_d3435e1acec6 rg_p2.1 rg_p2.2 | omega)) (show b < 2 from by (first | exact om_f940a4667dd6 hb2 | omega)) (show (12 * b + (Int32.toNatClampNeg (V 47 (12 * b + (Int32.toNatClampNeg y1))))) < 24 from by (first | exact om_a98cd8d2da4e hb2 r9.2 kc11 | omega))) w1396 w1398 w61 w167 w1399 rfl (xgBook hb2) hdV_yX0_isFor ⟨Nat.le_of_ble_eq_true rfl, Nat.le_of_ble_eq_true rfl⟩ rfl hl.1 rfl (Nat.le_of_ble_eq_true rfl) dX0_wrapFrom_29 ⟨Nat.le_of_ble_eq_true rfl, Nat.le_of_ble_eq_true rfl⟩) hP hD hK hS hA (fun z13 u14 H locs w15 hP hD hK hS => ?_)
        have rgz13 := w15
        have rgz13 : 0 ≤ z13.toInt ∧ z13.toInt ≤ 1 := rgz13
        refine lv_if_eq (tgt := 38) hx hb dX0_wrapFrom_32 (by decide) (fun c16 => ?_) (fun c16 => ?_)
        · skip
          have f17 : z13.toInt = 0 := b_eq rfl (by decide) c16
          obtain ⟨z18, ez18⟩ : ∃ y : Int32, y = y1 + 1 := ⟨_, rfl⟩
          have hz18 : z18.toInt = y1.toInt + 1 := i_add ez18 rfl (by decide) (by (first | exact om_7992c83b4b8b klp2_0.1 r3.2 f6 | omega))
          refine lv_iinc (v := z18) (lv' := [(5, .int z18), (0, .ref (ad (38 + b))), (1, .int p0), (2, .int p1), (3, .int p2), (4, .int p3)]) hx hb dX0_wrapFrom_38 hl (k := 0) rfl (by rw [ez18]; rfl) (by decide) rfl (fun ls hl => ?_)
          refine lv_goto (tgt := 3) hx hb dX0_wrapFrom_41 (by decide) ?_
          exact ihlp2 z18 H locs ls (by (first | exact om_56249b68a5fe klp2_0.1 r3.2 f6 hz18 | omega)) (by (first | exact om_95514e7aa9e9 hn hz18 | omega)) hP hD hS (lv_sub hl [0, 1, 2, 3, 4, 5] rfl)
        · skip
          have f19 : z13.toInt ≠ 0 := b_neq rfl (by decide) c16
          refine lv_iload hx hb dX0_wrapFrom_35 (lv_at hl 0 rfl) ?_
          exact W.iret (v := y1) hx hb hr (fun t ht hW => ⟨⟨y1, (), rfl, ⟨(show (-1) ≤ y1.toInt ∧ y1.toInt ≤ 11 from by (first | exact om_d1bc3f41d2f0 klp2_0.1 r3.2 f6 | omega)), (Imp.mk (fun hp => have hp : 0 ≤ y1.toInt := hp; (show y1.toInt < (V 41 b).toInt from by (first | exact om_0e9116797efb f6 | omega))))⟩, by rw [ht]; exact hP, va_K.moved hW.alike hK, hD⟩, hS.F ht⟩) hS.2.2 dX0_wrapFrom_37
  exact lp2 ((12 - p0.toInt + 1 : Int).toNat) p0 H locs ls (by (first | exact om_8dd06492493b rg_p0.1 rg_p0.2 | omega)) (by (first | exact om_10cc180fa1f4 | omega)) hP hD hS (lv_sub hl [0, 1, 2, 3, 4, 5] rfl)
abbrev r_x_wrapBackFrom2 : Room := { frames := 1, cells := 0, slots := 0, locals := 24 }
abbrev q_x_wrapBackFrom2 (D : va_G) (ks : KS) (ad : Nat → Nat) (kk : Nat → ClassId) (V : Vf) (L : Lf) (Z : XZ) (p0 : Int32) (p1 : Int32) (p2 : Int32) (p3 : Int32) (b : Nat) (A : Nat → Prop) : Array Value → State → Outcome → State → Prop := va_Qi (fun (r : Int32) (_ : Unit) => ((-1) ≤ r.toInt ∧ r.toInt ≤ 11) ∧ (Imp (0 ≤ r.toInt) (r.toInt < (V 41 b).toInt))) (fun _ t => gq D A (xw ad kk V L Z) (xty kk Z) t) A
set_option maxHeartbeats 4000000 in
set_option maxRecDepth 100000 in
theorem x_wrapBackFrom2 (l : Launch) (D : va_G) (ks : KS) (sz : Nat) (ad : Nat → Nat) (kk : Nat → ClassId) (V : Vf) (L : Lf) (Z : XZ) (p0 : Int32) (p1 : Int32) (p2 : Int32) (p3 : Int32) (b : Nat) (hMV : rgd bX V) (rg_p0 : (-1) ≤ p0.toInt ∧ p0.toInt ≤ 11) (rg_p2 : 0 ≤ p2.toInt ∧ p2.toInt ≤ 23) (hb2 : b < 2) (wbf : p0.toInt < (V 41 b).toInt)  : Met l yX0_wrapBackFrom (Cond.code yX0_wrapBackFrom cX0_wrapBackFrom 6 (some .int) :: GW) r_x_wrapBackFrom2 (va_Pc [.ref (ad (38 + b)), .int p0, .int p1, .int p2, .int p3] (gp D ks (xw ad kk V L Z) (xty kk Z) sz)) (q_x_wrapBackFrom2 D ks ad kk V L Z p0 p1 p2 p3 b (va_A (xw ad kk V L Z) sz)) 0 0 (va_A (xw ad kk V L Z) sz) := by
  refine g_met (q_x_wrapBackFrom2 D ks ad kk V L Z p0 p1 p2 p3 b) (by decide) (Nat.le_of_ble_eq_true rfl) ?_
  intro p e s m below meth c A ls H locs hx hb hr hml hown hg hlocks hin hnw hgk hP hK hD hS hA hl
  have hown : s.vm.findClass RX0 = some m.cls := hown
  have hl : lv_has ls 6 [(0, .ref (ad (38 + b))), (1, .int p0), (2, .int p1), (3, .int p2), (4, .int p3)] := hl
  have hP : va_P D vwCl (xw ad kk V L Z) H := hP
  have hD : va_D A (xw ad kk V L Z) := hD
  have hK : va_K D vwCl (xty kk Z) s := hK
  have r1 : 0 ≤ ((V 41 b)).toInt ∧ ((V 41 b)).toInt ≤ 12 := hMV 41 b
  refine lv_iload_n hx hb dX0_wrapBackFrom_0 rfl (lv_at hl 1 rfl) ?_
  refine lv_istore (lv' := [(5, .int p0), (0, .ref (ad (38 + b))), (1, .int p0), (2, .int p1), (3, .int p2), (4, .int p3)]) hx hb dX0_wrapBackFrom_1 hl (by decide) rfl (fun ls hl => ?_)
  have lp3 : ∀ (fulp3 : Nat) (y2 : Int32) (H : Heap) (locs : List Loc) (ls : Array Slot), (-1) ≤ y2.toInt ∧ y2.toInt ≤ 11 → y2.toInt < (V 41 b).toInt → y2.toInt + 1 < (fulp3 : Int) → va_P D vwCl (xw ad kk V L Z) H → va_D A (xw ad kk V L Z) → va_S A s.heap H locs → lv_has ls 6 [(5, .int y2), (0, .ref (ad (38 + b))), (1, .int p0), (2, .int p1), (3, .int p2), (4, .int p3)] → W p l e r_x_wrapBackFrom2 s m ([.ref (ad (38 + b)), .int p0, .int p1, .int p2, .int p3] : List Value).toArray below meth c H locs 0 0 (MQ below (q_x_wrapBackFrom2 D ks ad kk V L Z p0 p1 p2 p3 b A) ([.ref (ad (38 + b)), .int p0, .int p1, .int p2, .int p3] : List Value).toArray s 0 0 A) (F0 m 3 ls []) := by
    intro fulp3
    induction fulp3 with
    | zero =>
      intro y2 H locs ls klp3_0 xlp3_0 hn  hP hD hS hl
      exfalso; (first | exact om_f8ddf9becbdf klp3_0.1 hn | omega)
    | succ fulp3 ihlp3 =>
      intro y2 H locs ls klp3_0 xlp3_0 hn  hP hD hS hl
      refine lv_iload hx hb dX0_wrapBackFrom_3 (lv_at hl 0 rfl) ?_
      refine lv_if_lt (tgt := 40) hx hb dX0_wrapBackFrom_5 (by decide) (fun c4 => ?_) (fun c4 => ?_)
      · skip
        have f5 : y2.toInt < 0 := b_lt rfl (by decide) c4
        refine lv_iconst (v := (-1)) hx hb dX0_wrapBackFrom_40 (by decide) ?_
        exact W.iret (v := (-1)) hx hb hr (fun t ht hW => ⟨⟨(-1), (), rfl, ⟨(by decide), (Imp.mk (fun hp => absurd hp (by decide)))⟩, by rw [ht]; exact hP, va_K.moved hW.alike hK, hD⟩, hS.F ht⟩) hS.2.2 dX0_wrapBackFrom_41
      · skip
        have f6 : 0 ≤ y2.toInt := b_nlt rfl (by decide) c4
        refine lv_aload_n hx hb dX0_wrapBackFrom_8 rfl (lv_at hl 1 rfl) ?_
        refine lv_aload_n hx hb dX0_wrapBackFrom_9 rfl (lv_at hl 1 rfl) ?_
        refine va_get (D := D) (ci := 0) (v := .ref (ad (66 + b))) (fs := (xfBook ad V b)) (C := RX0) (T := TX0) (N := 13) hx hb hg inX0 hown hK hP (38 + b) (xgBook hb2) rfl 8 (by decide) (hg _ w619) (fun _ h9 => h9) rfl dX0_wrapBackFrom_10 ?_
        refine lv_aload_n hx hb dX0_wrapBackFrom_13 rfl (lv_at hl 1 rfl) ?_
        refine va_get (D := D) (ci := 0) (v := .ref (ad (68 + b))) (fs := (xfBook ad V b)) (C := RX0) (T := TX0) (N := 13) hx hb hg inX0 hown hK hP (38 + b) (xgBook hb2) rfl 9 (by decide) (hg _ w621) (fun _ h9 => h9) rfl dX0_wrapBackFrom_14 ?_
        refine lv_iload hx hb dX0_wrapBackFrom_17 (lv_at hl 0 rfl) ?_
        have il7 : b < 2 := by (first | exact om_f940a4667dd6 hb2 | omega)
        refine va_iald (D := D) (i := y2) hx hb hK hP (68 + b) (61 + b) (xgwrapOrder il7) (xtwrapOrder il7) (i_in (a := y2.toInt) rfl (by (first | exact om_a01a769b2043 klp3_0.2 f6 | omega))) dX0_wrapBackFrom_19 ?_
        have kc8 := i_clamp (x := y2) rfl (by (first | exact om_eafa9039069c f6 | omega))
        refine g_top (v := V 47 (12 * b + (Int32.toNatClampNeg y2))) (if_pos (by omega)) ?_
        have r9 : 0 ≤ ((V 47 (12 * b + (Int32.toNatClampNeg y2)))).toInt ∧ ((V 47 (12 * b + (Int32.toNatClampNeg y2)))).toInt ≤ 11 := hMV 47 (12 * b + (Int32.toNatClampNeg y2))
        have il10 : b < 2 := by (first | exact om_f940a4667dd6 hb2 | omega)
        refine va_aldq (D := D) (i := (V 47 (12 * b + (Int32.toNatClampNeg y2)))) hx hb hK hP (66 + b) (59 + b) (xgwrapsA il10) (xtwrapsA il10) (i_in (a := ((V 47 (12 * b + (Int32.toNatClampNeg y2)))).toInt) rfl (by (first | exact om_da83cce65d18 r9.1 r9.2 | omega))) dX0_wrapBackFrom_20 ?_
        have kc11 := i_clamp (x := (V 47 (12 * b + (Int32.toNatClampNeg y2)))) rfl (by (first | exact om_eafa9039069c r9.1 | omega))
        refine g_topv (v := .ref (ad (312 + (12 * b + (Int32.toNatClampNeg (V 47 (12 * b + (Int32.toNatClampNeg y2)))))))) (congrArg va_rf (if_pos (by omega))) ?_
        have il12 : (12 * b + (Int32.toNatClampNeg (V 47 (12 * b + (Int32.toNatClampNeg y2))))) < 24 := by (first | exact om_a98cd8d2da4e hb2 r9.2 kc11 | omega)
        refine lv_iload_n hx hb dX0_wrapBackFrom_21 rfl (lv_at hl 3 rfl) ?_
        refine lv_iload_n hx hb dX0_wrapBackFrom_22 rfl (lv_at hl 4 rfl) ?_
        refine lv_iload hx hb dX0_wrapBackFrom_23 (lv_at hl 5 rfl) ?_
        refine gA_int (gA_runV (As := [.ref (ad (312 + (12 * b + (Int32.toNatClampNeg (V 47 (12 * b + (Int32.toNatClampNeg y2))))))), .int p1, .int p2, .int p3]) (rest := []) (ci := 0) (q0 := (38 + b)) hx hb hml hown hg hP hD hK hS hA hnw hgk (x_isFor l D ks H.size ad kk V L Z p1 p2 p3 (b) ((12 * b + (Int32.toNatClampNeg (V 47 (12 * b + (Int32.toNatClampNeg y2)))))) hMV (by (first | exact om_d3435e1acec6 rg_p2.1 rg_p2.2 | omega)) (show b < 2 from by (first | exact om_f940a4667dd6 hb2 | omega)) (show (12 * b + (Int32.toNatClampNeg (V 47 (12 * b + (Int32.toNatClampNeg y2))))) < 24 from by (first | exact om_a98cd8d2da4e hb2 r9.2 kc11 | omega))) w1396 w1398 w61 w167 w1399 rfl (xgBook hb2) hdV_yX0_isFor ⟨Nat.le_of_ble_eq_true rfl, Nat.le_of_ble_eq_true rfl⟩ rfl hl.1 rfl (Nat.le_of_ble_eq_true rfl) dX0_wrapBackFrom_25 ⟨Nat.le_of_ble_eq_true rfl, Nat.le_of_ble_eq_true rfl⟩) hP hD hK hS hA (fun z13 u14 H locs w15 hP hD hK hS => ?_)
        have rgz13 := w15
        have rgz13 : 0 ≤ z13.toInt ∧ z13.toInt ≤ 1 := rgz13
        refine lv_if_eq (tgt := 34) hx hb dX0_wrapBackFrom_28 (by decide) (fun c16 => ?_) (fun c16 => ?_)
        · skip
          have f17 : z13.toInt = 0 := b_eq rfl (by decide) c16
          obtain ⟨z18, ez18⟩ : ∃ y : Int32, y = y2 + (-1) := ⟨_, rfl⟩
          have hz18 : z18.toInt = y2.toInt + (-1) := i_add ez18 rfl (by decide) (by (first | exact om_3da4b0e1dba1 klp3_0.2 f6 | omega))
          refine lv_iinc (v := z18) (lv' := [(5, .int z18), (0, .ref (ad (38 + b))), (1, .int p0), (2, .int p1), (3, .int p2), (4, .int p3)]) hx hb dX0_wrapBackFrom_34 hl (k := 0) rfl (by rw [ez18]; rfl) (by decide) rfl (fun ls hl => ?_)
          refine lv_goto (tgt := 3) hx hb dX0_wrapBackFrom_37 (by decide) ?_
          exact ihlp3 z18 H locs ls (by (first | exact om_c29ac0d04c46 klp3_0.2 f6 hz18 | omega)) (show z18.toInt < (V 41 b).toInt from by (first | exact om_1e2998b5d70c xlp3_0 hz18 | omega)) (by (first | exact om_2e0ce331b730 hn hz18 | omega)) hP hD hS (lv_sub hl [0, 1, 2, 3, 4, 5] rfl)
        · skip
          have f19 : z13.toInt ≠ 0 := b_neq rfl (by decide) c16
          refine lv_iload hx hb dX0_wrapBackFrom_31 (lv_at hl 0 rfl) ?_
          exact W.iret (v := y2) hx hb hr (fun t ht hW => ⟨⟨y2, (), rfl, ⟨(show (-1) ≤ y2.toInt ∧ y2.toInt ≤ 11 from by (first | exact om_451ae73b5ddd klp3_0.2 f6 | omega)), (Imp.mk (fun hp => have hp : 0 ≤ y2.toInt := hp; (show y2.toInt < (V 41 b).toInt from by (first | exact om_0e9116797efb xlp3_0 | omega))))⟩, by rw [ht]; exact hP, va_K.moved hW.alike hK, hD⟩, hS.F ht⟩) hS.2.2 dX0_wrapBackFrom_33
  exact lp3 ((p0.toInt + 1 + 1 : Int).toNat) p0 H locs ls (by (first | exact om_ae154f491ccb rg_p0.1 rg_p0.2 | omega)) (show p0.toInt < (V 41 b).toInt from by (first | exact om_0e9116797efb wbf | omega)) (by (first | exact om_3b297d515ebe | omega)) hP hD hS (lv_sub hl [0, 1, 2, 3, 4, 5] rfl)
abbrev r_x_beginMaking (Z : XZ) : Room := { frames := 3, cells := zcc Z, slots := zss Z, locals := 70 }
abbrev q_x_beginMaking (D : va_G) (ks : KS) (ad : Nat → Nat) (kk : Nat → ClassId) (V : Vf) (L : Lf) (Z : XZ) (p0 : Int32) (p1 : Int32) (p2 : Int32) (p3 : Int32) (b : Nat) (A : Nat → Prop) : Array Value → State → Outcome → State → Prop := qZv D (fun (u : Vf × Lf × XZ) => rgd bX u.1 ∧ agr [(3, 13), (5, 6), (5, 9), (5, 11), (5, 12), (5, 13), (5, 14)] [25, 26, 27, 28, 30, 67, 68, 69, 70, 71, 72, 73, 74, 75, 76, 77, 78, 79, 80, 81, 82, 83, 84, 85] V u.1 ∧ u.2.1 = L ∧ ZL Z u.2.2 ∧ (MJ u.1 u.2.2 b)) (fun u => xw ad kk u.1 u.2.1 u.2.2) (fun u => xty kk u.2.2) (fun u => zcc Z - zcc u.2.2) (fun u => zss Z - zss u.2.2) A
set_option maxHeartbeats 4000000 in
set_option maxRecDepth 100000 in
theorem x_beginMaking (l : Launch) (D : va_G) (ks : KS) (sz : Nat) (ad : Nat → Nat) (kk : Nat → ClassId) (V : Vf) (L : Lf) (Z : XZ) (p0 : Int32) (p1 : Int32) (p2 : Int32) (p3 : Int32) (b : Nat) (hMV : rgd bX V) (rg_p0 : 0 ≤ p0.toInt ∧ p0.toInt ≤ 23) (rg_p1 : 0 ≤ p1.toInt ∧ p1.toInt ≤ 39) (rg_p3 : 0 ≤ p3.toInt ∧ p3.toInt ≤ 1) (hb2 : b < 2) (mt : MTw V Z b) (hcm : p0.toInt < (V 43 (5 * b + 2)).toInt)  : Met l yX5_beginMaking (Cond.code yX5_beginMaking cX5_beginMaking 6 none :: GW) (r_x_beginMaking Z) (va_Pc [.ref (ad 5), .int p0, .int p1, .int p2, .int p3] (gp D ks (xw ad kk V L Z) (xty kk Z) sz)) (q_x_beginMaking D ks ad kk V L Z p0 p1 p2 p3 b (va_A (xw ad kk V L Z) sz)) (zcc Z) (zss Z) (va_A (xw ad kk V L Z) sz) := by
  refine g_met (q_x_beginMaking D ks ad kk V L Z p0 p1 p2 p3 b) (by decide) (Nat.le_of_ble_eq_true rfl) ?_
  intro p e s m below meth c A ls H locs hx hb hr hml hown hg hlocks hin hnw hgk hP hK hD hS hA hl
  have hown : s.vm.findClass RX5 = some m.cls := hown
  have hl : lv_has ls 6 [(0, .ref (ad 5)), (1, .int p0), (2, .int p1), (3, .int p2), (4, .int p3)] := hl
  have hP : va_P D vwCl (xw ad kk V L Z) H := hP
  have hD : va_D A (xw ad kk V L Z) := hD
  have hK : va_K D vwCl (xty kk Z) s := hK
  have agV : agr [(3, 13), (5, 6), (5, 9), (5, 11), (5, 12), (5, 13), (5, 14)] [25, 26, 27, 28, 30, 67, 68, 69, 70, 71, 72, 73, 74, 75, 76, 77, 78, 79, 80, 81, 82, 83, 84, 85] V V := agr.rf
  have zoZ : ZL Z Z := ZL.rf
  refine W.know (fun ka kb => ?_)
  refine W.tight (k := zcc Z - zcc Z) (n := zss Z - zss Z) (by omega) (by omega) ?_
  have r1 : 0 ≤ ((V 43 (5 * b + 2))).toInt ∧ ((V 43 (5 * b + 2))).toInt ≤ ((xcap (5 * b + 2) : Nat) : Int) := hMV 43 (5 * b + 2)
  have r2 : xcap (5 * b + 2) = 24 := xcap_2
  have r3 : 0 ≤ ((V 5 6)).toInt ∧ ((V 5 6)).toInt ≤ 400 := hMV 5 6
  have kdp := i_clamp (x := V 5 6) rfl (by (first | exact om_eafa9039069c r3.1 | omega))
  have hdn := MTw.dn mt (by (first | exact om_eafa9039069c r3.1 | omega))
  have mup := MTw.up mt
  have msz := mup.1
  have mbk := mup.2.2.2.1
  refine lv_aload_n hx hb dX5_beginMaking_0 rfl (lv_at hl 0 rfl) ?_
  refine gA_int (gA_runV (As := []) (rest := []) (ci := 5) (q0 := 5) hx hb hml hown hg hP hD hK hS hA hnw hgk (x_takesStep l D ks H.size ad kk V L Z  hMV ) w1281 w1283 w48 w171 w1284 rfl xgMachine hdV_yX5_takesStep ⟨Nat.le_of_ble_eq_true rfl, Nat.le_of_ble_eq_true rfl⟩ rfl hl.1 rfl (Nat.le_of_ble_eq_true rfl) dX5_beginMaking_1 ⟨z0, z0⟩) hP hD hK hS hA (fun z4 u5 H locs w6 hP hD hK hS => ?_)
  obtain ⟨V9, L10⟩ := u5
  obtain ⟨hMV9, ajV9, axL10, rgz4, t7, t8⟩ := w6
  have axL10 : L = L10 := Eq.symm axL10
  subst axL10
  have hP : va_P D vwCl (xw ad kk V9 L Z) H := hP
  have hD : va_D A (xw ad kk V9 L Z) := hD
  have hMV9 : rgd bX V9 := hMV9
  have ajV9 : agr [(5, 9), (5, 13), (5, 14)] [] V V9 := ajV9
  have agV9 : agr [(3, 13), (5, 6), (5, 9), (5, 11), (5, 12), (5, 13), (5, 14)] [25, 26, 27, 28, 30, 67, 68, 69, 70, 71, 72, 73, 74, 75, 76, 77, 78, 79, 80, 81, 82, 83, 84, 85] V V9 := agV.tr ajV9 (by decide) (by decide)
  have rgz4 : 0 ≤ z4.toInt ∧ z4.toInt ≤ 1 := rgz4
  have t7 : Imp (z4.toInt = 0) ((V9 5 9).toInt = 3) := t7
  have t8 : Imp (z4.toInt = 1) ((V9 5 9).toInt = (V 5 9).toInt) := t8
  have r11 : 0 ≤ ((V9 5 9)).toInt ∧ ((V9 5 9)).toInt ≤ 3 := hMV9 5 9
  have r12 : 0 ≤ ((V 5 9)).toInt ∧ ((V 5 9)).toInt ≤ 3 := hMV 5 9
  refine lv_if_ne (tgt := 8) hx hb dX5_beginMaking_4 (by decide) (fun c13 => ?_) (fun c13 => ?_)
  · skip
    have f14 : z4.toInt ≠ 0 := b_neq rfl (by decide) c13
    refine lv_aload_n hx hb dX5_beginMaking_8 rfl (lv_at hl 0 rfl) ?_
    refine va_get (D := D) (ci := 5) (v := .ref (ad 3)) (fs := (xfMachine ad V9 L Z)) (C := RX5) (T := TX5) (N := 15) hx hb hg inX5 hown hK hP 5 xgMachine rfl 0 (by decide) (hg _ w667) (fun _ h9 => h9) rfl dX5_beginMaking_9 ?_
    refine lv_iload_n hx hb dX5_beginMaking_12 rfl (lv_at hl 1 rfl) ?_
    refine lv_iload_n hx hb dX5_beginMaking_13 rfl (lv_at hl 2 rfl) ?_
    refine lv_iload hx hb dX5_beginMaking_14 (lv_at hl 4 rfl) ?_
    have me15 : ME V V9 0 := (ME.tr ME.rf (ME.ag ajV9 (by decide)))
    have sl16 : SL V9 Z := by unfold SL; rw [me15.2.2.1.2.1, me15.2.2.1.1]; exact ⟨mup.2.2.2.2.1.1, mup.2.2.2.2.1.2.1, fun o k a1 a2 => by rw [me15.2.2.2.2.1]; exact mup.2.2.2.2.1.2.2.1 o k a1 a2, fun i a1 => by rw [me15.2.2.2.2.2.1]; exact mup.2.2.2.2.1.2.2.2 i a1⟩
    refine gA_int (gA_runV (As := [.int p0, .int p1, .int p3]) (rest := []) (ci := 8) (q0 := 3) hx hb hml hown hg hP hD hK hS hA hnw hgk (x_beginObject2 l D ks H.size ad kk V9 L Z p0 p1 p3 hMV9 (by first | exact om_d3435e1acec6 rg_p0.1 rg_p0.2 | first | omega | ((try (have i_t8 := Imp.go t8 (by omega))); (try (have i_t7 := Imp.go t7 (by omega))); (try (have i_t7 := Imp.go t7 (by omega))); (try (have i_t8 := Imp.go t8 (by omega))); omega)) (by first | exact om_13ba01c174fe rg_p1.1 rg_p1.2 | first | omega | ((try (have i_t8 := Imp.go t8 (by omega))); (try (have i_t7 := Imp.go t7 (by omega))); (try (have i_t7 := Imp.go t7 (by omega))); (try (have i_t8 := Imp.go t8 (by omega))); omega)) (by first | exact om_eb7af9d60398 rg_p3.1 rg_p3.2 | first | omega | ((try (have i_t8 := Imp.go t8 (by omega))); (try (have i_t7 := Imp.go t7 (by omega))); (try (have i_t7 := Imp.go t7 (by omega))); (try (have i_t8 := Imp.go t8 (by omega))); omega)) sl16) w1286 w1287 w1288 w164 w1289 rfl xgStock hdV_yX8_beginObject ⟨Nat.le_of_ble_eq_true rfl, Nat.le_of_ble_eq_true rfl⟩ rfl hl.1 rfl (Nat.le_of_ble_eq_true rfl) dX5_beginMaking_16 ⟨z0, z0⟩) hP hD hK hS hA (fun z17 u18 H locs w19 hP hD hK hS => ?_)
    obtain ⟨V29, L30⟩ := u18
    obtain ⟨hMV29, ajV29, axL30, rgz17, t20, t21, t22, t23, t24, t25, t26, t27, t28⟩ := w19
    have axL30 : L = L30 := Eq.symm axL30
    subst axL30
    have hP : va_P D vwCl (xw ad kk V29 L Z) H := hP
    have hD : va_D A (xw ad kk V29 L Z) := hD
    have hMV29 : rgd bX V29 := hMV29
    have ajV29 : agr [(3, 13)] [25, 26, 27, 28, 30] V9 V29 := ajV29
    have agV29 : agr [(3, 13), (5, 6), (5, 9), (5, 11), (5, 12), (5, 13), (5, 14)] [25, 26, 27, 28, 30, 67, 68, 69, 70, 71, 72, 73, 74, 75, 76, 77, 78, 79, 80, 81, 82, 83, 84, 85] V V29 := agV9.tr ajV29 (by decide) (by decide)
    have rgz17 : (-1) ≤ z17.toInt ∧ z17.toInt ≤ 299 := rgz17
    have t20 : SL V29 Z := t20
    have t21 : Imp (0 ≤ z17.toInt) (∀ q : Nat, 8 * Int32.toNatClampNeg (V9 3 13) ≤ q → q < 8 * Int32.toNatClampNeg (V9 3 13) + 8 → (V29 30 q).toInt = -1) := t21
    have t22 : Imp (0 ≤ z17.toInt) (∀ q : Nat, ¬ (8 * Int32.toNatClampNeg (V9 3 13) ≤ q ∧ q < 8 * Int32.toNatClampNeg (V9 3 13) + 8) → V29 30 q = V9 30 q) := t22
    have t23 : Imp (0 ≤ z17.toInt) (∀ q : Nat, ¬ q = Int32.toNatClampNeg (V9 3 13) → V29 26 q = V9 26 q) := t23
    have t24 : Imp (0 ≤ z17.toInt) (z17.toInt = (V9 3 13).toInt ∧ (V29 3 13).toInt = (V9 3 13).toInt + 1) := t24
    have t25 : Imp (z17.toInt = -1) ((V29 3 13).toInt = (V9 3 13).toInt) := t25
    have t26 : Imp (0 ≤ z17.toInt) (V29 26 (Int32.toNatClampNeg (V9 3 13)) = p0) := t26
    have t27 : Imp (z17.toInt = -1) (V29 = V9) := t27
    have t28 : Imp (0 ≤ z17.toInt) (∀ k : Nat, k < 960 → V29 25 k = V9 25 k ∨ ((V29 25 k).toInt = z17.toInt ∧ p0.toInt = ((k % 24 : Nat) : Int))) := t28
    have pq31 : (V9 3 13).toInt = ((V 3 13)).toInt := congrArg Int32.toInt (ajV9 3 13 rfl)
    have r32 : 0 ≤ ((V 3 13)).toInt ∧ ((V 3 13)).toInt ≤ 300 := hMV 3 13
    have r33 : 0 ≤ ((V29 3 13)).toInt ∧ ((V29 3 13)).toInt ≤ 300 := hMV29 3 13
    refine lv_istore (lv' := [(5, .int z17), (0, .ref (ad 5)), (1, .int p0), (2, .int p1), (3, .int p2), (4, .int p3)]) hx hb dX5_beginMaking_19 hl (by decide) rfl (fun ls hl => ?_)
    refine lv_iload hx hb dX5_beginMaking_21 (lv_at hl 0 rfl) ?_
    refine lv_iconst (v := (-1)) hx hb dX5_beginMaking_23 (by decide) ?_
    refine lv_icmp_ne (tgt := 35) hx hb dX5_beginMaking_24 (by decide) (fun c34 => ?_) (fun c34 => ?_)
    · skip
      have f35 : z17.toInt ≠ (-1) := b_neq rfl (by decide) c34
      refine lv_aload_n hx hb dX5_beginMaking_35 rfl (lv_at hl 1 rfl) ?_
      refine lv_iconst (v := 1) hx hb dX5_beginMaking_36 (by decide) ?_
      refine lv_iload_n hx hb dX5_beginMaking_37 rfl (lv_at hl 4 rfl) ?_
      refine lv_iload hx hb dX5_beginMaking_38 (lv_at hl 0 rfl) ?_
      refine lv_iload_n hx hb dX5_beginMaking_40 rfl (lv_at hl 2 rfl) ?_
      refine lv_iload_n hx hb dX5_beginMaking_41 rfl (lv_at hl 3 rfl) ?_
      have r36 : Int32.toInt 1 = 1 := by decide
      have pq37 : (V29 5 6).toInt = ((V 5 6)).toInt := congrArg Int32.toInt ((ajV29 5 6 rfl).trans (ajV9 5 6 rfl))
      refine W.know (fun k39 k40 => ?_)
      obtain ⟨Hk38, hHk38⟩ : ∃ z, z = H := ⟨_, rfl⟩
      have k39 : Hk38.size ≤ s.heap.size + (zcc Z - zcc Z) := by rw [hHk38]; exact k39
      have k40 : tot Hk38 ≤ tot s.heap + (zss Z - zss Z) := by rw [hHk38]; exact k40
      refine gZ_ref (gA_runV (As := [.int 1, .int p2, .int z17, .int p0, .int p1]) (rest := []) (ci := 5) (q0 := 5) hx hb hml hown hg hP hD hK hS hA hnw hgk (x_push l D ks H.size ad kk V29 L Z 1 p2 z17 p0 p1 hMV29 (by first | exact om_f52419b73d7d rg_p0.1 rg_p0.2 | first | omega | ((try (have i_t8 := Imp.go t8 (imp_a (rgz4.1) (rgz4.2) (f14)))); omega) | ((try (have i_t25 := Imp.go t25 (by omega))); (try (have i_t24 := Imp.go t24 (by omega))); (try (have i_t8 := Imp.go t8 (by omega))); (try (have i_t7 := Imp.go t7 (by omega))); first | omega | ((try (have i_t7 := Imp.go t7 (by omega))); (try (have i_t8 := Imp.go t8 (by omega))); (try (have i_t24 := Imp.go t24 (by omega))); (try (have i_t25 := Imp.go t25 (by omega))); omega))) (by first | exact om_13ba01c174fe rg_p1.1 rg_p1.2 | first | omega | ((try (have i_t8 := Imp.go t8 (imp_a (rgz4.1) (rgz4.2) (f14)))); omega) | ((try (have i_t25 := Imp.go t25 (by omega))); (try (have i_t24 := Imp.go t24 (by omega))); (try (have i_t8 := Imp.go t8 (by omega))); (try (have i_t7 := Imp.go t7 (by omega))); first | omega | ((try (have i_t7 := Imp.go t7 (by omega))); (try (have i_t8 := Imp.go t8 (by omega))); (try (have i_t24 := Imp.go t24 (by omega))); (try (have i_t25 := Imp.go t25 (by omega))); omega))) (show (V29 5 6).toInt ≤ (Z.nf : Int) from by first | exact om_c80643d76d53 hdn.1 pq37 | first | omega | ((try (have i_t8 := Imp.go t8 (imp_a (rgz4.1) (rgz4.2) (f14)))); omega) | ((try (have i_t25 := Imp.go t25 (by omega))); (try (have i_t24 := Imp.go t24 (by omega))); (try (have i_t8 := Imp.go t8 (by omega))); (try (have i_t7 := Imp.go t7 (by omega))); first | omega | ((try (have i_t7 := Imp.go t7 (by omega))); (try (have i_t8 := Imp.go t8 (by omega))); (try (have i_t24 := Imp.go t24 (by omega))); (try (have i_t25 := Imp.go t25 (by omega))); omega))) (show (Z.nf : Int) ≤ 400 from by first | exact om_16a0bbaa0b2a hdn.2 | first | omega | ((try (have i_t8 := Imp.go t8 (imp_a (rgz4.1) (rgz4.2) (f14)))); omega) | ((try (have i_t25 := Imp.go t25 (by omega))); (try (have i_t24 := Imp.go t24 (by omega))); (try (have i_t8 := Imp.go t8 (by omega))); (try (have i_t7 := Imp.go t7 (by omega))); first | omega | ((try (have i_t7 := Imp.go t7 (by omega))); (try (have i_t8 := Imp.go t8 (by omega))); (try (have i_t24 := Imp.go t24 (by omega))); (try (have i_t25 := Imp.go t25 (by omega))); omega)))) w1180 w1182 w43 w171 w1183 rfl xgMachine hdV_yX5_push ⟨Nat.le_of_ble_eq_true rfl, Nat.le_of_ble_eq_true rfl⟩ rfl hl.1 rfl (Nat.le_of_ble_eq_true rfl) dX5_beginMaking_42 ⟨z1 zoZ.1, z1 zoZ.2.1⟩) hD hS hA (fun u42 H locs w43 hP hD hK hS y44 y45 => ?_)
      obtain ⟨V46, L47, Z48, f49⟩ := u42
      obtain ⟨hMV46, ajV46, axL47, zlZ48, ilf49, t50, t51, t52, t53, t54, t55⟩ := w43
      have axL47 : L = L47 := Eq.symm axL47
      subst axL47
      have hP : va_P D vwCl (xw ad kk V46 L Z48) H := hP
      have hD : va_D A (xw ad kk V46 L Z48) := hD
      have hK : va_K D vwCl (xty kk Z48) s := hK
      have hMV46 : rgd bX V46 := hMV46
      have ajV46 : agr [(5, 6), (5, 9)] [67, 68, 69, 70, 71, 72, 73, 74, 75, 76, 77, 78, 79, 80, 81, 82, 83, 84, 85] V29 V46 := ajV46
      have agV46 : agr [(3, 13), (5, 6), (5, 9), (5, 11), (5, 12), (5, 13), (5, 14)] [25, 26, 27, 28, 30, 67, 68, 69, 70, 71, 72, 73, 74, 75, 76, 77, 78, 79, 80, 81, 82, 83, 84, 85] V V46 := agV29.tr ajV46 (by decide) (by decide)
      have zlZ48 : ZL Z Z48 := zlZ48
      have zoZ48 : ZL Z Z48 := ZL.tr zoZ zlZ48
      have ziZ48 := zlZ48.1
      have zjZ48 := zlZ48.2.1
      have zkZ48 := zlZ48.2.2.1
      have zmZ48 := zoZ48.1
      have znZ48 := zoZ48.2.1
      have zpZ_Z48 := zoZ.1
      have zqZ_Z48 := zoZ.2.1
      have y44 : H.size ≤ Hk38.size + (zcc Z - zcc Z48) := by rw [hHk38]; exact y44
      have y45 : tot H ≤ tot Hk38 + (zss Z - zss Z48) := by rw [hHk38]; exact y45
      refine W.tight (k := zcc Z - zcc Z48) (n := zss Z - zss Z48) (by first | exact tg9 y44 k39 zlZ48.1 zoZ.1 | omega) (by first | exact tg9 y45 k40 zlZ48.2.1 zoZ.2.1 | omega) ?_
      have ilf49 : f49 < Z48.nf := ilf49
      have t50 : ME V29 V46 f49 := t50
      have t51 : V46 67 f49 = 1 ∧ V46 68 f49 = 0 ∧ V46 70 f49 = z17 ∧ V46 71 f49 = p0 ∧ V46 75 f49 = 0 ∧ V46 76 f49 = 0 := t51
      have t52 : (f49 : Int) + 1 = (V46 5 6).toInt := t52
      have t53 : (f49 : Int) ≤ (V29 5 6).toInt ∧ (V29 5 6).toInt ≤ (f49 : Int) + 1 := t53
      have t54 : (V46 5 9).toInt = 0 := t54
      have t55 : Z48.ln = Z.ln ∧ Z48.nf ≤ 400 := t55
      have r56 : 0 ≤ ((V46 5 6)).toInt ∧ ((V46 5 6)).toInt ≤ 400 := hMV46 5 6
      have r57 : 0 ≤ ((V46 5 9)).toInt ∧ ((V46 5 9)).toInt ≤ 3 := hMV46 5 9
      have pr58 : (V46 67 f49).toInt = 1 := (congrArg Int32.toInt t51.1).trans (by decide)
      have pr59 : (V46 68 f49).toInt = 0 := (congrArg Int32.toInt t51.2.1).trans (by decide)
      have pr60 : (V46 70 f49).toInt = z17.toInt := (congrArg Int32.toInt t51.2.2.1)
      have pr61 : (V46 71 f49).toInt = p0.toInt := (congrArg Int32.toInt t51.2.2.2.1)
      have pr62 : (V46 75 f49).toInt = 0 := (congrArg Int32.toInt t51.2.2.2.2.1).trans (by decide)
      have pr63 : (V46 76 f49).toInt = 0 := (congrArg Int32.toInt t51.2.2.2.2.2).trans (by decide)
      refine lv_pop hx hb dX5_beginMaking_45 rfl ?_
      have me64 : ME V V9 400 := (ME.tr ME.rf (ME.ag ajV9 (by decide)))
      have mt65 : MTw V9 Z b := MTw.me mt me64 (ajV9 5 6 rfl)
      have pq66 : (V9 43 (5 * b + 2)).toInt = ((V 43 (5 * b + 2))).toInt := congrArg Int32.toInt (ajV9 43 (5 * b + 2) rfl)
      have ko1 := i_clamp (x := V9 3 13) rfl (by (first | exact om_ec2623e552ae pq31 r32.1 | omega))
      have mx : MTx V29 Z b 202 := MTw.ob (o := Int32.toNatClampNeg (V9 3 13)) mt65 ajV29 (by decide) t20 (by omega) (by first | omega | ((try (have i_t8 := Imp.go t8 (imp_a (rgz4.1) (rgz4.2) (f14)))); omega) | ((try (have i_t25 := Imp.go t25 (by omega))); (try (have i_t24 := Imp.go t24 (by omega))); (try (have i_t8 := Imp.go t8 (by omega))); (try (have i_t7 := Imp.go t7 (by omega))); first | omega | ((try (have i_t7 := Imp.go t7 (by omega))); (try (have i_t8 := Imp.go t8 (by omega))); (try (have i_t24 := Imp.go t24 (by omega))); (try (have i_t25 := Imp.go t25 (by omega))); omega))) (by first | omega | ((try (have i_t8 := Imp.go t8 (imp_a (rgz4.1) (rgz4.2) (f14)))); omega) | ((try (have i_t25 := Imp.go t25 (by omega))); (try (have i_t24 := Imp.go t24 (by omega))); (try (have i_t8 := Imp.go t8 (by omega))); (try (have i_t7 := Imp.go t7 (by omega))); first | omega | ((try (have i_t7 := Imp.go t7 (by omega))); (try (have i_t8 := Imp.go t8 (by omega))); (try (have i_t24 := Imp.go t24 (by omega))); (try (have i_t25 := Imp.go t25 (by omega))); omega))) (Imp.go t23 (by (first | exact om_e3b1d6ac9ce8 rgz17.1 f35 | omega))) (by rw [Imp.go t26 (by (first | exact om_e3b1d6ac9ce8 rgz17.1 f35 | omega))]; omega) (fun k hk => Or.elim (Imp.go t28 (by (first | exact om_e3b1d6ac9ce8 rgz17.1 f35 | omega)) k hk) Or.inl (fun z => Or.inr ⟨by obtain ⟨z1, z2⟩ := z; first | omega | ((try (have i_t8 := Imp.go t8 (imp_a (rgz4.1) (rgz4.2) (f14)))); omega) | ((try (have i_t25 := Imp.go t25 (by omega))); (try (have i_t24 := Imp.go t24 (by omega))); (try (have i_t8 := Imp.go t8 (by omega))); (try (have i_t7 := Imp.go t7 (by omega))); first | omega | ((try (have i_t7 := Imp.go t7 (by omega))); (try (have i_t8 := Imp.go t8 (by omega))); (try (have i_t24 := Imp.go t24 (by omega))); (try (have i_t25 := Imp.go t25 (by omega))); omega)), by obtain ⟨z1, z2⟩ := z; rw [Imp.go t26 (by (first | exact om_e3b1d6ac9ce8 rgz17.1 f35 | omega))]; omega⟩))
      have me67 : ME V29 V46 f49 := (ME.tr ME.rf t50)
      have r68 : (-1) ≤ ((V46 71 f49)).toInt ∧ ((V46 71 f49)).toInt ≤ 23 := hMV46 71 f49
      have r69 : 0 ≤ ((V46 75 f49)).toInt ∧ ((V46 75 f49)).toInt ≤ 12 := hMV46 75 f49
      have r70 : 0 ≤ ((V46 80 f49)).toInt ∧ ((V46 80 f49)).toInt ≤ 300 := hMV46 80 f49
      have r71 : 0 ≤ ((V46 84 f49)).toInt ∧ ((V46 84 f49)).toInt ≤ 2147483647 := hMV46 84 f49
      have pq72 : (V46 5 8).toInt = ((V 5 8)).toInt := congrArg Int32.toInt ((ajV46 5 8 rfl).trans ((ajV29 5 8 rfl).trans (ajV9 5 8 rfl)))
      have r73 : 0 ≤ ((V 5 8)).toInt ∧ ((V 5 8)).toInt ≤ 300 := hMV 5 8
      have pq74 : (V46 3 13).toInt = ((V29 3 13)).toInt := congrArg Int32.toInt (ajV46 3 13 rfl)
      have pq75 : (V46 43 (5 * b + 2)).toInt = ((V 43 (5 * b + 2))).toInt := congrArg Int32.toInt ((ajV46 43 (5 * b + 2) rfl).trans ((ajV29 43 (5 * b + 2) rfl).trans (ajV9 43 (5 * b + 2) rfl)))
      have pq76 : (V46 42 b).toInt = ((V 42 b)).toInt := congrArg Int32.toInt ((ajV46 42 b rfl).trans ((ajV29 42 b rfl).trans (ajV9 42 b rfl)))
      have r77 : 0 ≤ ((V 42 b)).toInt ∧ ((V 42 b)).toInt ≤ 8200 := hMV 42 b
      have pq78 : (V46 41 b).toInt = ((V 41 b)).toInt := congrArg Int32.toInt ((ajV46 41 b rfl).trans ((ajV29 41 b rfl).trans (ajV9 41 b rfl)))
      have r79 : 0 ≤ ((V 41 b)).toInt ∧ ((V 41 b)).toInt ≤ 12 := hMV 41 b
      have rp80 : MJ V46 Z48 b := MTx.pu (v := False) mx (by omega) me67 t55.1 (by omega) t55.2 (FK.k1 (by omega) (by omega) (by first | omega | ((try (have i_t8 := Imp.go t8 (imp_a (rgz4.1) (rgz4.2) (f14)))); omega) | ((try (have i_t25 := Imp.go t25 (by omega))); (try (have i_t24 := Imp.go t24 (by omega))); (try (have i_t8 := Imp.go t8 (by omega))); (try (have i_t7 := Imp.go t7 (by omega))); first | omega | ((try (have i_t7 := Imp.go t7 (by omega))); (try (have i_t8 := Imp.go t8 (by omega))); (try (have i_t24 := Imp.go t24 (by omega))); (try (have i_t25 := Imp.go t25 (by omega))); omega))) (by omega) (by omega) (fun _ => ⟨by omega, fun _ => ⟨by omega, by omega⟩⟩)) (fun h => absurd h (by omega)) (by omega) (by omega)
      refine W.know (fun kr1 kr2 => ?_)
      refine W.widen (k := zcc Z) (n := zss Z) (Nat.sub_le _ _) (Nat.sub_le _ _) ?_
      exact W.vret hx hb hr (fun t ht hW => ⟨⟨(V46, L, Z48), rfl, ⟨hMV46, agV46, rfl, zoZ48, rp80⟩, ⟨by rw [ht]; exact hP, va_K.moved hW.alike hK, hD⟩, by rw [ht]; exact kr1, by rw [ht]; exact kr2⟩, hS.F ht⟩) hS.2.2 dX5_beginMaking_46
    · skip
      have f81 : z17.toInt = (-1) := b_eq rfl (by decide) c34
      have meb : ∀ n, ME V9 V29 n := fun n => by rw [Imp.go t27 (by (first | exact om_8809abba85b8 rgz17.1 f81 | omega))]; exact ME.rf
      refine lv_aload_n hx hb dX5_beginMaking_27 rfl (lv_at hl 1 rfl) ?_
      refine lv_iconst (v := 0) hx hb dX5_beginMaking_28 (by decide) ?_
      refine lv_bipush (v := 16) hx hb dX5_beginMaking_29 (by decide) ?_
      have r82 : Int32.toInt 0 = 0 := by decide
      have r83 : Int32.toInt 16 = 16 := by decide
      refine gA_void (gA_runV (As := [.int 0, .int 16]) (rest := []) (ci := 5) (q0 := 5) hx hb hml hown hg hP hD hK hS hA hnw hgk (x_failWith l D ks H.size ad kk V29 L Z 0 16 hMV29 ) w1261 w1263 w46 w171 w1264 rfl xgMachine hdV_yX5_failWith ⟨Nat.le_of_ble_eq_true rfl, Nat.le_of_ble_eq_true rfl⟩ rfl hl.1 rfl (Nat.le_of_ble_eq_true rfl) dX5_beginMaking_31 ⟨z0, z0⟩) hP hD hK hS hA (fun u85 H locs w86 hP hD hK hS => ?_)
      obtain ⟨V88, L89⟩ := u85
      obtain ⟨hMV88, ajV88, axL89, t87⟩ := w86
      have axL89 : L = L89 := Eq.symm axL89
      subst axL89
      have hP : va_P D vwCl (xw ad kk V88 L Z) H := hP
      have hD : va_D A (xw ad kk V88 L Z) := hD
      have hMV88 : rgd bX V88 := hMV88
      have ajV88 : agr [(5, 9), (5, 11), (5, 12)] [] V29 V88 := ajV88
      have agV88 : agr [(3, 13), (5, 6), (5, 9), (5, 11), (5, 12), (5, 13), (5, 14)] [25, 26, 27, 28, 30, 67, 68, 69, 70, 71, 72, 73, 74, 75, 76, 77, 78, 79, 80, 81, 82, 83, 84, 85] V V88 := agV29.tr ajV88 (by decide) (by decide)
      have t87 : (V88 5 9).toInt = 2 := t87
      have r90 : 0 ≤ ((V88 5 9)).toInt ∧ ((V88 5 9)).toInt ≤ 3 := hMV88 5 9
      have me91 : ME V V88 400 := (ME.tr (ME.tr (ME.tr ME.rf (ME.ag ajV9 (by decide))) (meb _)) (ME.ag ajV88 (by decide)))
      have mt92 : MTw V88 Z b := MTw.me mt me91 ((ajV88 5 6 rfl).trans ((ajV29 5 6 rfl).trans (ajV9 5 6 rfl)))
      have rp93 : MJ V88 Z b := MTw.mj mt92 (fun q => absurd q.1 (by first | omega | ((try (have i_t25 := Imp.go t25 (f81))); (try (have i_t8 := Imp.go t8 (imp_a (rgz4.1) (rgz4.2) (f14)))); omega) | ((try (have i_t25 := Imp.go t25 (by omega))); (try (have i_t24 := Imp.go t24 (by omega))); (try (have i_t8 := Imp.go t8 (by omega))); (try (have i_t7 := Imp.go t7 (by omega))); first | omega | ((try (have i_t7 := Imp.go t7 (by omega))); (try (have i_t8 := Imp.go t8 (by omega))); (try (have i_t24 := Imp.go t24 (by omega))); (try (have i_t25 := Imp.go t25 (by omega))); omega))))
      refine W.know (fun kr1 kr2 => ?_)
      refine W.widen (k := zcc Z) (n := zss Z) (Nat.sub_le _ _) (Nat.sub_le _ _) ?_
      exact W.vret hx hb hr (fun t ht hW => ⟨⟨(V88, L, Z), rfl, ⟨hMV88, agV88, rfl, zoZ, rp93⟩, ⟨by rw [ht]; exact hP, va_K.moved hW.alike hK, hD⟩, by rw [ht]; exact kr1, by rw [ht]; exact kr2⟩, hS.F ht⟩) hS.2.2 dX5_beginMaking_34
  · skip
    have f94 : z4.toInt = 0 := b_eq rfl (by decide) c13
    have me95 : ME V V9 400 := (ME.tr ME.rf (ME.ag ajV9 (by decide)))
    have mt96 : MTw V9 Z b := MTw.me mt me95 (ajV9 5 6 rfl)
    have rp97 : MJ V9 Z b := MTw.mj mt96 (fun q => absurd q.1 (by first | omega | ((try (have i_t8 := Imp.go t8 (by omega))); (try (have i_t7 := Imp.go t7 (by omega))); (try (have i_t7 := Imp.go t7 (by omega))); (try (have i_t8 := Imp.go t8 (by omega))); omega)))
    refine W.know (fun kr1 kr2 => ?_)
    refine W.widen (k := zcc Z) (n := zss Z) (Nat.sub_le _ _) (Nat.sub_le _ _) ?_
    exact W.vret hx hb hr (fun t ht hW => ⟨⟨(V9, L, Z), rfl, ⟨hMV9, agV9, rfl, zoZ, rp97⟩, ⟨by rw [ht]; exact hP, va_K.moved hW.alike hK, hD⟩, by rw [ht]; exact kr1, by rw [ht]; exact kr2⟩, hS.F ht⟩) hS.2.2 dX5_beginMaking_7
abbrev r_x_seek (Z : XZ) : Room := { frames := 4, cells := zcc Z, slots := zss Z, locals := 95 }
abbrev q_x_seek (D : va_G) (ks : KS) (ad : Nat → Nat) (kk : Nat → ClassId) (V : Vf) (L : Lf) (Z : XZ) (p0 : Int32) (p1 : Int32) (p2 : Int32) (b : Nat) (A : Nat → Prop) : Array Value → State → Outcome → State → Prop := qZv D (fun (u : Vf × Lf × XZ) => rgd bX u.1 ∧ agr [(3, 13), (5, 6), (5, 9), (5, 10), (5, 11), (5, 12), (5, 13), (5, 14)] [25, 26, 27, 28, 30, 67, 68, 69, 70, 71, 72, 73, 74, 75, 76, 77, 78, 79, 80, 81, 82, 83, 84, 85] V u.1 ∧ u.2.1 = L ∧ ZL Z u.2.2 ∧ (MJ u.1 u.2.2 b)) (fun u => xw ad kk u.1 u.2.1 u.2.2) (fun u => xty kk u.2.2) (fun u => zcc Z - zcc u.2.2) (fun u => zss Z - zss u.2.2) A
set_option maxHeartbeats 4000000 in
set_option maxRecDepth 100000 in
theorem x_seek (l : Launch) (D : va_G) (ks : KS) (sz : Nat) (ad : Nat → Nat) (kk : Nat → ClassId) (V : Vf) (L : Lf) (Z : XZ) (p0 : Int32) (p1 : Int32) (p2 : Int32) (b : Nat) (hMV : rgd bX V) (rg_p0 : (-1) ≤ p0.toInt ∧ p0.toInt ≤ 24) (rg_p1 : 0 ≤ p1.toInt ∧ p1.toInt ≤ 39) (hb2 : b < 2) (mt : MTw V Z b)  : Met l yX5_seek (Cond.code yX5_seek cX5_seek 7 none :: GW) (r_x_seek Z) (va_Pc [.ref (ad 5), .int p0, .int p1, .int p2] (gp D ks (xw ad kk V L Z) (xty kk Z) sz)) (q_x_seek D ks ad kk V L Z p0 p1 p2 b (va_A (xw ad kk V L Z) sz)) (zcc Z) (zss Z) (va_A (xw ad kk V L Z) sz) := by
  refine g_met (q_x_seek D ks ad kk V L Z p0 p1 p2 b) (by decide) (Nat.le_of_ble_eq_true rfl) ?_
  intro p e s m below meth c A ls H locs hx hb hr hml hown hg hlocks hin hnw hgk hP hK hD hS hA hl
  have hown : s.vm.findClass RX5 = some m.cls := hown
  have hl : lv_has ls 7 [(0, .ref (ad 5)), (1, .int p0), (2, .int p1), (3, .int p2)] := hl
  have hP : va_P D vwCl (xw ad kk V L Z) H := hP
  have hD : va_D A (xw ad kk V L Z) := hD
  have hK : va_K D vwCl (xty kk Z) s := hK
  have agV : agr [(3, 13), (5, 6), (5, 9), (5, 10), (5, 11), (5, 12), (5, 13), (5, 14)] [25, 26, 27, 28, 30, 67, 68, 69, 70, 71, 72, 73, 74, 75, 76, 77, 78, 79, 80, 81, 82, 83, 84, 85] V V := agr.rf
  have zoZ : ZL Z Z := ZL.rf
  refine W.know (fun ka kb => ?_)
  refine W.tight (k := zcc Z - zcc Z) (n := zss Z - zss Z) (by omega) (by omega) ?_
  have r1 : 0 ≤ ((V 5 6)).toInt ∧ ((V 5 6)).toInt ≤ 400 := hMV 5 6
  have kdp := i_clamp (x := V 5 6) rfl (by (first | exact om_eafa9039069c r1.1 | omega))
  have hdn := MTw.dn mt (by (first | exact om_eafa9039069c r1.1 | omega))
  have mup := MTw.up mt
  have msz := mup.1
  have mbk := mup.2.2.2.1
  refine lv_aload_n hx hb dX5_seek_0 rfl (lv_at hl 0 rfl) ?_
  refine va_get (D := D) (ci := 5) (v := .ref (ad (38 + Int32.toNatClampNeg (V 5 5)))) (fs := (xfMachine ad V L Z)) (C := RX5) (T := TX5) (N := 15) hx hb hg inX5 hown hK hP 5 xgMachine rfl 5 (by decide) (hg _ w672) (fun _ h9 => h9) rfl dX5_seek_1 ?_
  have r2 : 0 ≤ ((V 5 5)).toInt ∧ ((V 5 5)).toInt ≤ 1 := hMV 5 5
  refine g_topv (v := .ref (ad (38 + b))) (rfP (by omega)) ?_
  refine lv_iload_n hx hb dX5_seek_4 rfl (lv_at hl 1 rfl) ?_
  refine gA_int (gA_runV (As := [.int p0]) (rest := []) (ci := 0) (q0 := (38 + b)) hx hb hml hown hg hP hD hK hS hA hnw hgk (x_bhas l D ks H.size ad kk V L Z p0 (b) hMV (show b < 2 from by (first | exact om_f940a4667dd6 hb2 | omega))) w1260 w1138 w1139 w167 w1140 rfl (xgBook hb2) hdV_yX0_has ⟨Nat.le_of_ble_eq_true rfl, Nat.le_of_ble_eq_true rfl⟩ rfl hl.1 rfl (Nat.le_of_ble_eq_true rfl) dX5_seek_5 ⟨z0, z0⟩) hP hD hK hS hA (fun z3 u4 H locs w5 hP hD hK hS => ?_)
  obtain ⟨rgz3, t6⟩ := w5
  have rgz3 : 0 ≤ z3.toInt ∧ z3.toInt ≤ 1 := rgz3
  have t6 : Imp (z3.toInt = 1) (0 ≤ p0.toInt ∧ p0.toInt < (V 43 (5 * b + 2)).toInt) := t6
  refine lv_if_ne (tgt := 19) hx hb dX5_seek_8 (by decide) (fun c7 => ?_) (fun c7 => ?_)
  · skip
    have f8 : z3.toInt ≠ 0 := b_neq rfl (by decide) c7
    have rh9 := Imp.go t6 (by (first | exact om_2ebe32d50835 rgz3.1 rgz3.2 f8 | omega))
    have r10 : 0 ≤ ((V 43 (5 * b + 2))).toInt ∧ ((V 43 (5 * b + 2))).toInt ≤ ((xcap (5 * b + 2) : Nat) : Int) := hMV 43 (5 * b + 2)
    have r11 : xcap (5 * b + 2) = 24 := xcap_2
    refine lv_aload_n hx hb dX5_seek_19 rfl (lv_at hl 0 rfl) ?_
    refine va_get (D := D) (ci := 5) (v := .ref (ad (38 + Int32.toNatClampNeg (V 5 5)))) (fs := (xfMachine ad V L Z)) (C := RX5) (T := TX5) (N := 15) hx hb hg inX5 hown hK hP 5 xgMachine rfl 5 (by decide) (hg _ w672) (fun _ h9 => h9) rfl dX5_seek_20 ?_
    refine g_topv (v := .ref (ad (38 + b))) (rfP (by first | omega | ((try (have i_t6 := Imp.go t6 (by omega))); omega))) ?_
    refine va_getN (D := D) (ci := 0) (v := .ref (ad (64 + b))) (fs := (xfBook ad V b)) (C := RX0) (T := TX0) (N := 13) hx hb hg inX0 hown hK hP (38 + b) (xgBook hb2) rfl 7 (by decide) (hnw.use 618 n618 rfl) (fun _ h9 => h9) rfl dX5_seek_23 ?_
    refine lv_iload_n hx hb dX5_seek_26 rfl (lv_at hl 1 rfl) ?_
    have il12 : b < 2 := by first | exact om_f940a4667dd6 hb2 | first | omega | ((try (have i_t6 := Imp.go t6 (by omega))); omega)
    refine va_aldq (D := D) (i := p0) hx hb hK hP (64 + b) (57 + b) (xgcomps il12) (xtcomps il12) (i_in (a := p0.toInt) rfl (by first | exact om_9f35ed8d252f rh9.1 r10.2 r11 ((Imp.go t6 (imp_a (rgz3.1) (rgz3.2) (f8))).2) | first | omega | ((try (have i_t6 := Imp.go t6 (by omega))); omega))) dX5_seek_27 ?_
    have kc13 := i_clamp (x := p0) rfl (by first | exact om_eafa9039069c ((Imp.go t6 (imp_a (rgz3.1) (rgz3.2) (f8))).1) | first | omega | ((try (have i_t6 := Imp.go t6 (by omega))); omega))
    refine g_topv (v := .ref (ad (72 + (24 * b + (Int32.toNatClampNeg p0))))) (congrArg va_rf (if_pos (by first | omega | ((try (have i_t6 := Imp.go t6 (by omega))); omega)))) ?_
    have il14 : (24 * b + (Int32.toNatClampNeg p0)) < 48 := by first | exact om_4f3e21c63296 hb2 r10.2 r11 kc13 ((Imp.go t6 (imp_a (rgz3.1) (rgz3.2) (f8))).2) | first | omega | ((try (have i_t6 := Imp.go t6 (by omega))); omega)
    refine va_getN (D := D) (ci := 3) (v := .int (V 51 (24 * b + (Int32.toNatClampNeg p0)))) (fs := (xfComp ad V (24 * b + (Int32.toNatClampNeg p0)))) (C := RX3) (T := TX3) (N := 13) hx hb hg inX3 hown hK hP (72 + (24 * b + (Int32.toNatClampNeg p0))) (xgComp il14) rfl 6 (by decide) (hnw.use 522 n522 rfl) (fun _ h9 => h9) rfl dX5_seek_28 ?_
    have r15 : 0 ≤ ((V 51 (24 * b + (Int32.toNatClampNeg p0)))).toInt ∧ ((V 51 (24 * b + (Int32.toNatClampNeg p0)))).toInt ≤ 3 := hMV 51 (24 * b + (Int32.toNatClampNeg p0))
    refine lv_iconst (v := 3) hx hb dX5_seek_31 (by decide) ?_
    refine lv_icmp_eq (tgt := 39) hx hb dX5_seek_32 (by decide) (fun c16 => ?_) (fun c16 => ?_)
    · skip
      have f17 : ((V 51 (24 * b + (Int32.toNatClampNeg p0)))).toInt = 3 := b_eq rfl (by decide) c16
      refine lv_iconst (v := 0) hx hb dX5_seek_39 (by decide) ?_
      refine lv_istore (lv' := [(4, .int 0), (0, .ref (ad 5)), (1, .int p0), (2, .int p1), (3, .int p2)]) hx hb dX5_seek_40 hl (by decide) rfl (fun ls hl => ?_)
      refine lv_aload_n hx hb dX5_seek_42 rfl (lv_at hl 1 rfl) ?_
      refine va_get (D := D) (ci := 5) (v := .ref (ad 3)) (fs := (xfMachine ad V L Z)) (C := RX5) (T := TX5) (N := 15) hx hb hg inX5 hown hK hP 5 xgMachine rfl 0 (by decide) (hg _ w667) (fun _ h9 => h9) rfl dX5_seek_43 ?_
      refine lv_aload_n hx hb dX5_seek_46 rfl (lv_at hl 1 rfl) ?_
      refine va_get (D := D) (ci := 5) (v := .ref (ad (38 + Int32.toNatClampNeg (V 5 5)))) (fs := (xfMachine ad V L Z)) (C := RX5) (T := TX5) (N := 15) hx hb hg inX5 hown hK hP 5 xgMachine rfl 5 (by decide) (hg _ w672) (fun _ h9 => h9) rfl dX5_seek_47 ?_
      refine g_topv (v := .ref (ad (38 + b))) (rfP (by first | omega | ((try (have i_t6 := Imp.go t6 (by omega))); omega))) ?_
      refine va_getN (D := D) (ci := 0) (v := .ref (ad (64 + b))) (fs := (xfBook ad V b)) (C := RX0) (T := TX0) (N := 13) hx hb hg inX0 hown hK hP (38 + b) (xgBook hb2) rfl 7 (by decide) (hnw.use 618 n618 rfl) (fun _ h9 => h9) rfl dX5_seek_50 ?_
      refine lv_iload_n hx hb dX5_seek_53 rfl (lv_at hl 2 rfl) ?_
      refine va_aldq (D := D) (i := p0) hx hb hK hP (64 + b) (57 + b) (xgcomps il12) (xtcomps il12) (i_in (a := p0.toInt) rfl (by first | exact om_9f35ed8d252f rh9.1 r10.2 r11 ((Imp.go t6 (imp_a (rgz3.1) (rgz3.2) (f8))).2) | first | omega | ((try (have i_t6 := Imp.go t6 (by omega))); omega))) dX5_seek_54 ?_
      refine g_topv (v := .ref (ad (72 + (24 * b + (Int32.toNatClampNeg p0))))) (congrArg va_rf (if_pos (by first | omega | ((try (have i_t6 := Imp.go t6 (by omega))); omega)))) ?_
      refine va_getN (D := D) (ci := 3) (v := .int (V 51 (24 * b + (Int32.toNatClampNeg p0)))) (fs := (xfComp ad V (24 * b + (Int32.toNatClampNeg p0)))) (C := RX3) (T := TX3) (N := 13) hx hb hg inX3 hown hK hP (72 + (24 * b + (Int32.toNatClampNeg p0))) (xgComp il14) rfl 6 (by decide) (hnw.use 522 n522 rfl) (fun _ h9 => h9) rfl dX5_seek_55 ?_
      refine lv_iload_n hx hb dX5_seek_58 rfl (lv_at hl 3 rfl) ?_
      refine gA_int (gA_runV (As := [.int (V 51 (24 * b + (Int32.toNatClampNeg p0))), .int p1]) (rest := []) (ci := 8) (q0 := 3) hx hb hml hown hg hP hD hK hS hA hnw hgk (x_placeOf l D ks H.size ad kk V L Z (V 51 (24 * b + (Int32.toNatClampNeg p0))) p1 hMV (by first | exact om_13ba01c174fe rg_p1.1 rg_p1.2 | first | omega | ((try (have i_t6 := Imp.go t6 (by omega))); omega))) w1265 w1266 w1267 w164 w1268 rfl xgStock hdV_yX8_placeOf ⟨Nat.le_of_ble_eq_true rfl, Nat.le_of_ble_eq_true rfl⟩ rfl hl.1 rfl (Nat.le_of_ble_eq_true rfl) dX5_seek_59 ⟨z0, z0⟩) hP hD hK hS hA (fun z18 u19 H locs w20 hP hD hK hS => ?_)
      have rgz18 := w20
      have rgz18 : (-1) ≤ z18.toInt ∧ z18.toInt ≤ 39 := rgz18
      refine lv_istore (lv' := [(5, .int z18), (4, .int 0), (0, .ref (ad 5)), (1, .int p0), (2, .int p1), (3, .int p2)]) hx hb dX5_seek_62 hl (by decide) rfl (fun ls hl => ?_)
      refine lv_iload hx hb dX5_seek_64 (lv_at hl 0 rfl) ?_
      refine lv_iconst (v := (-1)) hx hb dX5_seek_66 (by decide) ?_
      refine lv_icmp_ne (tgt := 78) hx hb dX5_seek_67 (by decide) (fun c21 => ?_) (fun c21 => ?_)
      · skip
        have f22 : z18.toInt ≠ (-1) := b_neq rfl (by decide) c21
        refine lv_aload_n hx hb dX5_seek_78 rfl (lv_at hl 2 rfl) ?_
        refine va_get (D := D) (ci := 5) (v := .ref (ad 3)) (fs := (xfMachine ad V L Z)) (C := RX5) (T := TX5) (N := 15) hx hb hg inX5 hown hK hP 5 xgMachine rfl 0 (by decide) (hg _ w667) (fun _ h9 => h9) rfl dX5_seek_79 ?_
        refine lv_iload hx hb dX5_seek_82 (lv_at hl 0 rfl) ?_
        refine lv_iload_n hx hb dX5_seek_84 rfl (lv_at hl 3 rfl) ?_
        refine gA_int (gA_runV (As := [.int z18, .int p0]) (rest := []) (ci := 8) (q0 := 3) hx hb hml hown hg hP hD hK hS hA hnw hgk (x_isSpoiled l D ks H.size ad kk V L Z z18 p0 hMV (by first | exact om_8305e47bdc88 rgz18.1 rgz18.2 f22 | first | omega | ((try (have i_t6 := Imp.go t6 (by omega))); omega))) w1269 w1270 w1271 w164 w1272 rfl xgStock hdV_yX8_isSpoiled ⟨Nat.le_of_ble_eq_true rfl, Nat.le_of_ble_eq_true rfl⟩ rfl hl.1 rfl (Nat.le_of_ble_eq_true rfl) dX5_seek_85 ⟨z0, z0⟩) hP hD hK hS hA (fun z23 u24 H locs w25 hP hD hK hS => ?_)
        have rgz23 := w25
        have rgz23 : 0 ≤ z23.toInt ∧ z23.toInt ≤ 1 := rgz23
        refine lv_if_eq (tgt := 99) hx hb dX5_seek_88 (by decide) (fun c26 => ?_) (fun c26 => ?_)
        · skip
          have f27 : z23.toInt = 0 := b_eq rfl (by decide) c26
          refine lv_iload hx hb dX5_seek_99 (lv_at hl 1 rfl) ?_
          refine lv_if_eq (tgt := 117) hx hb dX5_seek_101 (by decide) (fun _ => ?_) (fun q => absurd (by decide) q)
          refine lv_iconst (v := (-1)) hx hb dX5_seek_117 (by decide) ?_
          refine lv_istore (lv' := [(6, .int (-1)), (5, .int z18), (4, .int 0), (0, .ref (ad 5)), (1, .int p0), (2, .int p1), (3, .int p2)]) hx hb dX5_seek_118 hl (by decide) rfl (fun ls hl => ?_)
          refine lv_iload hx hb dX5_seek_120 (lv_at hl 0 rfl) ?_
          refine lv_iconst (v := (-1)) hx hb dX5_seek_122 (by decide) ?_
          refine lv_icmp_ne (tgt := 139) hx hb dX5_seek_123 (by decide) (fun q => absurd rfl q) (fun _ => ?_)
          refine lv_aload_n hx hb dX5_seek_126 rfl (lv_at hl 3 rfl) ?_
          refine lv_iload_n hx hb dX5_seek_127 rfl (lv_at hl 4 rfl) ?_
          refine lv_iload hx hb dX5_seek_128 (lv_at hl 1 rfl) ?_
          refine lv_iload_n hx hb dX5_seek_130 rfl (lv_at hl 6 rfl) ?_
          refine lv_iload hx hb dX5_seek_131 (lv_at hl 2 rfl) ?_
          have r28 : Int32.toInt 0 = 0 := by decide
          refine W.know (fun k30 k31 => ?_)
          obtain ⟨Hk29, hHk29⟩ : ∃ z, z = H := ⟨_, rfl⟩
          have k30 : Hk29.size ≤ s.heap.size + (zcc Z - zcc Z) := by rw [hHk29]; exact k30
          have k31 : tot Hk29 ≤ tot s.heap + (zss Z - zss Z) := by rw [hHk29]; exact k31
          refine gZ_void (gA_runV (As := [.int p0, .int z18, .int p2, .int 0]) (rest := []) (ci := 5) (q0 := 5) hx hb hml hown hg hP hD hK hS hA hnw hgk (x_beginMaking l D ks H.size ad kk V L Z p0 z18 p2 0 (b) hMV (by first | exact om_bf3d98df3a8e r10.2 r11 ((Imp.go t6 (imp_a (rgz3.1) (rgz3.2) (f8))).1) ((Imp.go t6 (imp_a (rgz3.1) (rgz3.2) (f8))).2) | first | omega | ((try (have i_t6 := Imp.go t6 (by omega))); omega)) (by first | exact om_8305e47bdc88 rgz18.1 rgz18.2 f22 | first | omega | ((try (have i_t6 := Imp.go t6 (by omega))); omega)) (by decide) (show b < 2 from by first | exact om_f940a4667dd6 hb2 | first | omega | ((try (have i_t6 := Imp.go t6 (by omega))); omega)) mt (show p0.toInt < (V 43 (5 * b + 2)).toInt from by first | exact om_0e9116797efb ((Imp.go t6 (imp_a (rgz3.1) (rgz3.2) (f8))).2) | first | omega | ((try (have i_t6 := Imp.go t6 (by omega))); omega))) w1277 w1279 w47 w171 w1280 rfl xgMachine hdV_yX5_beginMaking ⟨Nat.le_of_ble_eq_true rfl, Nat.le_of_ble_eq_true rfl⟩ rfl hl.1 rfl (Nat.le_of_ble_eq_true rfl) dX5_seek_133 ⟨z1 zoZ.1, z1 zoZ.2.1⟩) hD hS hA (fun u33 H locs w34 hP hD hK hS y35 y36 => ?_)
          obtain ⟨V37, L38, Z39⟩ := u33
          obtain ⟨hMV37, ajV37, axL38, zlZ39, t41⟩ := w34
          have axL38 : L = L38 := Eq.symm axL38
          subst axL38
          have hP : va_P D vwCl (xw ad kk V37 L Z39) H := hP
          have hD : va_D A (xw ad kk V37 L Z39) := hD
          have hK : va_K D vwCl (xty kk Z39) s := hK
          have hMV37 : rgd bX V37 := hMV37
          have ajV37 : agr [(3, 13), (5, 6), (5, 9), (5, 11), (5, 12), (5, 13), (5, 14)] [25, 26, 27, 28, 30, 67, 68, 69, 70, 71, 72, 73, 74, 75, 76, 77, 78, 79, 80, 81, 82, 83, 84, 85] V V37 := ajV37
          have agV37 : agr [(3, 13), (5, 6), (5, 9), (5, 10), (5, 11), (5, 12), (5, 13), (5, 14)] [25, 26, 27, 28, 30, 67, 68, 69, 70, 71, 72, 73, 74, 75, 76, 77, 78, 79, 80, 81, 82, 83, 84, 85] V V37 := agV.tr ajV37 (by decide) (by decide)
          have zlZ39 : ZL Z Z39 := zlZ39
          have zoZ39 : ZL Z Z39 := ZL.tr zoZ zlZ39
          have ziZ39 := zlZ39.1
          have zjZ39 := zlZ39.2.1
          have zkZ39 := zlZ39.2.2.1
          have zmZ39 := zoZ39.1
          have znZ39 := zoZ39.2.1
          have zpZ_Z39 := zoZ.1
          have zqZ_Z39 := zoZ.2.1
          have y35 : H.size ≤ Hk29.size + (zcc Z - zcc Z39) := by rw [hHk29]; exact y35
          have y36 : tot H ≤ tot Hk29 + (zss Z - zss Z39) := by rw [hHk29]; exact y36
          refine W.tight (k := zcc Z - zcc Z39) (n := zss Z - zss Z39) (by first | exact tg9 y35 k30 zlZ39.1 zoZ.1 | omega) (by first | exact tg9 y36 k31 zlZ39.2.1 zoZ.2.1 | omega) ?_
          have t41 : MJ V37 Z39 b := t41
          refine lv_goto (tgt := 167) hx hb dX5_seek_136 (by decide) ?_
          refine W.know (fun kr1 kr2 => ?_)
          refine W.widen (k := zcc Z) (n := zss Z) (Nat.sub_le _ _) (Nat.sub_le _ _) ?_
          exact W.vret hx hb hr (fun t ht hW => ⟨⟨(V37, L, Z39), rfl, ⟨hMV37, agV37, rfl, zoZ39, t41⟩, ⟨by rw [ht]; exact hP, va_K.moved hW.alike hK, hD⟩, by rw [ht]; exact kr1, by rw [ht]; exact kr2⟩, hS.F ht⟩) hS.2.2 dX5_seek_167
        · skip
          have f42 : z23.toInt ≠ 0 := b_neq rfl (by decide) c26
          refine lv_aload_n hx hb dX5_seek_91 rfl (lv_at hl 2 rfl) ?_
          refine lv_iconst (v := 0) hx hb dX5_seek_92 (by decide) ?_
          refine lv_bipush (v := 15) hx hb dX5_seek_93 (by decide) ?_
          have r43 : Int32.toInt 0 = 0 := by decide
          have r44 : Int32.toInt 15 = 15 := by decide
          refine gA_void (gA_runV (As := [.int 0, .int 15]) (rest := []) (ci := 5) (q0 := 5) hx hb hml hown hg hP hD hK hS hA hnw hgk (x_failWith l D ks H.size ad kk V L Z 0 15 hMV ) w1261 w1263 w46 w171 w1264 rfl xgMachine hdV_yX5_failWith ⟨Nat.le_of_ble_eq_true rfl, Nat.le_of_ble_eq_true rfl⟩ rfl hl.1 rfl (Nat.le_of_ble_eq_true rfl) dX5_seek_95 ⟨z0, z0⟩) hP hD hK hS hA (fun u46 H locs w47 hP hD hK hS => ?_)
          obtain ⟨V49, L50⟩ := u46
          obtain ⟨hMV49, ajV49, axL50, t48⟩ := w47
          have axL50 : L = L50 := Eq.symm axL50
          subst axL50
          have hP : va_P D vwCl (xw ad kk V49 L Z) H := hP
          have hD : va_D A (xw ad kk V49 L Z) := hD
          have hMV49 : rgd bX V49 := hMV49
          have ajV49 : agr [(5, 9), (5, 11), (5, 12)] [] V V49 := ajV49
          have agV49 : agr [(3, 13), (5, 6), (5, 9), (5, 10), (5, 11), (5, 12), (5, 13), (5, 14)] [25, 26, 27, 28, 30, 67, 68, 69, 70, 71, 72, 73, 74, 75, 76, 77, 78, 79, 80, 81, 82, 83, 84, 85] V V49 := agV.tr ajV49 (by decide) (by decide)
          have t48 : (V49 5 9).toInt = 2 := t48
          have r51 : 0 ≤ ((V49 5 9)).toInt ∧ ((V49 5 9)).toInt ≤ 3 := hMV49 5 9
          have me52 : ME V V49 400 := (ME.tr ME.rf (ME.ag ajV49 (by decide)))
          have mt53 : MTw V49 Z b := MTw.me mt me52 (ajV49 5 6 rfl)
          have rp54 : MJ V49 Z b := MTw.mj mt53 (fun q => absurd q.1 (by omega))
          refine W.know (fun kr1 kr2 => ?_)
          refine W.widen (k := zcc Z) (n := zss Z) (Nat.sub_le _ _) (Nat.sub_le _ _) ?_
          exact W.vret hx hb hr (fun t ht hW => ⟨⟨(V49, L, Z), rfl, ⟨hMV49, agV49, rfl, zoZ, rp54⟩, ⟨by rw [ht]; exact hP, va_K.moved hW.alike hK, hD⟩, by rw [ht]; exact kr1, by rw [ht]; exact kr2⟩, hS.F ht⟩) hS.2.2 dX5_seek_98
      · skip
        have f55 : z18.toInt = (-1) := b_eq rfl (by decide) c21
        refine lv_aload_n hx hb dX5_seek_70 rfl (lv_at hl 2 rfl) ?_
        refine lv_iconst (v := 0) hx hb dX5_seek_71 (by decide) ?_
        refine lv_bipush (v := 14) hx hb dX5_seek_72 (by decide) ?_
        have r56 : Int32.toInt 0 = 0 := by decide
        have r57 : Int32.toInt 14 = 14 := by decide
        refine gA_void (gA_runV (As := [.int 0, .int 14]) (rest := []) (ci := 5) (q0 := 5) hx hb hml hown hg hP hD hK hS hA hnw hgk (x_failWith l D ks H.size ad kk V L Z 0 14 hMV ) w1261 w1263 w46 w171 w1264 rfl xgMachine hdV_yX5_failWith ⟨Nat.le_of_ble_eq_true rfl, Nat.le_of_ble_eq_true rfl⟩ rfl hl.1 rfl (Nat.le_of_ble_eq_true rfl) dX5_seek_74 ⟨z0, z0⟩) hP hD hK hS hA (fun u59 H locs w60 hP hD hK hS => ?_)
        obtain ⟨V62, L63⟩ := u59
        obtain ⟨hMV62, ajV62, axL63, t61⟩ := w60
        have axL63 : L = L63 := Eq.symm axL63
        subst axL63
        have hP : va_P D vwCl (xw ad kk V62 L Z) H := hP
        have hD : va_D A (xw ad kk V62 L Z) := hD
        have hMV62 : rgd bX V62 := hMV62
        have ajV62 : agr [(5, 9), (5, 11), (5, 12)] [] V V62 := ajV62
        have agV62 : agr [(3, 13), (5, 6), (5, 9), (5, 10), (5, 11), (5, 12), (5, 13), (5, 14)] [25, 26, 27, 28, 30, 67, 68, 69, 70, 71, 72, 73, 74, 75, 76, 77, 78, 79, 80, 81, 82, 83, 84, 85] V V62 := agV.tr ajV62 (by decide) (by decide)
        have t61 : (V62 5 9).toInt = 2 := t61
        have r64 : 0 ≤ ((V62 5 9)).toInt ∧ ((V62 5 9)).toInt ≤ 3 := hMV62 5 9
        have me65 : ME V V62 400 := (ME.tr ME.rf (ME.ag ajV62 (by decide)))
        have mt66 : MTw V62 Z b := MTw.me mt me65 (ajV62 5 6 rfl)
        have rp67 : MJ V62 Z b := MTw.mj mt66 (fun q => absurd q.1 (by omega))
        refine W.know (fun kr1 kr2 => ?_)
        refine W.widen (k := zcc Z) (n := zss Z) (Nat.sub_le _ _) (Nat.sub_le _ _) ?_
        exact W.vret hx hb hr (fun t ht hW => ⟨⟨(V62, L, Z), rfl, ⟨hMV62, agV62, rfl, zoZ, rp67⟩, ⟨by rw [ht]; exact hP, va_K.moved hW.alike hK, hD⟩, by rw [ht]; exact kr1, by rw [ht]; exact kr2⟩, hS.F ht⟩) hS.2.2 dX5_seek_77
    · skip
      have f68 : ((V 51 (24 * b + (Int32.toNatClampNeg p0)))).toInt ≠ 3 := b_neq rfl (by decide) c16
      refine lv_iconst (v := 1) hx hb dX5_seek_35 (by decide) ?_
      refine lv_goto (tgt := 40) hx hb dX5_seek_36 (by decide) ?_
      refine lv_istore (lv' := [(4, .int 1), (0, .ref (ad 5)), (1, .int p0), (2, .int p1), (3, .int p2)]) hx hb dX5_seek_40 hl (by decide) rfl (fun ls hl => ?_)
      refine lv_aload_n hx hb dX5_seek_42 rfl (lv_at hl 1 rfl) ?_
      refine va_get (D := D) (ci := 5) (v := .ref (ad 3)) (fs := (xfMachine ad V L Z)) (C := RX5) (T := TX5) (N := 15) hx hb hg inX5 hown hK hP 5 xgMachine rfl 0 (by decide) (hg _ w667) (fun _ h9 => h9) rfl dX5_seek_43 ?_
      refine lv_aload_n hx hb dX5_seek_46 rfl (lv_at hl 1 rfl) ?_
      refine va_get (D := D) (ci := 5) (v := .ref (ad (38 + Int32.toNatClampNeg (V 5 5)))) (fs := (xfMachine ad V L Z)) (C := RX5) (T := TX5) (N := 15) hx hb hg inX5 hown hK hP 5 xgMachine rfl 5 (by decide) (hg _ w672) (fun _ h9 => h9) rfl dX5_seek_47 ?_
      refine g_topv (v := .ref (ad (38 + b))) (rfP (by first | omega | ((try (have i_t6 := Imp.go t6 (by omega))); omega))) ?_
      refine va_getN (D := D) (ci := 0) (v := .ref (ad (64 + b))) (fs := (xfBook ad V b)) (C := RX0) (T := TX0) (N := 13) hx hb hg inX0 hown hK hP (38 + b) (xgBook hb2) rfl 7 (by decide) (hnw.use 618 n618 rfl) (fun _ h9 => h9) rfl dX5_seek_50 ?_
      refine lv_iload_n hx hb dX5_seek_53 rfl (lv_at hl 2 rfl) ?_
      refine va_aldq (D := D) (i := p0) hx hb hK hP (64 + b) (57 + b) (xgcomps il12) (xtcomps il12) (i_in (a := p0.toInt) rfl (by first | exact om_9f35ed8d252f rh9.1 r10.2 r11 ((Imp.go t6 (imp_a (rgz3.1) (rgz3.2) (f8))).2) | first | omega | ((try (have i_t6 := Imp.go t6 (by omega))); omega))) dX5_seek_54 ?_
      refine g_topv (v := .ref (ad (72 + (24 * b + (Int32.toNatClampNeg p0))))) (congrArg va_rf (if_pos (by first | omega | ((try (have i_t6 := Imp.go t6 (by omega))); omega)))) ?_
      refine va_getN (D := D) (ci := 3) (v := .int (V 51 (24 * b + (Int32.toNatClampNeg p0)))) (fs := (xfComp ad V (24 * b + (Int32.toNatClampNeg p0)))) (C := RX3) (T := TX3) (N := 13) hx hb hg inX3 hown hK hP (72 + (24 * b + (Int32.toNatClampNeg p0))) (xgComp il14) rfl 6 (by decide) (hnw.use 522 n522 rfl) (fun _ h9 => h9) rfl dX5_seek_55 ?_
      refine lv_iload_n hx hb dX5_seek_58 rfl (lv_at hl 3 rfl) ?_
      refine gA_int (gA_runV (As := [.int (V 51 (24 * b + (Int32.toNatClampNeg p0))), .int p1]) (rest := []) (ci := 8) (q0 := 3) hx hb hml hown hg hP hD hK hS hA hnw hgk (x_placeOf l D ks H.size ad kk V L Z (V 51 (24 * b + (Int32.toNatClampNeg p0))) p1 hMV (by first | exact om_13ba01c174fe rg_p1.1 rg_p1.2 | first | omega | ((try (have i_t6 := Imp.go t6 (by omega))); omega))) w1265 w1266 w1267 w164 w1268 rfl xgStock hdV_yX8_placeOf ⟨Nat.le_of_ble_eq_true rfl, Nat.le_of_ble_eq_true rfl⟩ rfl hl.1 rfl (Nat.le_of_ble_eq_true rfl) dX5_seek_59 ⟨z0, z0⟩) hP hD hK hS hA (fun z69 u70 H locs w71 hP hD hK hS => ?_)
      have rgz69 := w71
      have rgz69 : (-1) ≤ z69.toInt ∧ z69.toInt ≤ 39 := rgz69
      refine lv_istore (lv' := [(5, .int z69), (4, .int 1), (0, .ref (ad 5)), (1, .int p0), (2, .int p1), (3, .int p2)]) hx hb dX5_seek_62 hl (by decide) rfl (fun ls hl => ?_)
      refine lv_iload hx hb dX5_seek_64 (lv_at hl 0 rfl) ?_
      refine lv_iconst (v := (-1)) hx hb dX5_seek_66 (by decide) ?_
      refine lv_icmp_ne (tgt := 78) hx hb dX5_seek_67 (by decide) (fun c72 => ?_) (fun c72 => ?_)
      · skip
        have f73 : z69.toInt ≠ (-1) := b_neq rfl (by decide) c72
        refine lv_aload_n hx hb dX5_seek_78 rfl (lv_at hl 2 rfl) ?_
        refine va_get (D := D) (ci := 5) (v := .ref (ad 3)) (fs := (xfMachine ad V L Z)) (C := RX5) (T := TX5) (N := 15) hx hb hg inX5 hown hK hP 5 xgMachine rfl 0 (by decide) (hg _ w667) (fun _ h9 => h9) rfl dX5_seek_79 ?_
        refine lv_iload hx hb dX5_seek_82 (lv_at hl 0 rfl) ?_
        refine lv_iload_n hx hb dX5_seek_84 rfl (lv_at hl 3 rfl) ?_
        refine gA_int (gA_runV (As := [.int z69, .int p0]) (rest := []) (ci := 8) (q0 := 3) hx hb hml hown hg hP hD hK hS hA hnw hgk (x_isSpoiled l D ks H.size ad kk V L Z z69 p0 hMV (by first | exact om_8305e47bdc88 rgz69.1 rgz69.2 f73 | first | omega | ((try (have i_t6 := Imp.go t6 (by omega))); omega))) w1269 w1270 w1271 w164 w1272 rfl xgStock hdV_yX8_isSpoiled ⟨Nat.le_of_ble_eq_true rfl, Nat.le_of_ble_eq_true rfl⟩ rfl hl.1 rfl (Nat.le_of_ble_eq_true rfl) dX5_seek_85 ⟨z0, z0⟩) hP hD hK hS hA (fun z74 u75 H locs w76 hP hD hK hS => ?_)
        have rgz74 := w76
        have rgz74 : 0 ≤ z74.toInt ∧ z74.toInt ≤ 1 := rgz74
        refine lv_if_eq (tgt := 99) hx hb dX5_seek_88 (by decide) (fun c77 => ?_) (fun c77 => ?_)
        · skip
          have f78 : z74.toInt = 0 := b_eq rfl (by decide) c77
          refine lv_iload hx hb dX5_seek_99 (lv_at hl 1 rfl) ?_
          refine lv_if_eq (tgt := 117) hx hb dX5_seek_101 (by decide) (fun q => absurd q (by decide)) (fun _ => ?_)
          refine lv_aload_n hx hb dX5_seek_104 rfl (lv_at hl 2 rfl) ?_
          refine va_get (D := D) (ci := 5) (v := .ref (ad 3)) (fs := (xfMachine ad V L Z)) (C := RX5) (T := TX5) (N := 15) hx hb hg inX5 hown hK hP 5 xgMachine rfl 0 (by decide) (hg _ w667) (fun _ h9 => h9) rfl dX5_seek_105 ?_
          refine lv_iload hx hb dX5_seek_108 (lv_at hl 0 rfl) ?_
          refine lv_iload_n hx hb dX5_seek_110 rfl (lv_at hl 3 rfl) ?_
          refine gA_int (gA_runV (As := [.int z69, .int p0]) (rest := []) (ci := 8) (q0 := 3) hx hb hml hown hg hP hD hK hS hA hnw hgk (x_objectAt2 l D ks H.size ad kk V L Z z69 p0 hMV (by first | exact om_8305e47bdc88 rgz69.1 rgz69.2 f73 | first | omega | ((try (have i_t6 := Imp.go t6 (by omega))); omega)) (by first | exact om_bf3d98df3a8e r10.2 r11 ((Imp.go t6 (imp_a (rgz3.1) (rgz3.2) (f8))).1) ((Imp.go t6 (imp_a (rgz3.1) (rgz3.2) (f8))).2) | first | omega | ((try (have i_t6 := Imp.go t6 (by omega))); omega))) w1273 w1274 w1275 w164 w1276 rfl xgStock hdV_yX8_objectAt ⟨Nat.le_of_ble_eq_true rfl, Nat.le_of_ble_eq_true rfl⟩ rfl hl.1 rfl (Nat.le_of_ble_eq_true rfl) dX5_seek_111 ⟨z0, z0⟩) hP hD hK hS hA (fun z79 u80 H locs w81 hP hD hK hS => ?_)
          obtain ⟨rgz79, t82⟩ := w81
          have rgz79 : (-1) ≤ z79.toInt ∧ z79.toInt ≤ 299 := rgz79
          have t82 : z79 = V 25 (24 * Int32.toNatClampNeg z69 + Int32.toNatClampNeg p0) := t82
          refine lv_goto (tgt := 118) hx hb dX5_seek_114 (by decide) ?_
          refine lv_istore (lv' := [(6, .int z79), (5, .int z69), (4, .int 1), (0, .ref (ad 5)), (1, .int p0), (2, .int p1), (3, .int p2)]) hx hb dX5_seek_118 hl (by decide) rfl (fun ls hl => ?_)
          refine lv_iload hx hb dX5_seek_120 (lv_at hl 0 rfl) ?_
          refine lv_iconst (v := (-1)) hx hb dX5_seek_122 (by decide) ?_
          refine lv_icmp_ne (tgt := 139) hx hb dX5_seek_123 (by decide) (fun c83 => ?_) (fun c83 => ?_)
          · skip
            have f84 : z79.toInt ≠ (-1) := b_neq rfl (by decide) c83
            refine lv_aload_n hx hb dX5_seek_139 rfl (lv_at hl 3 rfl) ?_
            refine va_get (D := D) (ci := 5) (v := .ref (ad 3)) (fs := (xfMachine ad V L Z)) (C := RX5) (T := TX5) (N := 15) hx hb hg inX5 hown hK hP 5 xgMachine rfl 0 (by decide) (hg _ w667) (fun _ h9 => h9) rfl dX5_seek_140 ?_
            refine lv_iload hx hb dX5_seek_143 (lv_at hl 0 rfl) ?_
            refine gA_int (gA_runV (As := [.int z79]) (rest := []) (ci := 8) (q0 := 3) hx hb hml hown hg hP hD hK hS hA hnw hgk (x_isMade l D ks H.size ad kk V L Z z79 hMV ) w1296 w1297 w1298 w164 w1299 rfl xgStock hdV_yX8_isMade ⟨Nat.le_of_ble_eq_true rfl, Nat.le_of_ble_eq_true rfl⟩ rfl hl.1 rfl (Nat.le_of_ble_eq_true rfl) dX5_seek_145 ⟨z0, z0⟩) hP hD hK hS hA (fun z85 u86 H locs w87 hP hD hK hS => ?_)
            obtain ⟨rgz85, t88⟩ := w87
            have rgz85 : 0 ≤ z85.toInt ∧ z85.toInt ≤ 1 := rgz85
            have t88 : Imp (z85.toInt = 1) (0 ≤ z79.toInt ∧ z79.toInt < (V 3 13).toInt) := t88
            have r89 : 0 ≤ ((V 3 13)).toInt ∧ ((V 3 13)).toInt ≤ 300 := hMV 3 13
            refine lv_if_eq (tgt := 160) hx hb dX5_seek_148 (by decide) (fun c90 => ?_) (fun c90 => ?_)
            · skip
              have f91 : z85.toInt = 0 := b_eq rfl (by decide) c90
              refine lv_aload_n hx hb dX5_seek_160 rfl (lv_at hl 3 rfl) ?_
              refine lv_iconst (v := 0) hx hb dX5_seek_161 (by decide) ?_
              refine lv_bipush (v := 12) hx hb dX5_seek_162 (by decide) ?_
              have r92 : Int32.toInt 0 = 0 := by decide
              have r93 : Int32.toInt 12 = 12 := by decide
              refine gA_void (gA_runV (As := [.int 0, .int 12]) (rest := []) (ci := 5) (q0 := 5) hx hb hml hown hg hP hD hK hS hA hnw hgk (x_failWith l D ks H.size ad kk V L Z 0 12 hMV ) w1261 w1263 w46 w171 w1264 rfl xgMachine hdV_yX5_failWith ⟨Nat.le_of_ble_eq_true rfl, Nat.le_of_ble_eq_true rfl⟩ rfl hl.1 rfl (Nat.le_of_ble_eq_true rfl) dX5_seek_164 ⟨z0, z0⟩) hP hD hK hS hA (fun u95 H locs w96 hP hD hK hS => ?_)
              obtain ⟨V98, L99⟩ := u95
              obtain ⟨hMV98, ajV98, axL99, t97⟩ := w96
              have axL99 : L = L99 := Eq.symm axL99
              subst axL99
              have hP : va_P D vwCl (xw ad kk V98 L Z) H := hP
              have hD : va_D A (xw ad kk V98 L Z) := hD
              have hMV98 : rgd bX V98 := hMV98
              have ajV98 : agr [(5, 9), (5, 11), (5, 12)] [] V V98 := ajV98
              have agV98 : agr [(3, 13), (5, 6), (5, 9), (5, 10), (5, 11), (5, 12), (5, 13), (5, 14)] [25, 26, 27, 28, 30, 67, 68, 69, 70, 71, 72, 73, 74, 75, 76, 77, 78, 79, 80, 81, 82, 83, 84, 85] V V98 := agV.tr ajV98 (by decide) (by decide)
              have t97 : (V98 5 9).toInt = 2 := t97
              have r100 : 0 ≤ ((V98 5 9)).toInt ∧ ((V98 5 9)).toInt ≤ 3 := hMV98 5 9
              have me101 : ME V V98 400 := (ME.tr ME.rf (ME.ag ajV98 (by decide)))
              have mt102 : MTw V98 Z b := MTw.me mt me101 (ajV98 5 6 rfl)
              have rp103 : MJ V98 Z b := MTw.mj mt102 (fun q => absurd q.1 (by omega))
              refine W.know (fun kr1 kr2 => ?_)
              refine W.widen (k := zcc Z) (n := zss Z) (Nat.sub_le _ _) (Nat.sub_le _ _) ?_
              exact W.vret hx hb hr (fun t ht hW => ⟨⟨(V98, L, Z), rfl, ⟨hMV98, agV98, rfl, zoZ, rp103⟩, ⟨by rw [ht]; exact hP, va_K.moved hW.alike hK, hD⟩, by rw [ht]; exact kr1, by rw [ht]; exact kr2⟩, hS.F ht⟩) hS.2.2 dX5_seek_167
            · skip
              have f104 : z85.toInt ≠ 0 := b_neq rfl (by decide) c90
              refine lv_aload_n hx hb dX5_seek_151 rfl (lv_at hl 3 rfl) ?_
              refine lv_iload hx hb dX5_seek_152 (lv_at hl 0 rfl) ?_
              refine gA_void (gA_runV (As := [.int z79]) (rest := []) (ci := 5) (q0 := 5) hx hb hml hown hg hP hD hK hS hA hnw hgk (x_answerWith2 l D ks H.size ad kk V L Z z79 hMV ) w1304 w1306 w49 w171 w1307 rfl xgMachine hdV_yX5_answerWith ⟨Nat.le_of_ble_eq_true rfl, Nat.le_of_ble_eq_true rfl⟩ rfl hl.1 rfl (Nat.le_of_ble_eq_true rfl) dX5_seek_154 ⟨z0, z0⟩) hP hD hK hS hA (fun u106 H locs w107 hP hD hK hS => ?_)
              obtain ⟨V110, L111⟩ := u106
              obtain ⟨hMV110, ajV110, axL111, t108, t109⟩ := w107
              have axL111 : L = L111 := Eq.symm axL111
              subst axL111
              have hP : va_P D vwCl (xw ad kk V110 L Z) H := hP
              have hD : va_D A (xw ad kk V110 L Z) := hD
              have hMV110 : rgd bX V110 := hMV110
              have ajV110 : agr [(5, 9), (5, 10)] [] V V110 := ajV110
              have agV110 : agr [(3, 13), (5, 6), (5, 9), (5, 10), (5, 11), (5, 12), (5, 13), (5, 14)] [25, 26, 27, 28, 30, 67, 68, 69, 70, 71, 72, 73, 74, 75, 76, 77, 78, 79, 80, 81, 82, 83, 84, 85] V V110 := agV.tr ajV110 (by decide) (by decide)
              have t108 : (V110 5 9).toInt = 1 := t108
              have t109 : (V110 5 10).toInt = z79.toInt := t109
              have r112 : 0 ≤ ((V110 5 9)).toInt ∧ ((V110 5 9)).toInt ≤ 3 := hMV110 5 9
              refine lv_goto (tgt := 167) hx hb dX5_seek_157 (by decide) ?_
              have me113 : ME V V110 400 := (ME.tr ME.rf (ME.ag ajV110 (by decide)))
              have mt114 : MTw V110 Z b := MTw.me mt me113 (ajV110 5 6 rfl)
              have pq115 : (V110 3 13).toInt = ((V 3 13)).toInt := congrArg Int32.toInt (ajV110 3 13 rfl)
              have kn1 := i_clamp (x := z79) rfl (by first | exact om_eafa9039069c ((Imp.go t88 (imp_a (rgz85.1) (rgz85.2) (f104))).1) | first | omega | ((try (have i_t88 := Imp.go t88 (by omega))); (try (have i_t6 := Imp.go t6 (by omega))); (try (have i_t6 := Imp.go t6 (by omega))); (try (have i_t88 := Imp.go t88 (by omega))); omega))
              have kn2 := i_clamp (x := p0) rfl (by (first | exact om_50dfdfbb9dc6 kc13 | omega))
              have kn3 := i_clamp (x := z69) rfl (by (first | exact om_e3b1d6ac9ce8 rgz69.1 f73 | omega))
              have hpt := (mup.2.2.2.2.2.2.2.1 (24 * Int32.toNatClampNeg z69 + Int32.toNatClampNeg p0) (by omega)).2 (Int32.toNatClampNeg z79) (by rw [← t82]; omega)
              have kn4 := i_clamp (x := V 26 (Int32.toNatClampNeg z79)) rfl (by omega)
              have hcl : Int32.toNatClampNeg (V 26 (Int32.toNatClampNeg z79)) = Int32.toNatClampNeg p0 := by omega
              have nn : NN V110 b := ⟨(Int32.toNatClampNeg z79), by first | omega | ((try (have i_t88 := Imp.go t88 (by omega))); (try (have i_t6 := Imp.go t6 (by omega))); (try (have i_t6 := Imp.go t6 (by omega))); (try (have i_t88 := Imp.go t88 (by omega))); omega), by first | omega | ((try (have i_t88 := Imp.go t88 (by omega))); (try (have i_t6 := Imp.go t6 (by omega))); (try (have i_t6 := Imp.go t6 (by omega))); (try (have i_t88 := Imp.go t88 (by omega))); omega), by rw [(ajV110 26 (Int32.toNatClampNeg z79) rfl), hcl, (ajV110 51 (24 * b + Int32.toNatClampNeg p0) rfl)]; omega⟩
              have rp116 : MJ V110 Z b := MTw.mj mt114 (fun q => q.2 nn)
              refine W.know (fun kr1 kr2 => ?_)
              refine W.widen (k := zcc Z) (n := zss Z) (Nat.sub_le _ _) (Nat.sub_le _ _) ?_
              exact W.vret hx hb hr (fun t ht hW => ⟨⟨(V110, L, Z), rfl, ⟨hMV110, agV110, rfl, zoZ, rp116⟩, ⟨by rw [ht]; exact hP, va_K.moved hW.alike hK, hD⟩, by rw [ht]; exact kr1, by rw [ht]; exact kr2⟩, hS.F ht⟩) hS.2.2 dX5_seek_167
          · skip
            have f117 : z79.toInt = (-1) := b_eq rfl (by decide) c83
            refine lv_aload_n hx hb dX5_seek_126 rfl (lv_at hl 3 rfl) ?_
            refine lv_iload_n hx hb dX5_seek_127 rfl (lv_at hl 4 rfl) ?_
            refine lv_iload hx hb dX5_seek_128 (lv_at hl 1 rfl) ?_
            refine lv_iload_n hx hb dX5_seek_130 rfl (lv_at hl 6 rfl) ?_
            refine lv_iload hx hb dX5_seek_131 (lv_at hl 2 rfl) ?_
            have r118 : Int32.toInt 1 = 1 := by decide
            refine W.know (fun k120 k121 => ?_)
            obtain ⟨Hk119, hHk119⟩ : ∃ z, z = H := ⟨_, rfl⟩
            have k120 : Hk119.size ≤ s.heap.size + (zcc Z - zcc Z) := by rw [hHk119]; exact k120
            have k121 : tot Hk119 ≤ tot s.heap + (zss Z - zss Z) := by rw [hHk119]; exact k121
            refine gZ_void (gA_runV (As := [.int p0, .int z69, .int p2, .int 1]) (rest := []) (ci := 5) (q0 := 5) hx hb hml hown hg hP hD hK hS hA hnw hgk (x_beginMaking l D ks H.size ad kk V L Z p0 z69 p2 1 (b) hMV (by first | exact om_bf3d98df3a8e r10.2 r11 ((Imp.go t6 (imp_a (rgz3.1) (rgz3.2) (f8))).1) ((Imp.go t6 (imp_a (rgz3.1) (rgz3.2) (f8))).2) | first | omega | ((try (have i_t6 := Imp.go t6 (by omega))); omega)) (by first | exact om_8305e47bdc88 rgz69.1 rgz69.2 f73 | first | omega | ((try (have i_t6 := Imp.go t6 (by omega))); omega)) (by decide) (show b < 2 from by first | exact om_f940a4667dd6 hb2 | first | omega | ((try (have i_t6 := Imp.go t6 (by omega))); omega)) mt (show p0.toInt < (V 43 (5 * b + 2)).toInt from by first | exact om_0e9116797efb ((Imp.go t6 (imp_a (rgz3.1) (rgz3.2) (f8))).2) | first | omega | ((try (have i_t6 := Imp.go t6 (by omega))); omega))) w1277 w1279 w47 w171 w1280 rfl xgMachine hdV_yX5_beginMaking ⟨Nat.le_of_ble_eq_true rfl, Nat.le_of_ble_eq_true rfl⟩ rfl hl.1 rfl (Nat.le_of_ble_eq_true rfl) dX5_seek_133 ⟨z1 zoZ.1, z1 zoZ.2.1⟩) hD hS hA (fun u123 H locs w124 hP hD hK hS y125 y126 => ?_)
            obtain ⟨V127, L128, Z129⟩ := u123
            obtain ⟨hMV127, ajV127, axL128, zlZ129, t131⟩ := w124
            have axL128 : L = L128 := Eq.symm axL128
            subst axL128
            have hP : va_P D vwCl (xw ad kk V127 L Z129) H := hP
            have hD : va_D A (xw ad kk V127 L Z129) := hD
            have hK : va_K D vwCl (xty kk Z129) s := hK
            have hMV127 : rgd bX V127 := hMV127
            have ajV127 : agr [(3, 13), (5, 6), (5, 9), (5, 11), (5, 12), (5, 13), (5, 14)] [25, 26, 27, 28, 30, 67, 68, 69, 70, 71, 72, 73, 74, 75, 76, 77, 78, 79, 80, 81, 82, 83, 84, 85] V V127 := ajV127
            have agV127 : agr [(3, 13), (5, 6), (5, 9), (5, 10), (5, 11), (5, 12), (5, 13), (5, 14)] [25, 26, 27, 28, 30, 67, 68, 69, 70, 71, 72, 73, 74, 75, 76, 77, 78, 79, 80, 81, 82, 83, 84, 85] V V127 := agV.tr ajV127 (by decide) (by decide)
            have zlZ129 : ZL Z Z129 := zlZ129
            have zoZ129 : ZL Z Z129 := ZL.tr zoZ zlZ129
            have ziZ129 := zlZ129.1
            have zjZ129 := zlZ129.2.1
            have zkZ129 := zlZ129.2.2.1
            have zmZ129 := zoZ129.1
            have znZ129 := zoZ129.2.1
            have zpZ_Z129 := zoZ.1
            have zqZ_Z129 := zoZ.2.1
            have y125 : H.size ≤ Hk119.size + (zcc Z - zcc Z129) := by rw [hHk119]; exact y125
            have y126 : tot H ≤ tot Hk119 + (zss Z - zss Z129) := by rw [hHk119]; exact y126
            refine W.tight (k := zcc Z - zcc Z129) (n := zss Z - zss Z129) (by first | exact tg9 y125 k120 zlZ129.1 zoZ.1 | omega) (by first | exact tg9 y126 k121 zlZ129.2.1 zoZ.2.1 | omega) ?_
            have t131 : MJ V127 Z129 b := t131
            refine lv_goto (tgt := 167) hx hb dX5_seek_136 (by decide) ?_
            refine W.know (fun kr1 kr2 => ?_)
            refine W.widen (k := zcc Z) (n := zss Z) (Nat.sub_le _ _) (Nat.sub_le _ _) ?_
            exact W.vret hx hb hr (fun t ht hW => ⟨⟨(V127, L, Z129), rfl, ⟨hMV127, agV127, rfl, zoZ129, t131⟩, ⟨by rw [ht]; exact hP, va_K.moved hW.alike hK, hD⟩, by rw [ht]; exact kr1, by rw [ht]; exact kr2⟩, hS.F ht⟩) hS.2.2 dX5_seek_167
        · skip
          have f132 : z74.toInt ≠ 0 := b_neq rfl (by decide) c77
          refine lv_aload_n hx hb dX5_seek_91 rfl (lv_at hl 2 rfl) ?_
          refine lv_iconst (v := 0) hx hb dX5_seek_92 (by decide) ?_
          refine lv_bipush (v := 15) hx hb dX5_seek_93 (by decide) ?_
          have r133 : Int32.toInt 0 = 0 := by decide
          have r134 : Int32.toInt 15 = 15 := by decide
          refine gA_void (gA_runV (As := [.int 0, .int 15]) (rest := []) (ci := 5) (q0 := 5) hx hb hml hown hg hP hD hK hS hA hnw hgk (x_failWith l D ks H.size ad kk V L Z 0 15 hMV ) w1261 w1263 w46 w171 w1264 rfl xgMachine hdV_yX5_failWith ⟨Nat.le_of_ble_eq_true rfl, Nat.le_of_ble_eq_true rfl⟩ rfl hl.1 rfl (Nat.le_of_ble_eq_true rfl) dX5_seek_95 ⟨z0, z0⟩) hP hD hK hS hA (fun u136 H locs w137 hP hD hK hS => ?_)
          obtain ⟨V139, L140⟩ := u136
          obtain ⟨hMV139, ajV139, axL140, t138⟩ := w137
          have axL140 : L = L140 := Eq.symm axL140
          subst axL140
          have hP : va_P D vwCl (xw ad kk V139 L Z) H := hP
          have hD : va_D A (xw ad kk V139 L Z) := hD
          have hMV139 : rgd bX V139 := hMV139
          have ajV139 : agr [(5, 9), (5, 11), (5, 12)] [] V V139 := ajV139
          have agV139 : agr [(3, 13), (5, 6), (5, 9), (5, 10), (5, 11), (5, 12), (5, 13), (5, 14)] [25, 26, 27, 28, 30, 67, 68, 69, 70, 71, 72, 73, 74, 75, 76, 77, 78, 79, 80, 81, 82, 83, 84, 85] V V139 := agV.tr ajV139 (by decide) (by decide)
          have t138 : (V139 5 9).toInt = 2 := t138
          have r141 : 0 ≤ ((V139 5 9)).toInt ∧ ((V139 5 9)).toInt ≤ 3 := hMV139 5 9
          have me142 : ME V V139 400 := (ME.tr ME.rf (ME.ag ajV139 (by decide)))
          have mt143 : MTw V139 Z b := MTw.me mt me142 (ajV139 5 6 rfl)
          have rp144 : MJ V139 Z b := MTw.mj mt143 (fun q => absurd q.1 (by omega))
          refine W.know (fun kr1 kr2 => ?_)
          refine W.widen (k := zcc Z) (n := zss Z) (Nat.sub_le _ _) (Nat.sub_le _ _) ?_
          exact W.vret hx hb hr (fun t ht hW => ⟨⟨(V139, L, Z), rfl, ⟨hMV139, agV139, rfl, zoZ, rp144⟩, ⟨by rw [ht]; exact hP, va_K.moved hW.alike hK, hD⟩, by rw [ht]; exact kr1, by rw [ht]; exact kr2⟩, hS.F ht⟩) hS.2.2 dX5_seek_98
      · skip
        have f145 : z69.toInt = (-1) := b_eq rfl (by decide) c72
        refine lv_aload_n hx hb dX5_seek_70 rfl (lv_at hl 2 rfl) ?_
        refine lv_iconst (v := 0) hx hb dX5_seek_71 (by decide) ?_
        refine lv_bipush (v := 14) hx hb dX5_seek_72 (by decide) ?_
        have r146 : Int32.toInt 0 = 0 := by decide
        have r147 : Int32.toInt 14 = 14 := by decide
        refine gA_void (gA_runV (As := [.int 0, .int 14]) (rest := []) (ci := 5) (q0 := 5) hx hb hml hown hg hP hD hK hS hA hnw hgk (x_failWith l D ks H.size ad kk V L Z 0 14 hMV ) w1261 w1263 w46 w171 w1264 rfl xgMachine hdV_yX5_failWith ⟨Nat.le_of_ble_eq_true rfl, Nat.le_of_ble_eq_true rfl⟩ rfl hl.1 rfl (Nat.le_of_ble_eq_true rfl) dX5_seek_74 ⟨z0, z0⟩) hP hD hK hS hA (fun u149 H locs w150 hP hD hK hS => ?_)
        obtain ⟨V152, L153⟩ := u149
        obtain ⟨hMV152, ajV152, axL153, t151⟩ := w150
        have axL153 : L = L153 := Eq.symm axL153
        subst axL153
        have hP : va_P D vwCl (xw ad kk V152 L Z) H := hP
        have hD : va_D A (xw ad kk V152 L Z) := hD
        have hMV152 : rgd bX V152 := hMV152
        have ajV152 : agr [(5, 9), (5, 11), (5, 12)] [] V V152 := ajV152
        have agV152 : agr [(3, 13), (5, 6), (5, 9), (5, 10), (5, 11), (5, 12), (5, 13), (5, 14)] [25, 26, 27, 28, 30, 67, 68, 69, 70, 71, 72, 73, 74, 75, 76, 77, 78, 79, 80, 81, 82, 83, 84, 85] V V152 := agV.tr ajV152 (by decide) (by decide)
        have t151 : (V152 5 9).toInt = 2 := t151
        have r154 : 0 ≤ ((V152 5 9)).toInt ∧ ((V152 5 9)).toInt ≤ 3 := hMV152 5 9
        have me155 : ME V V152 400 := (ME.tr ME.rf (ME.ag ajV152 (by decide)))
        have mt156 : MTw V152 Z b := MTw.me mt me155 (ajV152 5 6 rfl)
        have rp157 : MJ V152 Z b := MTw.mj mt156 (fun q => absurd q.1 (by omega))
        refine W.know (fun kr1 kr2 => ?_)
        refine W.widen (k := zcc Z) (n := zss Z) (Nat.sub_le _ _) (Nat.sub_le _ _) ?_
        exact W.vret hx hb hr (fun t ht hW => ⟨⟨(V152, L, Z), rfl, ⟨hMV152, agV152, rfl, zoZ, rp157⟩, ⟨by rw [ht]; exact hP, va_K.moved hW.alike hK, hD⟩, by rw [ht]; exact kr1, by rw [ht]; exact kr2⟩, hS.F ht⟩) hS.2.2 dX5_seek_77
  · skip
    have f158 : z3.toInt = 0 := b_eq rfl (by decide) c7
    refine lv_aload_n hx hb dX5_seek_11 rfl (lv_at hl 0 rfl) ?_
    refine lv_iconst (v := 0) hx hb dX5_seek_12 (by decide) ?_
    refine lv_bipush (v := 14) hx hb dX5_seek_13 (by decide) ?_
    have r159 : Int32.toInt 0 = 0 := by decide
    have r160 : Int32.toInt 14 = 14 := by decide
    refine gA_void (gA_runV (As := [.int 0, .int 14]) (rest := []) (ci := 5) (q0 := 5) hx hb hml hown hg hP hD hK hS hA hnw hgk (x_failWith l D ks H.size ad kk V L Z 0 14 hMV ) w1261 w1263 w46 w171 w1264 rfl xgMachine hdV_yX5_failWith ⟨Nat.le_of_ble_eq_true rfl, Nat.le_of_ble_eq_true rfl⟩ rfl hl.1 rfl (Nat.le_of_ble_eq_true rfl) dX5_seek_15 ⟨z0, z0⟩) hP hD hK hS hA (fun u162 H locs w163 hP hD hK hS => ?_)
    obtain ⟨V165, L166⟩ := u162
    obtain ⟨hMV165, ajV165, axL166, t164⟩ := w163
    have axL166 : L = L166 := Eq.symm axL166
    subst axL166
    have hP : va_P D vwCl (xw ad kk V165 L Z) H := hP
    have hD : va_D A (xw ad kk V165 L Z) := hD
    have hMV165 : rgd bX V165 := hMV165
    have ajV165 : agr [(5, 9), (5, 11), (5, 12)] [] V V165 := ajV165
    have agV165 : agr [(3, 13), (5, 6), (5, 9), (5, 10), (5, 11), (5, 12), (5, 13), (5, 14)] [25, 26, 27, 28, 30, 67, 68, 69, 70, 71, 72, 73, 74, 75, 76, 77, 78, 79, 80, 81, 82, 83, 84, 85] V V165 := agV.tr ajV165 (by decide) (by decide)
    have t164 : (V165 5 9).toInt = 2 := t164
    have r167 : 0 ≤ ((V165 5 9)).toInt ∧ ((V165 5 9)).toInt ≤ 3 := hMV165 5 9
    have me168 : ME V V165 400 := (ME.tr ME.rf (ME.ag ajV165 (by decide)))
    have mt169 : MTw V165 Z b := MTw.me mt me168 (ajV165 5 6 rfl)
    have rp170 : MJ V165 Z b := MTw.mj mt169 (fun q => absurd q.1 (by omega))
    refine W.know (fun kr1 kr2 => ?_)
    refine W.widen (k := zcc Z) (n := zss Z) (Nat.sub_le _ _) (Nat.sub_le _ _) ?_
    exact W.vret hx hb hr (fun t ht hW => ⟨⟨(V165, L, Z), rfl, ⟨hMV165, agV165, rfl, zoZ, rp170⟩, ⟨by rw [ht]; exact hP, va_K.moved hW.alike hK, hD⟩, by rw [ht]; exact kr1, by rw [ht]; exact kr2⟩, hS.F ht⟩) hS.2.2 dX5_seek_18
abbrev r_x_undoNext (Z : XZ) : Room := { frames := 4, cells := zcc Z, slots := zss Z, locals := 88 }
abbrev q_x_undoNext (D : va_G) (ks : KS) (ad : Nat → Nat) (kk : Nat → ClassId) (V : Vf) (L : Lf) (Z : XZ) (b : Nat) (gf : Nat) (A : Nat → Prop) : Array Value → State → Outcome → State → Prop := qZv D (fun (u : Vf × Lf × XZ) => rgd bX u.1 ∧ agr [(5, 6), (5, 8), (5, 9), (5, 11), (5, 12)] [67, 68, 69, 70, 71, 72, 73, 74, 75, 76, 77, 78, 79, 80, 81, 82, 83, 84, 85] V u.1 ∧ u.2.1 = L ∧ ZL Z u.2.2 ∧ (MJ u.1 u.2.2 b)) (fun u => xw ad kk u.1 u.2.1 u.2.2) (fun u => xty kk u.2.2) (fun u => zcc Z - zcc u.2.2) (fun u => zss Z - zss u.2.2) A
set_option maxHeartbeats 4000000 in
set_option maxRecDepth 100000 in
theorem x_undoNext (l : Launch) (D : va_G) (ks : KS) (sz : Nat) (ad : Nat → Nat) (kk : Nat → ClassId) (V : Vf) (L : Lf) (Z : XZ) (b : Nat) (gf : Nat) (hMV : rgd bX V) (hb2 : b < 2) (hgf : gf < Z.nf) (mo : MO V Z b gf True True False) (gd : (gf : Int) + 1 = (V 5 6).toInt) (gk : (V 67 gf).toInt = 0)  : Met l yX5_undoNext (Cond.code yX5_undoNext cX5_undoNext 2 none :: GW) (r_x_undoNext Z) (va_Pc [.ref (ad 5), .ref (Z.fa gf)] (gp D ks (xw ad kk V L Z) (xty kk Z) sz)) (q_x_undoNext D ks ad kk V L Z  b gf (va_A (xw ad kk V L Z) sz)) (zcc Z) (zss Z) (va_A (xw ad kk V L Z) sz) := by
  refine g_met (q_x_undoNext D ks ad kk V L Z  b gf) (by decide) (Nat.le_of_ble_eq_true rfl) ?_
  intro p e s m below meth c A ls H locs hx hb hr hml hown hg hlocks hin hnw hgk hP hK hD hS hA hl
  have hown : s.vm.findClass RX5 = some m.cls := hown
  have hl : lv_has ls 2 [(0, .ref (ad 5)), (1, .ref (Z.fa gf))] := hl
  have hP : va_P D vwCl (xw ad kk V L Z) H := hP
  have hD : va_D A (xw ad kk V L Z) := hD
  have hK : va_K D vwCl (xty kk Z) s := hK
  have agV : agr [(5, 6), (5, 8), (5, 9), (5, 11), (5, 12)] [67, 68, 69, 70, 71, 72, 73, 74, 75, 76, 77, 78, 79, 80, 81, 82, 83, 84, 85] V V := agr.rf
  have zoZ : ZL Z Z := ZL.rf
  refine W.know (fun ka kb => ?_)
  refine W.tight (k := zcc Z - zcc Z) (n := zss Z - zss Z) (by omega) (by omega) ?_
  have r1 : 0 ≤ ((V 5 6)).toInt ∧ ((V 5 6)).toInt ≤ 400 := hMV 5 6
  have kdp := i_clamp (x := V 5 6) rfl (by (first | exact om_c66f1b494bd9 gd | omega))
  have hdn : (gf : Int) + 1 ≤ (Z.nf : Int) := by (first | exact om_29efded833ec hgf | omega)
  have mup := MO.up mo
  have msz := mup.1
  have mbk := mup.2.2.2.1
  obtain ⟨xk, fk⟩ := MO.fk mo
  have r2 : (-1) ≤ ((V 71 gf)).toInt ∧ ((V 71 gf)).toInt ≤ 23 := hMV 71 gf
  have r3 : 0 ≤ ((V 75 gf)).toInt ∧ ((V 75 gf)).toInt ≤ 12 := hMV 75 gf
  have r4 : 0 ≤ ((V 80 gf)).toInt ∧ ((V 80 gf)).toInt ≤ 300 := hMV 80 gf
  have r5 : 0 ≤ ((V 84 gf)).toInt ∧ ((V 84 gf)).toInt ≤ 2147483647 := hMV 84 gf
  have r6 : 0 ≤ ((V 5 8)).toInt ∧ ((V 5 8)).toInt ≤ 300 := hMV 5 8
  have r7 : 0 ≤ ((V 5 9)).toInt ∧ ((V 5 9)).toInt ≤ 3 := hMV 5 9
  have r8 : 0 ≤ ((V 3 13)).toInt ∧ ((V 3 13)).toInt ≤ 300 := hMV 3 13
  have r9 : 0 ≤ ((V 43 (5 * b + 2))).toInt ∧ ((V 43 (5 * b + 2))).toInt ≤ ((xcap (5 * b + 2) : Nat) : Int) := hMV 43 (5 * b + 2)
  have r10 : xcap (5 * b + 2) = 24 := xcap_2
  have r11 : 0 ≤ ((V 41 b)).toInt ∧ ((V 41 b)).toInt ≤ 12 := hMV 41 b
  have r12 : 0 ≤ ((V 42 b)).toInt ∧ ((V 42 b)).toInt ≤ 8200 := hMV 42 b
  have fm := fk.2.2.2.2.2.2.1 (by omega)
  refine lv_aload_n hx hb dX5_undoNext_0 rfl (lv_at hl 0 rfl) ?_
  refine va_get (D := D) (ci := 5) (v := .int (V 5 8)) (fs := (xfMachine ad V L Z)) (C := RX5) (T := TX5) (N := 15) hx hb hg inX5 hown hK hP 5 xgMachine rfl 8 (by decide) (hg _ w675) (fun _ h9 => h9) rfl dX5_undoNext_1 ?_
  refine lv_aload_n hx hb dX5_undoNext_4 rfl (lv_at hl 1 rfl) ?_
  refine va_getN (D := D) (ci := 4) (v := .int (V 80 gf)) (fs := (xfFrame V gf)) (C := RX4) (T := TX4) (N := 19) hx hb hg inX4 hown hK hP (336 + gf) (xgFrame hgf) rfl 13 (by decide) (hnw.use 1202 n1202 rfl) (fun _ h9 => h9) rfl dX5_undoNext_5 ?_
  refine lv_icmp_le (tgt := 39) hx hb dX5_undoNext_8 (by decide) (fun c13 => ?_) (fun c13 => ?_)
  · skip
    have f14 : ((V 5 8)).toInt ≤ ((V 80 gf)).toInt := b_le rfl rfl c13
    refine lv_aload_n hx hb dX5_undoNext_39 rfl (lv_at hl 0 rfl) ?_
    refine lv_aload_n hx hb dX5_undoNext_40 rfl (lv_at hl 1 rfl) ?_
    refine va_getN (D := D) (ci := 4) (v := .int (V 81 gf)) (fs := (xfFrame V gf)) (C := RX4) (T := TX4) (N := 19) hx hb hg inX4 hown hK hP (336 + gf) (xgFrame hgf) rfl 14 (by decide) (hnw.use 1203 n1203 rfl) (fun _ h9 => h9) rfl dX5_undoNext_41 ?_
    refine lv_aload_n hx hb dX5_undoNext_44 rfl (lv_at hl 1 rfl) ?_
    refine va_getN (D := D) (ci := 4) (v := .int (V 82 gf)) (fs := (xfFrame V gf)) (C := RX4) (T := TX4) (N := 19) hx hb hg inX4 hown hK hP (336 + gf) (xgFrame hgf) rfl 15 (by decide) (hnw.use 1204 n1204 rfl) (fun _ h9 => h9) rfl dX5_undoNext_45 ?_
    refine gA_void (gA_runV (As := [.int (V 81 gf), .int (V 82 gf)]) (rest := []) (ci := 5) (q0 := 5) hx hb hml hown hg hP hD hK hS hA hnw hgk (x_failWith l D ks H.size ad kk V L Z (V 81 gf) (V 82 gf) hMV ) w1261 w1263 w46 w171 w1264 rfl xgMachine hdV_yX5_failWith ⟨Nat.le_of_ble_eq_true rfl, Nat.le_of_ble_eq_true rfl⟩ rfl hl.1 rfl (Nat.le_of_ble_eq_true rfl) dX5_undoNext_48 ⟨z0, z0⟩) hP hD hK hS hA (fun u16 H locs w17 hP hD hK hS => ?_)
    obtain ⟨V19, L20⟩ := u16
    obtain ⟨hMV19, ajV19, axL20, t18⟩ := w17
    have axL20 : L = L20 := Eq.symm axL20
    subst axL20
    have hP : va_P D vwCl (xw ad kk V19 L Z) H := hP
    have hD : va_D A (xw ad kk V19 L Z) := hD
    have hMV19 : rgd bX V19 := hMV19
    have ajV19 : agr [(5, 9), (5, 11), (5, 12)] [] V V19 := ajV19
    have agV19 : agr [(5, 6), (5, 8), (5, 9), (5, 11), (5, 12)] [67, 68, 69, 70, 71, 72, 73, 74, 75, 76, 77, 78, 79, 80, 81, 82, 83, 84, 85] V V19 := agV.tr ajV19 (by decide) (by decide)
    have t18 : (V19 5 9).toInt = 2 := t18
    have r21 : 0 ≤ ((V19 5 9)).toInt ∧ ((V19 5 9)).toInt ≤ 3 := hMV19 5 9
    refine lv_aload_n hx hb dX5_undoNext_51 rfl (lv_at hl 1 rfl) ?_
    refine va_getN (D := D) (ci := 4) (v := .int (V19 83 gf)) (fs := (xfFrame V19 gf)) (C := RX4) (T := TX4) (N := 19) hx hb hg inX4 hown hK hP (336 + gf) (xgFrame hgf) rfl 16 (by decide) (hnw.use 1205 n1205 rfl) (fun _ h9 => h9) rfl dX5_undoNext_52 ?_
    refine g_top (v := (V 83 gf)) (ajV19 83 gf rfl) ?_
    have r22 : 0 ≤ ((V 83 gf)).toInt ∧ ((V 83 gf)).toInt ≤ 1 := hMV 83 gf
    refine lv_if_eq (tgt := 63) hx hb dX5_undoNext_55 (by decide) (fun c23 => ?_) (fun c23 => ?_)
    · skip
      have f24 : ((V 83 gf)).toInt = 0 := b_eq rfl (by decide) c23
      refine lv_aload_n hx hb dX5_undoNext_63 rfl (lv_at hl 0 rfl) ?_
      have pq25 : (V19 5 6).toInt = ((V 5 6)).toInt := congrArg Int32.toInt (ajV19 5 6 rfl)
      refine gA_void (gA_runV (As := []) (rest := []) (ci := 5) (q0 := 5) hx hb hml hown hg hP hD hK hS hA hnw hgk (x_leave l D ks H.size ad kk V19 L Z  hMV19 (show 1 ≤ (V19 5 6).toInt from by (first | exact om_0cac171fa40c gd pq25 | omega))) w1308 w1310 w50 w171 w1311 rfl xgMachine hdV_yX5_leave ⟨Nat.le_of_ble_eq_true rfl, Nat.le_of_ble_eq_true rfl⟩ rfl hl.1 rfl (Nat.le_of_ble_eq_true rfl) dX5_undoNext_64 ⟨z0, z0⟩) hP hD hK hS hA (fun u27 H locs w28 hP hD hK hS => ?_)
      obtain ⟨V30, L31⟩ := u27
      obtain ⟨hMV30, ajV30, axL31, t29⟩ := w28
      have axL31 : L = L31 := Eq.symm axL31
      subst axL31
      have hP : va_P D vwCl (xw ad kk V30 L Z) H := hP
      have hD : va_D A (xw ad kk V30 L Z) := hD
      have hMV30 : rgd bX V30 := hMV30
      have ajV30 : agr [(5, 6)] [] V19 V30 := ajV30
      have agV30 : agr [(5, 6), (5, 8), (5, 9), (5, 11), (5, 12)] [67, 68, 69, 70, 71, 72, 73, 74, 75, 76, 77, 78, 79, 80, 81, 82, 83, 84, 85] V V30 := agV19.tr ajV30 (by decide) (by decide)
      have t29 : (V30 5 6).toInt = (V19 5 6).toInt - 1 := t29
      have r32 : 0 ≤ ((V30 5 6)).toInt ∧ ((V30 5 6)).toInt ≤ 400 := hMV30 5 6
      have me33 : ME V V30 gf := (ME.tr (ME.tr ME.rf (ME.ag ajV19 (by decide))) (ME.ag ajV30 (by decide)))
      have pq34 : (V30 67 gf).toInt = ((V 67 gf)).toInt := congrArg Int32.toInt ((ajV30 67 gf rfl).trans (ajV19 67 gf rfl))
      have pq35 : (V30 68 gf).toInt = ((V 68 gf)).toInt := congrArg Int32.toInt ((ajV30 68 gf rfl).trans (ajV19 68 gf rfl))
      have pq36 : (V30 70 gf).toInt = ((V 70 gf)).toInt := congrArg Int32.toInt ((ajV30 70 gf rfl).trans (ajV19 70 gf rfl))
      have pq37 : (V30 71 gf).toInt = ((V 71 gf)).toInt := congrArg Int32.toInt ((ajV30 71 gf rfl).trans (ajV19 71 gf rfl))
      have pq38 : (V30 75 gf).toInt = ((V 75 gf)).toInt := congrArg Int32.toInt ((ajV30 75 gf rfl).trans (ajV19 75 gf rfl))
      have pq39 : (V30 76 gf).toInt = ((V 76 gf)).toInt := congrArg Int32.toInt ((ajV30 76 gf rfl).trans (ajV19 76 gf rfl))
      have pq40 : (V30 80 gf).toInt = ((V 80 gf)).toInt := congrArg Int32.toInt ((ajV30 80 gf rfl).trans (ajV19 80 gf rfl))
      have pq41 : (V30 84 gf).toInt = ((V 84 gf)).toInt := congrArg Int32.toInt ((ajV30 84 gf rfl).trans (ajV19 84 gf rfl))
      have pq42 : (V30 5 8).toInt = ((V 5 8)).toInt := congrArg Int32.toInt ((ajV30 5 8 rfl).trans (ajV19 5 8 rfl))
      have pq43 : (V30 5 9).toInt = ((V19 5 9)).toInt := congrArg Int32.toInt (ajV30 5 9 rfl)
      have pq44 : (V30 3 13).toInt = ((V 3 13)).toInt := congrArg Int32.toInt ((ajV30 3 13 rfl).trans (ajV19 3 13 rfl))
      have pq45 : (V30 43 (5 * b + 2)).toInt = ((V 43 (5 * b + 2))).toInt := congrArg Int32.toInt ((ajV30 43 (5 * b + 2) rfl).trans (ajV19 43 (5 * b + 2) rfl))
      have pq46 : (V30 42 b).toInt = ((V 42 b)).toInt := congrArg Int32.toInt ((ajV30 42 b rfl).trans (ajV19 42 b rfl))
      have pq47 : (V30 41 b).toInt = ((V 41 b)).toInt := congrArg Int32.toInt ((ajV30 41 b rfl).trans (ajV19 41 b rfl))
      have rp48 : MJ V30 Z b := MP.lv (MO.mp mo) me33 (by (first | exact om_5ac7632c8ef3 gd pq25 t29 | omega)) (fun z => absurd z.1 (by omega))
      refine W.know (fun kr1 kr2 => ?_)
      refine W.widen (k := zcc Z) (n := zss Z) (Nat.sub_le _ _) (Nat.sub_le _ _) ?_
      exact W.vret hx hb hr (fun t ht hW => ⟨⟨(V30, L, Z), rfl, ⟨hMV30, agV30, rfl, zoZ, rp48⟩, ⟨by rw [ht]; exact hP, va_K.moved hW.alike hK, hD⟩, by rw [ht]; exact kr1, by rw [ht]; exact kr2⟩, hS.F ht⟩) hS.2.2 dX5_undoNext_67
    · skip
      have f49 : ((V 83 gf)).toInt ≠ 0 := b_neq rfl (by decide) c23
      refine lv_aload_n hx hb dX5_undoNext_58 rfl (lv_at hl 0 rfl) ?_
      refine lv_iconst (v := 3) hx hb dX5_undoNext_59 (by decide) ?_
      refine va_put (D := D) (ci := 5) (v := .int 3) (ty := tyX5 9) (fs := (xfMachine ad V19 L Z)) (C := RX5) (T := TX5) (N := 15) hx hb hg inX5 tyX5 tyX5_ok nmX5 hown hK hP hD hS 5 xgMachine rfl 9 (by decide) (hg _ w676) (fun _ h9 => h9) rfl (tyX5_ok 9 (by decide)) rfl rfl (Nat.le_of_ble_eq_true rfl) dX5_undoNext_60 (fun H locs hP hD hS => ?_)
      obtain ⟨V50, hV50⟩ : ∃ z, z = up2 V19 5 9 3 := ⟨_, rfl⟩
      have ew51 : (xw ad kk V19 L Z).set 5 ((ad 5), .inr (5, (xfMachine ad V19 L Z).set 9 (.int 3))) = xw ad kk V50 L Z := by rw [hV50]; exact xw_ss (by decide) rfl (xb_si (by decide))
      have hP : va_P D vwCl (xw ad kk V50 L Z) H := by rw [← ew51]; exact hP
      have hD : va_D A (xw ad kk V50 L Z) := by rw [← ew51]; exact hD
      have hMV50 : rgd bX V50 := hMV19.put hV50 (by decide)
      have agV50 : agr [(5, 6), (5, 8), (5, 9), (5, 11), (5, 12)] [67, 68, 69, 70, 71, 72, 73, 74, 75, 76, 77, 78, 79, 80, 81, 82, 83, 84, 85] V V50 := agV19.up hV50 rfl
      refine lv_aload_n hx hb dX5_undoNext_63 rfl (lv_at hl 0 rfl) ?_
      have pq52 : (V50 5 6).toInt = ((V 5 6)).toInt := congrArg Int32.toInt ((up2_k hV50 (by decide)).trans (ajV19 5 6 rfl))
      refine gA_void (gA_runV (As := []) (rest := []) (ci := 5) (q0 := 5) hx hb hml hown hg hP hD hK hS hA hnw hgk (x_leave l D ks H.size ad kk V50 L Z  hMV50 (show 1 ≤ (V50 5 6).toInt from by (first | exact om_0cac171fa40c gd pq52 | omega))) w1308 w1310 w50 w171 w1311 rfl xgMachine hdV_yX5_leave ⟨Nat.le_of_ble_eq_true rfl, Nat.le_of_ble_eq_true rfl⟩ rfl hl.1 rfl (Nat.le_of_ble_eq_true rfl) dX5_undoNext_64 ⟨z0, z0⟩) hP hD hK hS hA (fun u54 H locs w55 hP hD hK hS => ?_)
      obtain ⟨V57, L58⟩ := u54
      obtain ⟨hMV57, ajV57, axL58, t56⟩ := w55
      have axL58 : L = L58 := Eq.symm axL58
      subst axL58
      have hP : va_P D vwCl (xw ad kk V57 L Z) H := hP
      have hD : va_D A (xw ad kk V57 L Z) := hD
      have hMV57 : rgd bX V57 := hMV57
      have ajV57 : agr [(5, 6)] [] V50 V57 := ajV57
      have agV57 : agr [(5, 6), (5, 8), (5, 9), (5, 11), (5, 12)] [67, 68, 69, 70, 71, 72, 73, 74, 75, 76, 77, 78, 79, 80, 81, 82, 83, 84, 85] V V57 := agV50.tr ajV57 (by decide) (by decide)
      have t56 : (V57 5 6).toInt = (V50 5 6).toInt - 1 := t56
      have r59 : 0 ≤ ((V57 5 6)).toInt ∧ ((V57 5 6)).toInt ≤ 400 := hMV57 5 6
      have me60 : ME V V57 gf := (ME.tr (ME.up (ME.tr ME.rf (ME.ag ajV19 (by decide))) hV50 (Or.inr (by omega))) (ME.ag ajV57 (by decide)))
      have pq61 : (V57 67 gf).toInt = ((V 67 gf)).toInt := congrArg Int32.toInt ((ajV57 67 gf rfl).trans ((up2_o hV50 (by decide)).trans (ajV19 67 gf rfl)))
      have pq62 : (V57 68 gf).toInt = ((V 68 gf)).toInt := congrArg Int32.toInt ((ajV57 68 gf rfl).trans ((up2_o hV50 (by decide)).trans (ajV19 68 gf rfl)))
      have pq63 : (V57 70 gf).toInt = ((V 70 gf)).toInt := congrArg Int32.toInt ((ajV57 70 gf rfl).trans ((up2_o hV50 (by decide)).trans (ajV19 70 gf rfl)))
      have pq64 : (V57 71 gf).toInt = ((V 71 gf)).toInt := congrArg Int32.toInt ((ajV57 71 gf rfl).trans ((up2_o hV50 (by decide)).trans (ajV19 71 gf rfl)))
      have pq65 : (V57 75 gf).toInt = ((V 75 gf)).toInt := congrArg Int32.toInt ((ajV57 75 gf rfl).trans ((up2_o hV50 (by decide)).trans (ajV19 75 gf rfl)))
      have pq66 : (V57 76 gf).toInt = ((V 76 gf)).toInt := congrArg Int32.toInt ((ajV57 76 gf rfl).trans ((up2_o hV50 (by decide)).trans (ajV19 76 gf rfl)))
      have pq67 : (V57 80 gf).toInt = ((V 80 gf)).toInt := congrArg Int32.toInt ((ajV57 80 gf rfl).trans ((up2_o hV50 (by decide)).trans (ajV19 80 gf rfl)))
      have pq68 : (V57 84 gf).toInt = ((V 84 gf)).toInt := congrArg Int32.toInt ((ajV57 84 gf rfl).trans ((up2_o hV50 (by decide)).trans (ajV19 84 gf rfl)))
      have pq69 : (V57 5 8).toInt = ((V 5 8)).toInt := congrArg Int32.toInt ((ajV57 5 8 rfl).trans ((up2_k hV50 (by decide)).trans (ajV19 5 8 rfl)))
      have pq70 : (V57 5 9).toInt = 3 := (congrArg Int32.toInt ((ajV57 5 9 rfl).trans (up2_s hV50))).trans (by decide)
      have pq71 : (V57 3 13).toInt = ((V 3 13)).toInt := congrArg Int32.toInt ((ajV57 3 13 rfl).trans ((up2_o hV50 (by decide)).trans (ajV19 3 13 rfl)))
      have pq72 : (V57 43 (5 * b + 2)).toInt = ((V 43 (5 * b + 2))).toInt := congrArg Int32.toInt ((ajV57 43 (5 * b + 2) rfl).trans ((up2_o hV50 (by decide)).trans (ajV19 43 (5 * b + 2) rfl)))
      have pq73 : (V57 42 b).toInt = ((V 42 b)).toInt := congrArg Int32.toInt ((ajV57 42 b rfl).trans ((up2_o hV50 (by decide)).trans (ajV19 42 b rfl)))
      have pq74 : (V57 41 b).toInt = ((V 41 b)).toInt := congrArg Int32.toInt ((ajV57 41 b rfl).trans ((up2_o hV50 (by decide)).trans (ajV19 41 b rfl)))
      have rp75 : MJ V57 Z b := MP.lv (MO.mp mo) me60 (by (first | exact om_5ac7632c8ef3 gd pq52 t56 | omega)) (fun z => absurd z.1 (by omega))
      refine W.know (fun kr1 kr2 => ?_)
      refine W.widen (k := zcc Z) (n := zss Z) (Nat.sub_le _ _) (Nat.sub_le _ _) ?_
      exact W.vret hx hb hr (fun t ht hW => ⟨⟨(V57, L, Z), rfl, ⟨hMV57, agV57, rfl, zoZ, rp75⟩, ⟨by rw [ht]; exact hP, va_K.moved hW.alike hK, hD⟩, by rw [ht]; exact kr1, by rw [ht]; exact kr2⟩, hS.F ht⟩) hS.2.2 dX5_undoNext_67
  · skip
    have f76 : ((V 80 gf)).toInt < ((V 5 8)).toInt := b_nle rfl rfl c13
    refine lv_aload_n hx hb dX5_undoNext_11 rfl (lv_at hl 0 rfl) ?_
    refine lv_dup hx hb dX5_undoNext_12 rfl ?_
    refine va_get (D := D) (ci := 5) (v := .int (V 5 8)) (fs := (xfMachine ad V L Z)) (C := RX5) (T := TX5) (N := 15) hx hb hg inX5 hown hK hP 5 xgMachine rfl 8 (by decide) (hg _ w675) (fun _ h9 => h9) rfl dX5_undoNext_13 ?_
    refine lv_iconst (v := 1) hx hb dX5_undoNext_16 (by decide) ?_
    refine lv_isub hx hb dX5_undoNext_17 ?_
    refine lv_topi (fun z77 ez77 => ?_)
    have hz77 : z77.toInt = ((V 5 8)).toInt - 1 := i_sub ez77 rfl (by decide) (by (first | exact om_0071aa0bd3eb r4.1 r6.2 f76 | omega))
    refine va_put (D := D) (ci := 5) (v := .int z77) (ty := tyX5 8) (fs := (xfMachine ad V L Z)) (C := RX5) (T := TX5) (N := 15) hx hb hg inX5 tyX5 tyX5_ok nmX5 hown hK hP hD hS 5 xgMachine rfl 8 (by decide) (hg _ w675) (fun _ h9 => h9) rfl (tyX5_ok 8 (by decide)) rfl rfl (Nat.le_of_ble_eq_true rfl) dX5_undoNext_18 (fun H locs hP hD hS => ?_)
    obtain ⟨V78, hV78⟩ : ∃ z, z = up2 V 5 8 z77 := ⟨_, rfl⟩
    have ew79 : (xw ad kk V L Z).set 5 ((ad 5), .inr (5, (xfMachine ad V L Z).set 8 (.int z77))) = xw ad kk V78 L Z := by rw [hV78]; exact xw_ss (by decide) rfl (xb_si (by decide))
    have hP : va_P D vwCl (xw ad kk V78 L Z) H := by rw [← ew79]; exact hP
    have hD : va_D A (xw ad kk V78 L Z) := by rw [← ew79]; exact hD
    have hMV78 : rgd bX V78 := hMV.put hV78 (show 0 ≤ z77.toInt ∧ z77.toInt ≤ 300 from by (first | exact om_e9f14a5a3424 r4.1 r6.2 f76 hz77 | omega))
    have agV78 : agr [(5, 6), (5, 8), (5, 9), (5, 11), (5, 12)] [67, 68, 69, 70, 71, 72, 73, 74, 75, 76, 77, 78, 79, 80, 81, 82, 83, 84, 85] V V78 := agV.up hV78 rfl
    have mo1 : MO V78 Z b gf True True True := MO.mcnt mo (by (first | exact om_b66ba74381d5 gk | omega)) hV78 (by (first | exact om_0a57524310d1 f76 hz77 | omega)) (by (first | exact om_bca2467e6779 hz77 | omega)) (by (first | exact om_e263b395d4ae r4.1 f76 hz77 | omega)) (fun _ => Or.inr (by omega))
    refine lv_aload_n hx hb dX5_undoNext_21 rfl (lv_at hl 0 rfl) ?_
    refine lv_aload_n hx hb dX5_undoNext_22 rfl (lv_at hl 0 rfl) ?_
    refine va_get (D := D) (ci := 5) (v := .ref (ad 37)) (fs := (xfMachine ad V78 L Z)) (C := RX5) (T := TX5) (N := 15) hx hb hg inX5 hown hK hP 5 xgMachine rfl 4 (by decide) (hg _ w671) (fun _ h9 => h9) rfl dX5_undoNext_23 ?_
    refine lv_aload_n hx hb dX5_undoNext_26 rfl (lv_at hl 0 rfl) ?_
    refine va_get (D := D) (ci := 5) (v := .int (V78 5 8)) (fs := (xfMachine ad V78 L Z)) (C := RX5) (T := TX5) (N := 15) hx hb hg inX5 hown hK hP 5 xgMachine rfl 8 (by decide) (hg _ w675) (fun _ h9 => h9) rfl dX5_undoNext_27 ?_
    refine g_top (v := z77) (up2_s hV78) ?_
    refine va_iald (D := D) (i := z77) hx hb hK hP 37 30 rfl rfl (i_in (a := z77.toInt) rfl (by (first | exact om_3cd57cc897e9 r4.1 r6.2 f76 hz77 | omega))) dX5_undoNext_30 ?_
    refine g_top (v := (V 40 (Int32.toNatClampNeg z77))) (up2_o hV78 (by decide)) ?_
    have r80 : 0 ≤ ((V 40 (Int32.toNatClampNeg z77))).toInt ∧ ((V 40 (Int32.toNatClampNeg z77))).toInt ≤ 299 := hMV 40 (Int32.toNatClampNeg z77)
    have kcm := i_clamp (x := z77) rfl (by (first | exact om_e263b395d4ae r4.1 f76 hz77 | omega))
    have hmd := mup.2.2.2.2.2.2.1 (Int32.toNatClampNeg z77) (by omega)
    refine lv_aload_n hx hb dX5_undoNext_31 rfl (lv_at hl 1 rfl) ?_
    refine va_getN (D := D) (ci := 4) (v := .int (V78 69 gf)) (fs := (xfFrame V78 gf)) (C := RX4) (T := TX4) (N := 19) hx hb hg inX4 hown hK hP (336 + gf) (xgFrame hgf) rfl 2 (by decide) (hnw.use 1191 n1191 rfl) (fun _ h9 => h9) rfl dX5_undoNext_32 ?_
    refine g_top (v := (V 69 gf)) (up2_o hV78 (by decide)) ?_
    have pq81 : (V78 3 13).toInt = ((V 3 13)).toInt := congrArg Int32.toInt (up2_o hV78 (by decide))
    have pq83 : (V78 5 6).toInt = ((V 5 6)).toInt := congrArg Int32.toInt (up2_k hV78 (by decide))
    have mt82 : MT V78 Z b := MO.mt mo1 (by (first | exact om_c09d41618ed8 hgf | omega)) (by (first | exact om_82fa09255765 gd pq83 | omega))
    refine W.know (fun k85 k86 => ?_)
    obtain ⟨Hk84, hHk84⟩ : ∃ z, z = H := ⟨_, rfl⟩
    have k85 : Hk84.size ≤ s.heap.size + (zcc Z - zcc Z) := by rw [hHk84]; exact k85
    have k86 : tot Hk84 ≤ tot s.heap + (zss Z - zss Z) := by rw [hHk84]; exact k86
    refine gZ_void (gA_runV (As := [.int (V 40 (Int32.toNatClampNeg z77)), .int (V 69 gf)]) (rest := []) (ci := 5) (q0 := 5) hx hb hml hown hg hP hD hK hS hA hnw hgk (x_pushClose l D ks H.size ad kk V78 L Z (V 40 (Int32.toNatClampNeg z77)) (V 69 gf) (b) hMV78 (by (first | exact om_cb67e99158ac r80.1 r80.2 | omega)) (show b < 2 from by (first | exact om_f940a4667dd6 hb2 | omega)) mt82 (show ((V 40 (Int32.toNatClampNeg z77))).toInt < (V78 3 13).toInt from by omega)) w1320 w1321 w1322 w171 w1323 rfl xgMachine hdV_yX5_pushClose ⟨Nat.le_of_ble_eq_true rfl, Nat.le_of_ble_eq_true rfl⟩ rfl hl.1 rfl (Nat.le_of_ble_eq_true rfl) dX5_undoNext_35 ⟨z1 zoZ.1, z1 zoZ.2.1⟩) hD hS hA (fun u88 H locs w89 hP hD hK hS y90 y91 => ?_)
    obtain ⟨V92, L93, Z94⟩ := u88
    obtain ⟨hMV92, ajV92, axL93, zlZ94, t96⟩ := w89
    have axL93 : L = L93 := Eq.symm axL93
    subst axL93
    have hP : va_P D vwCl (xw ad kk V92 L Z94) H := hP
    have hD : va_D A (xw ad kk V92 L Z94) := hD
    have hK : va_K D vwCl (xty kk Z94) s := hK
    have hMV92 : rgd bX V92 := hMV92
    have ajV92 : agr [(5, 6), (5, 9)] [67, 68, 69, 70, 71, 72, 73, 74, 75, 76, 77, 78, 79, 80, 81, 82, 83, 84, 85] V78 V92 := ajV92
    have agV92 : agr [(5, 6), (5, 8), (5, 9), (5, 11), (5, 12)] [67, 68, 69, 70, 71, 72, 73, 74, 75, 76, 77, 78, 79, 80, 81, 82, 83, 84, 85] V V92 := agV78.tr ajV92 (by decide) (by decide)
    have zlZ94 : ZL Z Z94 := zlZ94
    have zoZ94 : ZL Z Z94 := ZL.tr zoZ zlZ94
    have ziZ94 := zlZ94.1
    have zjZ94 := zlZ94.2.1
    have zkZ94 := zlZ94.2.2.1
    have zmZ94 := zoZ94.1
    have znZ94 := zoZ94.2.1
    have zpZ_Z94 := zoZ.1
    have zqZ_Z94 := zoZ.2.1
    have y90 : H.size ≤ Hk84.size + (zcc Z - zcc Z94) := by rw [hHk84]; exact y90
    have y91 : tot H ≤ tot Hk84 + (zss Z - zss Z94) := by rw [hHk84]; exact y91
    refine W.tight (k := zcc Z - zcc Z94) (n := zss Z - zss Z94) (by first | exact tg9 y90 k85 zlZ94.1 zoZ.1 | omega) (by first | exact tg9 y91 k86 zlZ94.2.1 zoZ.2.1 | omega) ?_
    have hl : lv_has ls 2 [(0, .ref (ad 5)), (1, .ref (Z94.fa gf))] := by rw [zlZ94.2.2.2.2 gf hgf]; exact hl
    have t96 : MJ V92 Z94 b := t96
    refine W.know (fun kr1 kr2 => ?_)
    refine W.widen (k := zcc Z) (n := zss Z) (Nat.sub_le _ _) (Nat.sub_le _ _) ?_
    exact W.vret hx hb hr (fun t ht hW => ⟨⟨(V92, L, Z94), rfl, ⟨hMV92, agV92, rfl, zoZ94, t96⟩, ⟨by rw [ht]; exact hP, va_K.moved hW.alike hK, hD⟩, by rw [ht]; exact kr1, by rw [ht]; exact kr2⟩, hS.F ht⟩) hS.2.2 dX5_undoNext_38
abbrev r_x_goOnGetting (Z : XZ) : Room := { frames := 5, cells := zcc Z, slots := zss Z, locals := 121 }
abbrev q_x_goOnGetting (D : va_G) (ks : KS) (ad : Nat → Nat) (kk : Nat → ClassId) (V : Vf) (L : Lf) (Z : XZ) (b : Nat) (gf : Nat) (A : Nat → Prop) : Array Value → State → Outcome → State → Prop := qZv D (fun (u : Vf × Lf × XZ) => rgd bX u.1 ∧ agr [(3, 13), (5, 6), (5, 8), (5, 9), (5, 10), (5, 11), (5, 12), (5, 13), (5, 14)] [25, 26, 27, 28, 30, 67, 68, 69, 70, 71, 72, 73, 74, 75, 76, 77, 78, 79, 80, 81, 82, 83, 84, 85] V u.1 ∧ u.2.1 = L ∧ ZL Z u.2.2 ∧ (MJ u.1 u.2.2 b)) (fun u => xw ad kk u.1 u.2.1 u.2.2) (fun u => xty kk u.2.2) (fun u => zcc Z - zcc u.2.2) (fun u => zss Z - zss u.2.2) A
set_option maxHeartbeats 4000000 in
set_option maxRecDepth 100000 in
theorem x_goOnGetting (l : Launch) (D : va_G) (ks : KS) (sz : Nat) (ad : Nat → Nat) (kk : Nat → ClassId) (V : Vf) (L : Lf) (Z : XZ) (b : Nat) (gf : Nat) (hMV : rgd bX V) (hb2 : b < 2) (hgf : gf < Z.nf) (mo : MO V Z b gf True (QN V b) (QN V b)) (gd : (gf : Int) + 1 = (V 5 6).toInt) (gk : (V 67 gf).toInt = 0)  : Met l yX5_goOnGetting (Cond.code yX5_goOnGetting cX5_goOnGetting 2 none :: GW) (r_x_goOnGetting Z) (va_Pc [.ref (ad 5), .ref (Z.fa gf)] (gp D ks (xw ad kk V L Z) (xty kk Z) sz)) (q_x_goOnGetting D ks ad kk V L Z  b gf (va_A (xw ad kk V L Z) sz)) (zcc Z) (zss Z) (va_A (xw ad kk V L Z) sz) := by
  refine g_met (q_x_goOnGetting D ks ad kk V L Z  b gf) (by decide) (Nat.le_of_ble_eq_true rfl) ?_
  intro p e s m below meth c A ls H locs hx hb hr hml hown hg hlocks hin hnw hgk hP hK hD hS hA hl
  have hown : s.vm.findClass RX5 = some m.cls := hown
  have hl : lv_has ls 2 [(0, .ref (ad 5)), (1, .ref (Z.fa gf))] := hl
  have hP : va_P D vwCl (xw ad kk V L Z) H := hP
  have hD : va_D A (xw ad kk V L Z) := hD
  have hK : va_K D vwCl (xty kk Z) s := hK
  have agV : agr [(3, 13), (5, 6), (5, 8), (5, 9), (5, 10), (5, 11), (5, 12), (5, 13), (5, 14)] [25, 26, 27, 28, 30, 67, 68, 69, 70, 71, 72, 73, 74, 75, 76, 77, 78, 79, 80, 81, 82, 83, 84, 85] V V := agr.rf
  have zoZ : ZL Z Z := ZL.rf
  refine W.know (fun ka kb => ?_)
  refine W.tight (k := zcc Z - zcc Z) (n := zss Z - zss Z) (by omega) (by omega) ?_
  have r1 : 0 ≤ ((V 5 6)).toInt ∧ ((V 5 6)).toInt ≤ 400 := hMV 5 6
  have kdp := i_clamp (x := V 5 6) rfl (by (first | exact om_c66f1b494bd9 gd | omega))
  have hdn : (gf : Int) + 1 ≤ (Z.nf : Int) := by (first | exact om_29efded833ec hgf | omega)
  have mup := MO.up mo
  have msz := mup.1
  have mbk := mup.2.2.2.1
  obtain ⟨xk, fk⟩ := MO.fk mo
  have r2 : (-1) ≤ ((V 71 gf)).toInt ∧ ((V 71 gf)).toInt ≤ 23 := hMV 71 gf
  have r3 : 0 ≤ ((V 75 gf)).toInt ∧ ((V 75 gf)).toInt ≤ 12 := hMV 75 gf
  have r4 : 0 ≤ ((V 80 gf)).toInt ∧ ((V 80 gf)).toInt ≤ 300 := hMV 80 gf
  have r5 : 0 ≤ ((V 84 gf)).toInt ∧ ((V 84 gf)).toInt ≤ 2147483647 := hMV 84 gf
  have r6 : 0 ≤ ((V 5 8)).toInt ∧ ((V 5 8)).toInt ≤ 300 := hMV 5 8
  have r7 : 0 ≤ ((V 5 9)).toInt ∧ ((V 5 9)).toInt ≤ 3 := hMV 5 9
  have r8 : 0 ≤ ((V 3 13)).toInt ∧ ((V 3 13)).toInt ≤ 300 := hMV 3 13
  have r9 : 0 ≤ ((V 43 (5 * b + 2))).toInt ∧ ((V 43 (5 * b + 2))).toInt ≤ ((xcap (5 * b + 2) : Nat) : Int) := hMV 43 (5 * b + 2)
  have r10 : xcap (5 * b + 2) = 24 := xcap_2
  have r11 : 0 ≤ ((V 41 b)).toInt ∧ ((V 41 b)).toInt ≤ 12 := hMV 41 b
  have r12 : 0 ≤ ((V 42 b)).toInt ∧ ((V 42 b)).toInt ≤ 8200 := hMV 42 b
  have fm := fk.2.2.2.2.2.2.1 (by omega)
  refine lv_aload_n hx hb dX5_goOnGetting_0 rfl (lv_at hl 1 rfl) ?_
  refine va_getN (D := D) (ci := 4) (v := .int (V 68 gf)) (fs := (xfFrame V gf)) (C := RX4) (T := TX4) (N := 19) hx hb hg inX4 hown hK hP (336 + gf) (xgFrame hgf) rfl 1 (by decide) (hnw.use 1190 n1190 rfl) (fun _ h9 => h9) rfl dX5_goOnGetting_1 ?_
  refine lv_if_ne (tgt := 29) hx hb dX5_goOnGetting_4 (by decide) (fun c13 => ?_) (fun c13 => ?_)
  · skip
    have f14 : ((V 68 gf)).toInt ≠ 0 := b_neq rfl (by decide) c13
    refine lv_aload_n hx hb dX5_goOnGetting_29 rfl (lv_at hl 1 rfl) ?_
    refine va_getN (D := D) (ci := 4) (v := .int (V 68 gf)) (fs := (xfFrame V gf)) (C := RX4) (T := TX4) (N := 19) hx hb hg inX4 hown hK hP (336 + gf) (xgFrame hgf) rfl 1 (by decide) (hnw.use 1190 n1190 rfl) (fun _ h9 => h9) rfl dX5_goOnGetting_30 ?_
    refine lv_iconst (v := 1) hx hb dX5_goOnGetting_33 (by decide) ?_
    refine lv_icmp_ne (tgt := 71) hx hb dX5_goOnGetting_34 (by decide) (fun c15 => ?_) (fun c15 => ?_)
    · skip
      have f16 : ((V 68 gf)).toInt ≠ 1 := b_neq rfl (by decide) c15
      refine lv_aload_n hx hb dX5_goOnGetting_71 rfl (lv_at hl 0 rfl) ?_
      refine va_get (D := D) (ci := 5) (v := .int (V 5 9)) (fs := (xfMachine ad V L Z)) (C := RX5) (T := TX5) (N := 15) hx hb hg inX5 hown hK hP 5 xgMachine rfl 9 (by decide) (hg _ w676) (fun _ h9 => h9) rfl dX5_goOnGetting_72 ?_
      refine lv_iconst (v := 3) hx hb dX5_goOnGetting_75 (by decide) ?_
      refine lv_icmp_ne (tgt := 84) hx hb dX5_goOnGetting_76 (by decide) (fun c17 => ?_) (fun c17 => ?_)
      · skip
        have f18 : ((V 5 9)).toInt ≠ 3 := b_neq rfl (by decide) c17
        refine lv_aload_n hx hb dX5_goOnGetting_84 rfl (lv_at hl 0 rfl) ?_
        refine lv_aload_n hx hb dX5_goOnGetting_85 rfl (lv_at hl 1 rfl) ?_
        have me19 : ME V V gf := ME.rf
        have mo20 : MO V Z b gf True True False := MO.ch mo me19 rfl rfl False.elim (fun x h => FK.k0 (by omega) (by omega))
        refine W.know (fun k22 k23 => ?_)
        obtain ⟨Hk21, hHk21⟩ : ∃ z, z = H := ⟨_, rfl⟩
        have k22 : Hk21.size ≤ s.heap.size + (zcc Z - zcc Z) := by rw [hHk21]; exact k22
        have k23 : tot Hk21 ≤ tot s.heap + (zss Z - zss Z) := by rw [hHk21]; exact k23
        refine gZ_void (gA_runV (As := [.ref (Z.fa gf)]) (rest := []) (ci := 5) (q0 := 5) hx hb hml hown hg hP hD hK hS hA hnw hgk (x_undoNext l D ks H.size ad kk V L Z (b) (gf) hMV (show b < 2 from by (first | exact om_f940a4667dd6 hb2 | omega)) (show gf < Z.nf from by (first | exact om_8c5722e49bb1 hgf | omega)) mo20 (show (gf : Int) + 1 = (V 5 6).toInt from by (first | exact om_b7eb86266639 gd | omega)) (show (V 67 gf).toInt = 0 from by (first | exact om_b66ba74381d5 gk | omega))) w1316 w1318 w52 w171 w1319 rfl xgMachine hdV_yX5_undoNext ⟨Nat.le_of_ble_eq_true rfl, Nat.le_of_ble_eq_true rfl⟩ rfl hl.1 rfl (Nat.le_of_ble_eq_true rfl) dX5_goOnGetting_86 ⟨z1 zoZ.1, z1 zoZ.2.1⟩) hD hS hA (fun u25 H locs w26 hP hD hK hS y27 y28 => ?_)
        obtain ⟨V29, L30, Z31⟩ := u25
        obtain ⟨hMV29, ajV29, axL30, zlZ31, t33⟩ := w26
        have axL30 : L = L30 := Eq.symm axL30
        subst axL30
        have hP : va_P D vwCl (xw ad kk V29 L Z31) H := hP
        have hD : va_D A (xw ad kk V29 L Z31) := hD
        have hK : va_K D vwCl (xty kk Z31) s := hK
        have hMV29 : rgd bX V29 := hMV29
        have ajV29 : agr [(5, 6), (5, 8), (5, 9), (5, 11), (5, 12)] [67, 68, 69, 70, 71, 72, 73, 74, 75, 76, 77, 78, 79, 80, 81, 82, 83, 84, 85] V V29 := ajV29
        have agV29 : agr [(3, 13), (5, 6), (5, 8), (5, 9), (5, 10), (5, 11), (5, 12), (5, 13), (5, 14)] [25, 26, 27, 28, 30, 67, 68, 69, 70, 71, 72, 73, 74, 75, 76, 77, 78, 79, 80, 81, 82, 83, 84, 85] V V29 := agV.tr ajV29 (by decide) (by decide)
        have zlZ31 : ZL Z Z31 := zlZ31
        have zoZ31 : ZL Z Z31 := ZL.tr zoZ zlZ31
        have ziZ31 := zlZ31.1
        have zjZ31 := zlZ31.2.1
        have zkZ31 := zlZ31.2.2.1
        have zmZ31 := zoZ31.1
        have znZ31 := zoZ31.2.1
        have zpZ_Z31 := zoZ.1
        have zqZ_Z31 := zoZ.2.1
        have y27 : H.size ≤ Hk21.size + (zcc Z - zcc Z31) := by rw [hHk21]; exact y27
        have y28 : tot H ≤ tot Hk21 + (zss Z - zss Z31) := by rw [hHk21]; exact y28
        refine W.tight (k := zcc Z - zcc Z31) (n := zss Z - zss Z31) (by first | exact tg9 y27 k22 zlZ31.1 zoZ.1 | omega) (by first | exact tg9 y28 k23 zlZ31.2.1 zoZ.2.1 | omega) ?_
        have hl : lv_has ls 2 [(0, .ref (ad 5)), (1, .ref (Z31.fa gf))] := by rw [zlZ31.2.2.2.2 gf hgf]; exact hl
        have t33 : MJ V29 Z31 b := t33
        refine W.know (fun kr1 kr2 => ?_)
        refine W.widen (k := zcc Z) (n := zss Z) (Nat.sub_le _ _) (Nat.sub_le _ _) ?_
        exact W.vret hx hb hr (fun t ht hW => ⟨⟨(V29, L, Z31), rfl, ⟨hMV29, agV29, rfl, zoZ31, t33⟩, ⟨by rw [ht]; exact hP, va_K.moved hW.alike hK, hD⟩, by rw [ht]; exact kr1, by rw [ht]; exact kr2⟩, hS.F ht⟩) hS.2.2 dX5_goOnGetting_89
      · skip
        have f34 : ((V 5 9)).toInt = 3 := b_eq rfl (by decide) c17
        refine lv_aload_n hx hb dX5_goOnGetting_79 rfl (lv_at hl 1 rfl) ?_
        refine lv_iconst (v := 1) hx hb dX5_goOnGetting_80 (by decide) ?_
        refine va_putN (D := D) (ci := 4) (v := .int 1) (ty := tyX4 16) (fs := (xfFrame V gf)) (C := RX4) (T := TX4) (N := 19) hx hb hg inX4 tyX4 tyX4_ok nmX4 hown hK hP hD hS (336 + gf) (xgFrame hgf) rfl 16 (by decide) (hnw.use 1205 n1205 rfl) (fun _ h9 => h9) rfl (tyX4_ok 16 (by decide)) rfl rfl (Nat.le_of_ble_eq_true rfl) dX5_goOnGetting_81 (fun H locs hP hD hS => ?_)
        obtain ⟨V35, hV35⟩ : ∃ z, z = up2 V 83 gf 1 := ⟨_, rfl⟩
        have ew36 : (xw ad kk V L Z).set (336 + gf) ((Z.fa gf), .inr (4, (xfFrame V gf).set 16 (.int 1))) = xw ad kk V35 L Z := by rw [hV35]; exact xpFrame_spent hgf
        have hP : va_P D vwCl (xw ad kk V35 L Z) H := by rw [← ew36]; exact hP
        have hD : va_D A (xw ad kk V35 L Z) := by rw [← ew36]; exact hD
        have hMV35 : rgd bX V35 := hMV.put hV35 (show 0 ≤ Int32.toInt 1 ∧ Int32.toInt 1 ≤ 1 from by decide)
        have agV35 : agr [(3, 13), (5, 6), (5, 8), (5, 9), (5, 10), (5, 11), (5, 12), (5, 13), (5, 14)] [25, 26, 27, 28, 30, 67, 68, 69, 70, 71, 72, 73, 74, 75, 76, 77, 78, 79, 80, 81, 82, 83, 84, 85] V V35 := agV.up hV35 rfl
        refine lv_aload_n hx hb dX5_goOnGetting_84 rfl (lv_at hl 0 rfl) ?_
        refine lv_aload_n hx hb dX5_goOnGetting_85 rfl (lv_at hl 1 rfl) ?_
        have pq37 : (V35 5 6).toInt = ((V 5 6)).toInt := congrArg Int32.toInt (up2_o hV35 (by decide))
        have pq38 : (V35 67 gf).toInt = ((V 67 gf)).toInt := congrArg Int32.toInt (up2_o hV35 (by decide))
        have me39 : ME V V35 gf := (ME.up ME.rf hV35 (Or.inl ⟨by decide, by decide, Nat.le_refl _⟩))
        have pq40 : (V35 68 gf).toInt = ((V 68 gf)).toInt := congrArg Int32.toInt (up2_o hV35 (by decide))
        have pq41 : (V35 70 gf).toInt = ((V 70 gf)).toInt := congrArg Int32.toInt (up2_o hV35 (by decide))
        have pq42 : (V35 71 gf).toInt = ((V 71 gf)).toInt := congrArg Int32.toInt (up2_o hV35 (by decide))
        have pq43 : (V35 75 gf).toInt = ((V 75 gf)).toInt := congrArg Int32.toInt (up2_o hV35 (by decide))
        have pq44 : (V35 76 gf).toInt = ((V 76 gf)).toInt := congrArg Int32.toInt (up2_o hV35 (by decide))
        have pq45 : (V35 80 gf).toInt = ((V 80 gf)).toInt := congrArg Int32.toInt (up2_o hV35 (by decide))
        have pq46 : (V35 84 gf).toInt = ((V 84 gf)).toInt := congrArg Int32.toInt (up2_o hV35 (by decide))
        have pq47 : (V35 5 8).toInt = ((V 5 8)).toInt := congrArg Int32.toInt (up2_o hV35 (by decide))
        have pq48 : (V35 5 9).toInt = ((V 5 9)).toInt := congrArg Int32.toInt (up2_o hV35 (by decide))
        have pq49 : (V35 3 13).toInt = ((V 3 13)).toInt := congrArg Int32.toInt (up2_o hV35 (by decide))
        have pq50 : (V35 43 (5 * b + 2)).toInt = ((V 43 (5 * b + 2))).toInt := congrArg Int32.toInt (up2_o hV35 (by decide))
        have pq51 : (V35 42 b).toInt = ((V 42 b)).toInt := congrArg Int32.toInt (up2_o hV35 (by decide))
        have pq52 : (V35 41 b).toInt = ((V 41 b)).toInt := congrArg Int32.toInt (up2_o hV35 (by decide))
        have mo53 : MO V35 Z b gf True True False := MO.ch mo me39 (up2_o hV35 (by decide)) (up2_o hV35 (by decide)) False.elim (fun x h => FK.k0 (by omega) (by omega))
        refine W.know (fun k55 k56 => ?_)
        obtain ⟨Hk54, hHk54⟩ : ∃ z, z = H := ⟨_, rfl⟩
        have k55 : Hk54.size ≤ s.heap.size + (zcc Z - zcc Z) := by rw [hHk54]; exact k55
        have k56 : tot Hk54 ≤ tot s.heap + (zss Z - zss Z) := by rw [hHk54]; exact k56
        refine gZ_void (gA_runV (As := [.ref (Z.fa gf)]) (rest := []) (ci := 5) (q0 := 5) hx hb hml hown hg hP hD hK hS hA hnw hgk (x_undoNext l D ks H.size ad kk V35 L Z (b) (gf) hMV35 (show b < 2 from by (first | exact om_f940a4667dd6 hb2 | omega)) (show gf < Z.nf from by (first | exact om_8c5722e49bb1 hgf | omega)) mo53 (show (gf : Int) + 1 = (V35 5 6).toInt from by (first | exact om_6e5bbaaa0e03 gd pq37 | omega)) (show (V35 67 gf).toInt = 0 from by (first | exact om_36161e850215 gk pq38 | omega))) w1316 w1318 w52 w171 w1319 rfl xgMachine hdV_yX5_undoNext ⟨Nat.le_of_ble_eq_true rfl, Nat.le_of_ble_eq_true rfl⟩ rfl hl.1 rfl (Nat.le_of_ble_eq_true rfl) dX5_goOnGetting_86 ⟨z1 zoZ.1, z1 zoZ.2.1⟩) hD hS hA (fun u58 H locs w59 hP hD hK hS y60 y61 => ?_)
        obtain ⟨V62, L63, Z64⟩ := u58
        obtain ⟨hMV62, ajV62, axL63, zlZ64, t66⟩ := w59
        have axL63 : L = L63 := Eq.symm axL63
        subst axL63
        have hP : va_P D vwCl (xw ad kk V62 L Z64) H := hP
        have hD : va_D A (xw ad kk V62 L Z64) := hD
        have hK : va_K D vwCl (xty kk Z64) s := hK
        have hMV62 : rgd bX V62 := hMV62
        have ajV62 : agr [(5, 6), (5, 8), (5, 9), (5, 11), (5, 12)] [67, 68, 69, 70, 71, 72, 73, 74, 75, 76, 77, 78, 79, 80, 81, 82, 83, 84, 85] V35 V62 := ajV62
        have agV62 : agr [(3, 13), (5, 6), (5, 8), (5, 9), (5, 10), (5, 11), (5, 12), (5, 13), (5, 14)] [25, 26, 27, 28, 30, 67, 68, 69, 70, 71, 72, 73, 74, 75, 76, 77, 78, 79, 80, 81, 82, 83, 84, 85] V V62 := agV35.tr ajV62 (by decide) (by decide)
        have zlZ64 : ZL Z Z64 := zlZ64
        have zoZ64 : ZL Z Z64 := ZL.tr zoZ zlZ64
        have ziZ64 := zlZ64.1
        have zjZ64 := zlZ64.2.1
        have zkZ64 := zlZ64.2.2.1
        have zmZ64 := zoZ64.1
        have znZ64 := zoZ64.2.1
        have zpZ_Z64 := zoZ.1
        have zqZ_Z64 := zoZ.2.1
        have y60 : H.size ≤ Hk54.size + (zcc Z - zcc Z64) := by rw [hHk54]; exact y60
        have y61 : tot H ≤ tot Hk54 + (zss Z - zss Z64) := by rw [hHk54]; exact y61
        refine W.tight (k := zcc Z - zcc Z64) (n := zss Z - zss Z64) (by first | exact tg9 y60 k55 zlZ64.1 zoZ.1 | omega) (by first | exact tg9 y61 k56 zlZ64.2.1 zoZ.2.1 | omega) ?_
        have hl : lv_has ls 2 [(0, .ref (ad 5)), (1, .ref (Z64.fa gf))] := by rw [zlZ64.2.2.2.2 gf hgf]; exact hl
        have t66 : MJ V62 Z64 b := t66
        refine W.know (fun kr1 kr2 => ?_)
        refine W.widen (k := zcc Z) (n := zss Z) (Nat.sub_le _ _) (Nat.sub_le _ _) ?_
        exact W.vret hx hb hr (fun t ht hW => ⟨⟨(V62, L, Z64), rfl, ⟨hMV62, agV62, rfl, zoZ64, t66⟩, ⟨by rw [ht]; exact hP, va_K.moved hW.alike hK, hD⟩, by rw [ht]; exact kr1, by rw [ht]; exact kr2⟩, hS.F ht⟩) hS.2.2 dX5_goOnGetting_89
    · skip
      have f67 : ((V 68 gf)).toInt = 1 := b_eq rfl (by decide) c15
      refine lv_aload_n hx hb dX5_goOnGetting_37 rfl (lv_at hl 0 rfl) ?_
      refine va_get (D := D) (ci := 5) (v := .int (V 5 9)) (fs := (xfMachine ad V L Z)) (C := RX5) (T := TX5) (N := 15) hx hb hg inX5 hown hK hP 5 xgMachine rfl 9 (by decide) (hg _ w676) (fun _ h9 => h9) rfl dX5_goOnGetting_38 ?_
      refine lv_iconst (v := 2) hx hb dX5_goOnGetting_41 (by decide) ?_
      refine lv_icmp_eq (tgt := 58) hx hb dX5_goOnGetting_42 (by decide) (fun c68 => ?_) (fun c68 => ?_)
      · skip
        have f69 : ((V 5 9)).toInt = 2 := b_eq rfl (by decide) c68
        refine lv_aload_n hx hb dX5_goOnGetting_58 rfl (lv_at hl 0 rfl) ?_
        refine lv_aload_n hx hb dX5_goOnGetting_59 rfl (lv_at hl 1 rfl) ?_
        refine gA_void (gA_runV (As := [.ref (Z.fa gf)]) (rest := []) (ci := 5) (q0 := 5) hx hb hml hown hg hP hD hK hS hA hnw hgk (x_holdFailure2 l D ks H.size ad kk V L Z (gf) hMV (show gf < Z.nf from by (first | exact om_8c5722e49bb1 hgf | omega))) w1312 w1314 w51 w171 w1315 rfl xgMachine hdV_yX5_holdFailure ⟨Nat.le_of_ble_eq_true rfl, Nat.le_of_ble_eq_true rfl⟩ rfl hl.1 rfl (Nat.le_of_ble_eq_true rfl) dX5_goOnGetting_60 ⟨z0, z0⟩) hP hD hK hS hA (fun u71 H locs w72 hP hD hK hS => ?_)
        obtain ⟨V74, L75⟩ := u71
        obtain ⟨hMV74, ajV74, axL75, t73⟩ := w72
        have axL75 : L = L75 := Eq.symm axL75
        subst axL75
        have hP : va_P D vwCl (xw ad kk V74 L Z) H := hP
        have hD : va_D A (xw ad kk V74 L Z) := hD
        have hMV74 : rgd bX V74 := hMV74
        have ajV74 : agr [] [81, 82] V V74 := ajV74
        have agV74 : agr [(3, 13), (5, 6), (5, 8), (5, 9), (5, 10), (5, 11), (5, 12), (5, 13), (5, 14)] [25, 26, 27, 28, 30, 67, 68, 69, 70, 71, 72, 73, 74, 75, 76, 77, 78, 79, 80, 81, 82, 83, 84, 85] V V74 := agV.tr ajV74 (by decide) (by decide)
        have t73 : ME V V74 gf := t73
        refine lv_aload_n hx hb dX5_goOnGetting_63 rfl (lv_at hl 1 rfl) ?_
        refine lv_iconst (v := 2) hx hb dX5_goOnGetting_64 (by decide) ?_
        refine va_putN (D := D) (ci := 4) (v := .int 2) (ty := tyX4 1) (fs := (xfFrame V74 gf)) (C := RX4) (T := TX4) (N := 19) hx hb hg inX4 tyX4 tyX4_ok nmX4 hown hK hP hD hS (336 + gf) (xgFrame hgf) rfl 1 (by decide) (hnw.use 1190 n1190 rfl) (fun _ h9 => h9) rfl (tyX4_ok 1 (by decide)) rfl rfl (Nat.le_of_ble_eq_true rfl) dX5_goOnGetting_65 (fun H locs hP hD hS => ?_)
        obtain ⟨V76, hV76⟩ : ∃ z, z = up2 V74 68 gf 2 := ⟨_, rfl⟩
        have ew77 : (xw ad kk V74 L Z).set (336 + gf) ((Z.fa gf), .inr (4, (xfFrame V74 gf).set 1 (.int 2))) = xw ad kk V76 L Z := by rw [hV76]; exact xpFrame_phase hgf
        have hP : va_P D vwCl (xw ad kk V76 L Z) H := by rw [← ew77]; exact hP
        have hD : va_D A (xw ad kk V76 L Z) := by rw [← ew77]; exact hD
        have hMV76 : rgd bX V76 := hMV74.put hV76 (i_full _)
        have agV76 : agr [(3, 13), (5, 6), (5, 8), (5, 9), (5, 10), (5, 11), (5, 12), (5, 13), (5, 14)] [25, 26, 27, 28, 30, 67, 68, 69, 70, 71, 72, 73, 74, 75, 76, 77, 78, 79, 80, 81, 82, 83, 84, 85] V V76 := agV74.up hV76 rfl
        refine lv_goto (tgt := 84) hx hb dX5_goOnGetting_68 (by decide) ?_
        refine lv_aload_n hx hb dX5_goOnGetting_84 rfl (lv_at hl 0 rfl) ?_
        refine lv_aload_n hx hb dX5_goOnGetting_85 rfl (lv_at hl 1 rfl) ?_
        have pq78 : (V76 5 6).toInt = ((V 5 6)).toInt := congrArg Int32.toInt ((up2_o hV76 (by decide)).trans (ajV74 5 6 rfl))
        have pq79 : (V76 67 gf).toInt = ((V 67 gf)).toInt := congrArg Int32.toInt ((up2_o hV76 (by decide)).trans (ajV74 67 gf rfl))
        have me80 : ME V V76 gf := (ME.up (ME.tr ME.rf t73) hV76 (Or.inl ⟨by decide, by decide, Nat.le_refl _⟩))
        have pq81 : (V76 68 gf).toInt = 2 := (congrArg Int32.toInt (up2_s hV76)).trans (by decide)
        have pq82 : (V76 70 gf).toInt = ((V 70 gf)).toInt := congrArg Int32.toInt ((up2_o hV76 (by decide)).trans (ajV74 70 gf rfl))
        have pq83 : (V76 71 gf).toInt = ((V 71 gf)).toInt := congrArg Int32.toInt ((up2_o hV76 (by decide)).trans (ajV74 71 gf rfl))
        have pq84 : (V76 75 gf).toInt = ((V 75 gf)).toInt := congrArg Int32.toInt ((up2_o hV76 (by decide)).trans (ajV74 75 gf rfl))
        have pq85 : (V76 76 gf).toInt = ((V 76 gf)).toInt := congrArg Int32.toInt ((up2_o hV76 (by decide)).trans (ajV74 76 gf rfl))
        have pq86 : (V76 80 gf).toInt = ((V 80 gf)).toInt := congrArg Int32.toInt ((up2_o hV76 (by decide)).trans (ajV74 80 gf rfl))
        have pq87 : (V76 84 gf).toInt = ((V 84 gf)).toInt := congrArg Int32.toInt ((up2_o hV76 (by decide)).trans (ajV74 84 gf rfl))
        have pq88 : (V76 5 8).toInt = ((V 5 8)).toInt := congrArg Int32.toInt ((up2_o hV76 (by decide)).trans (ajV74 5 8 rfl))
        have pq89 : (V76 5 9).toInt = ((V 5 9)).toInt := congrArg Int32.toInt ((up2_o hV76 (by decide)).trans (ajV74 5 9 rfl))
        have pq90 : (V76 3 13).toInt = ((V 3 13)).toInt := congrArg Int32.toInt ((up2_o hV76 (by decide)).trans (ajV74 3 13 rfl))
        have pq91 : (V76 43 (5 * b + 2)).toInt = ((V 43 (5 * b + 2))).toInt := congrArg Int32.toInt ((up2_o hV76 (by decide)).trans (ajV74 43 (5 * b + 2) rfl))
        have pq92 : (V76 42 b).toInt = ((V 42 b)).toInt := congrArg Int32.toInt ((up2_o hV76 (by decide)).trans (ajV74 42 b rfl))
        have pq93 : (V76 41 b).toInt = ((V 41 b)).toInt := congrArg Int32.toInt ((up2_o hV76 (by decide)).trans (ajV74 41 b rfl))
        have mo94 : MO V76 Z b gf True True False := MO.ch mo me80 ((up2_o hV76 (by decide)).trans (ajV74 67 gf rfl)) ((up2_o hV76 (by decide)).trans (ajV74 80 gf rfl)) False.elim (fun x h => FK.k0 (by omega) (by omega))
        refine W.know (fun k96 k97 => ?_)
        obtain ⟨Hk95, hHk95⟩ : ∃ z, z = H := ⟨_, rfl⟩
        have k96 : Hk95.size ≤ s.heap.size + (zcc Z - zcc Z) := by rw [hHk95]; exact k96
        have k97 : tot Hk95 ≤ tot s.heap + (zss Z - zss Z) := by rw [hHk95]; exact k97
        refine gZ_void (gA_runV (As := [.ref (Z.fa gf)]) (rest := []) (ci := 5) (q0 := 5) hx hb hml hown hg hP hD hK hS hA hnw hgk (x_undoNext l D ks H.size ad kk V76 L Z (b) (gf) hMV76 (show b < 2 from by (first | exact om_f940a4667dd6 hb2 | omega)) (show gf < Z.nf from by (first | exact om_8c5722e49bb1 hgf | omega)) mo94 (show (gf : Int) + 1 = (V76 5 6).toInt from by (first | exact om_6e5bbaaa0e03 gd pq78 | omega)) (show (V76 67 gf).toInt = 0 from by (first | exact om_36161e850215 gk pq79 | omega))) w1316 w1318 w52 w171 w1319 rfl xgMachine hdV_yX5_undoNext ⟨Nat.le_of_ble_eq_true rfl, Nat.le_of_ble_eq_true rfl⟩ rfl hl.1 rfl (Nat.le_of_ble_eq_true rfl) dX5_goOnGetting_86 ⟨z1 zoZ.1, z1 zoZ.2.1⟩) hD hS hA (fun u99 H locs w100 hP hD hK hS y101 y102 => ?_)
        obtain ⟨V103, L104, Z105⟩ := u99
        obtain ⟨hMV103, ajV103, axL104, zlZ105, t107⟩ := w100
        have axL104 : L = L104 := Eq.symm axL104
        subst axL104
        have hP : va_P D vwCl (xw ad kk V103 L Z105) H := hP
        have hD : va_D A (xw ad kk V103 L Z105) := hD
        have hK : va_K D vwCl (xty kk Z105) s := hK
        have hMV103 : rgd bX V103 := hMV103
        have ajV103 : agr [(5, 6), (5, 8), (5, 9), (5, 11), (5, 12)] [67, 68, 69, 70, 71, 72, 73, 74, 75, 76, 77, 78, 79, 80, 81, 82, 83, 84, 85] V76 V103 := ajV103
        have agV103 : agr [(3, 13), (5, 6), (5, 8), (5, 9), (5, 10), (5, 11), (5, 12), (5, 13), (5, 14)] [25, 26, 27, 28, 30, 67, 68, 69, 70, 71, 72, 73, 74, 75, 76, 77, 78, 79, 80, 81, 82, 83, 84, 85] V V103 := agV76.tr ajV103 (by decide) (by decide)
        have zlZ105 : ZL Z Z105 := zlZ105
        have zoZ105 : ZL Z Z105 := ZL.tr zoZ zlZ105
        have ziZ105 := zlZ105.1
        have zjZ105 := zlZ105.2.1
        have zkZ105 := zlZ105.2.2.1
        have zmZ105 := zoZ105.1
        have znZ105 := zoZ105.2.1
        have zpZ_Z105 := zoZ.1
        have zqZ_Z105 := zoZ.2.1
        have y101 : H.size ≤ Hk95.size + (zcc Z - zcc Z105) := by rw [hHk95]; exact y101
        have y102 : tot H ≤ tot Hk95 + (zss Z - zss Z105) := by rw [hHk95]; exact y102
        refine W.tight (k := zcc Z - zcc Z105) (n := zss Z - zss Z105) (by first | exact tg9 y101 k96 zlZ105.1 zoZ.1 | omega) (by first | exact tg9 y102 k97 zlZ105.2.1 zoZ.2.1 | omega) ?_
        have hl : lv_has ls 2 [(0, .ref (ad 5)), (1, .ref (Z105.fa gf))] := by rw [zlZ105.2.2.2.2 gf hgf]; exact hl
        have t107 : MJ V103 Z105 b := t107
        refine W.know (fun kr1 kr2 => ?_)
        refine W.widen (k := zcc Z) (n := zss Z) (Nat.sub_le _ _) (Nat.sub_le _ _) ?_
        exact W.vret hx hb hr (fun t ht hW => ⟨⟨(V103, L, Z105), rfl, ⟨hMV103, agV103, rfl, zoZ105, t107⟩, ⟨by rw [ht]; exact hP, va_K.moved hW.alike hK, hD⟩, by rw [ht]; exact kr1, by rw [ht]; exact kr2⟩, hS.F ht⟩) hS.2.2 dX5_goOnGetting_89
      · skip
        have f108 : ((V 5 9)).toInt ≠ 2 := b_neq rfl (by decide) c68
        refine lv_aload_n hx hb dX5_goOnGetting_45 rfl (lv_at hl 0 rfl) ?_
        refine lv_aload_n hx hb dX5_goOnGetting_46 rfl (lv_at hl 1 rfl) ?_
        refine va_getN (D := D) (ci := 4) (v := .int (V 80 gf)) (fs := (xfFrame V gf)) (C := RX4) (T := TX4) (N := 19) hx hb hg inX4 hown hK hP (336 + gf) (xgFrame hgf) rfl 13 (by decide) (hnw.use 1202 n1202 rfl) (fun _ h9 => h9) rfl dX5_goOnGetting_47 ?_
        refine va_put (D := D) (ci := 5) (v := .int (V 80 gf)) (ty := tyX5 8) (fs := (xfMachine ad V L Z)) (C := RX5) (T := TX5) (N := 15) hx hb hg inX5 tyX5 tyX5_ok nmX5 hown hK hP hD hS 5 xgMachine rfl 8 (by decide) (hg _ w675) (fun _ h9 => h9) rfl (tyX5_ok 8 (by decide)) rfl rfl (Nat.le_of_ble_eq_true rfl) dX5_goOnGetting_50 (fun H locs hP hD hS => ?_)
        obtain ⟨V109, hV109⟩ : ∃ z, z = up2 V 5 8 (V 80 gf) := ⟨_, rfl⟩
        have ew110 : (xw ad kk V L Z).set 5 ((ad 5), .inr (5, (xfMachine ad V L Z).set 8 (.int (V 80 gf)))) = xw ad kk V109 L Z := by rw [hV109]; exact xw_ss (by decide) rfl (xb_si (by decide))
        have hP : va_P D vwCl (xw ad kk V109 L Z) H := by rw [← ew110]; exact hP
        have hD : va_D A (xw ad kk V109 L Z) := by rw [← ew110]; exact hD
        have hMV109 : rgd bX V109 := hMV.put hV109 (show 0 ≤ ((V 80 gf)).toInt ∧ ((V 80 gf)).toInt ≤ 300 from by (first | exact om_c7b5e7b90639 r4.1 r4.2 | omega))
        have agV109 : agr [(3, 13), (5, 6), (5, 8), (5, 9), (5, 10), (5, 11), (5, 12), (5, 13), (5, 14)] [25, 26, 27, 28, 30, 67, 68, 69, 70, 71, 72, 73, 74, 75, 76, 77, 78, 79, 80, 81, 82, 83, 84, 85] V V109 := agV.up hV109 rfl
        have mo1 : MO V109 Z b gf True True (QN V b) := MO.mcnt mo (by (first | exact om_b66ba74381d5 gk | omega)) hV109 (by (first | exact om_5977f3d8a10f | omega)) (by omega) (by (first | exact om_eafa9039069c r4.1 | omega)) Or.inl
        refine lv_aload_n hx hb dX5_goOnGetting_53 rfl (lv_at hl 0 rfl) ?_
        have pq111 : (V109 5 6).toInt = ((V 5 6)).toInt := congrArg Int32.toInt (up2_k hV109 (by decide))
        refine gA_void (gA_runV (As := []) (rest := []) (ci := 5) (q0 := 5) hx hb hml hown hg hP hD hK hS hA hnw hgk (x_leave l D ks H.size ad kk V109 L Z  hMV109 (show 1 ≤ (V109 5 6).toInt from by (first | exact om_0cac171fa40c gd pq111 | omega))) w1308 w1310 w50 w171 w1311 rfl xgMachine hdV_yX5_leave ⟨Nat.le_of_ble_eq_true rfl, Nat.le_of_ble_eq_true rfl⟩ rfl hl.1 rfl (Nat.le_of_ble_eq_true rfl) dX5_goOnGetting_54 ⟨z0, z0⟩) hP hD hK hS hA (fun u113 H locs w114 hP hD hK hS => ?_)
        obtain ⟨V116, L117⟩ := u113
        obtain ⟨hMV116, ajV116, axL117, t115⟩ := w114
        have axL117 : L = L117 := Eq.symm axL117
        subst axL117
        have hP : va_P D vwCl (xw ad kk V116 L Z) H := hP
        have hD : va_D A (xw ad kk V116 L Z) := hD
        have hMV116 : rgd bX V116 := hMV116
        have ajV116 : agr [(5, 6)] [] V109 V116 := ajV116
        have agV116 : agr [(3, 13), (5, 6), (5, 8), (5, 9), (5, 10), (5, 11), (5, 12), (5, 13), (5, 14)] [25, 26, 27, 28, 30, 67, 68, 69, 70, 71, 72, 73, 74, 75, 76, 77, 78, 79, 80, 81, 82, 83, 84, 85] V V116 := agV109.tr ajV116 (by decide) (by decide)
        have t115 : (V116 5 6).toInt = (V109 5 6).toInt - 1 := t115
        have r118 : 0 ≤ ((V116 5 6)).toInt ∧ ((V116 5 6)).toInt ≤ 400 := hMV116 5 6
        have me119 : ME V109 V116 gf := (ME.tr ME.rf (ME.ag ajV116 (by decide)))
        have pq120 : (V116 67 gf).toInt = ((V 67 gf)).toInt := congrArg Int32.toInt ((ajV116 67 gf rfl).trans (up2_o hV109 (by decide)))
        have pq121 : (V116 68 gf).toInt = ((V 68 gf)).toInt := congrArg Int32.toInt ((ajV116 68 gf rfl).trans (up2_o hV109 (by decide)))
        have pq122 : (V116 70 gf).toInt = ((V 70 gf)).toInt := congrArg Int32.toInt ((ajV116 70 gf rfl).trans (up2_o hV109 (by decide)))
        have pq123 : (V116 71 gf).toInt = ((V 71 gf)).toInt := congrArg Int32.toInt ((ajV116 71 gf rfl).trans (up2_o hV109 (by decide)))
        have pq124 : (V116 75 gf).toInt = ((V 75 gf)).toInt := congrArg Int32.toInt ((ajV116 75 gf rfl).trans (up2_o hV109 (by decide)))
        have pq125 : (V116 76 gf).toInt = ((V 76 gf)).toInt := congrArg Int32.toInt ((ajV116 76 gf rfl).trans (up2_o hV109 (by decide)))
        have pq126 : (V116 80 gf).toInt = ((V 80 gf)).toInt := congrArg Int32.toInt ((ajV116 80 gf rfl).trans (up2_o hV109 (by decide)))
        have pq127 : (V116 84 gf).toInt = ((V 84 gf)).toInt := congrArg Int32.toInt ((ajV116 84 gf rfl).trans (up2_o hV109 (by decide)))
        have pq128 : (V116 5 8).toInt = ((V 80 gf)).toInt := congrArg Int32.toInt ((ajV116 5 8 rfl).trans (up2_s hV109))
        have pq129 : (V116 5 9).toInt = ((V 5 9)).toInt := congrArg Int32.toInt ((ajV116 5 9 rfl).trans (up2_k hV109 (by decide)))
        have pq130 : (V116 3 13).toInt = ((V 3 13)).toInt := congrArg Int32.toInt ((ajV116 3 13 rfl).trans (up2_o hV109 (by decide)))
        have pq131 : (V116 43 (5 * b + 2)).toInt = ((V 43 (5 * b + 2))).toInt := congrArg Int32.toInt ((ajV116 43 (5 * b + 2) rfl).trans (up2_o hV109 (by decide)))
        have pq132 : (V116 42 b).toInt = ((V 42 b)).toInt := congrArg Int32.toInt ((ajV116 42 b rfl).trans (up2_o hV109 (by decide)))
        have pq133 : (V116 41 b).toInt = ((V 41 b)).toInt := congrArg Int32.toInt ((ajV116 41 b rfl).trans (up2_o hV109 (by decide)))
        have me134 : ME V109 V116 gf := (ME.tr ME.rf (ME.ag ajV116 (by decide)))
        have rp135 : MJ V116 Z b := MP.lv (MO.mp mo1) me119 (by (first | exact om_5ac7632c8ef3 gd pq111 t115 | omega)) (fun z => Or.inr (QN.eq ((ajV116 5 9 rfl).trans (up2_k hV109 (by omega))) ((ajV116 5 10 rfl).trans (up2_k hV109 (by omega))) ((ajV116 3 13 rfl).trans (up2_o hV109 (by decide))) (fun k => ((ajV116 26 k rfl).trans (up2_o hV109 (by decide)))) (fun c k a1 a2 => (me134.1 c k a1 a2).trans (up2_o hV109 (by omega))) z))
        refine W.know (fun kr1 kr2 => ?_)
        refine W.widen (k := zcc Z) (n := zss Z) (Nat.sub_le _ _) (Nat.sub_le _ _) ?_
        exact W.vret hx hb hr (fun t ht hW => ⟨⟨(V116, L, Z), rfl, ⟨hMV116, agV116, rfl, zoZ, rp135⟩, ⟨by rw [ht]; exact hP, va_K.moved hW.alike hK, hD⟩, by rw [ht]; exact kr1, by rw [ht]; exact kr2⟩, hS.F ht⟩) hS.2.2 dX5_goOnGetting_57
  · skip
    have f136 : ((V 68 gf)).toInt = 0 := b_eq rfl (by decide) c13
    refine lv_aload_n hx hb dX5_goOnGetting_7 rfl (lv_at hl 1 rfl) ?_
    refine lv_iconst (v := 1) hx hb dX5_goOnGetting_8 (by decide) ?_
    refine va_putN (D := D) (ci := 4) (v := .int 1) (ty := tyX4 1) (fs := (xfFrame V gf)) (C := RX4) (T := TX4) (N := 19) hx hb hg inX4 tyX4 tyX4_ok nmX4 hown hK hP hD hS (336 + gf) (xgFrame hgf) rfl 1 (by decide) (hnw.use 1190 n1190 rfl) (fun _ h9 => h9) rfl (tyX4_ok 1 (by decide)) rfl rfl (Nat.le_of_ble_eq_true rfl) dX5_goOnGetting_9 (fun H locs hP hD hS => ?_)
    obtain ⟨V137, hV137⟩ : ∃ z, z = up2 V 68 gf 1 := ⟨_, rfl⟩
    have ew138 : (xw ad kk V L Z).set (336 + gf) ((Z.fa gf), .inr (4, (xfFrame V gf).set 1 (.int 1))) = xw ad kk V137 L Z := by rw [hV137]; exact xpFrame_phase hgf
    have hP : va_P D vwCl (xw ad kk V137 L Z) H := by rw [← ew138]; exact hP
    have hD : va_D A (xw ad kk V137 L Z) := by rw [← ew138]; exact hD
    have hMV137 : rgd bX V137 := hMV.put hV137 (i_full _)
    have agV137 : agr [(3, 13), (5, 6), (5, 8), (5, 9), (5, 10), (5, 11), (5, 12), (5, 13), (5, 14)] [25, 26, 27, 28, 30, 67, 68, 69, 70, 71, 72, 73, 74, 75, 76, 77, 78, 79, 80, 81, 82, 83, 84, 85] V V137 := agV.up hV137 rfl
    refine lv_aload_n hx hb dX5_goOnGetting_12 rfl (lv_at hl 0 rfl) ?_
    refine lv_aload_n hx hb dX5_goOnGetting_13 rfl (lv_at hl 1 rfl) ?_
    refine va_getN (D := D) (ci := 4) (v := .int (V137 71 gf)) (fs := (xfFrame V137 gf)) (C := RX4) (T := TX4) (N := 19) hx hb hg inX4 hown hK hP (336 + gf) (xgFrame hgf) rfl 4 (by decide) (hnw.use 1193 n1193 rfl) (fun _ h9 => h9) rfl dX5_goOnGetting_14 ?_
    refine g_top (v := (V 71 gf)) (up2_o hV137 (by decide)) ?_
    refine lv_aload_n hx hb dX5_goOnGetting_17 rfl (lv_at hl 1 rfl) ?_
    refine va_getN (D := D) (ci := 4) (v := .int (V137 72 gf)) (fs := (xfFrame V137 gf)) (C := RX4) (T := TX4) (N := 19) hx hb hg inX4 hown hK hP (336 + gf) (xgFrame hgf) rfl 5 (by decide) (hnw.use 1194 n1194 rfl) (fun _ h9 => h9) rfl dX5_goOnGetting_18 ?_
    refine g_top (v := (V 72 gf)) (up2_o hV137 (by decide)) ?_
    have r139 : 0 ≤ ((V 72 gf)).toInt ∧ ((V 72 gf)).toInt ≤ 39 := hMV 72 gf
    refine lv_aload_n hx hb dX5_goOnGetting_21 rfl (lv_at hl 1 rfl) ?_
    refine va_getN (D := D) (ci := 4) (v := .int (V137 69 gf)) (fs := (xfFrame V137 gf)) (C := RX4) (T := TX4) (N := 19) hx hb hg inX4 hown hK hP (336 + gf) (xgFrame hgf) rfl 2 (by decide) (hnw.use 1191 n1191 rfl) (fun _ h9 => h9) rfl dX5_goOnGetting_22 ?_
    refine g_top (v := (V 69 gf)) (up2_o hV137 (by decide)) ?_
    have me140 : ME V V137 gf := (ME.up ME.rf hV137 (Or.inl ⟨by decide, by decide, Nat.le_refl _⟩))
    have pq141 : (V137 67 gf).toInt = ((V 67 gf)).toInt := congrArg Int32.toInt (up2_o hV137 (by decide))
    have pq142 : (V137 68 gf).toInt = 1 := (congrArg Int32.toInt (up2_s hV137)).trans (by decide)
    have pq143 : (V137 70 gf).toInt = ((V 70 gf)).toInt := congrArg Int32.toInt (up2_o hV137 (by decide))
    have pq144 : (V137 71 gf).toInt = ((V 71 gf)).toInt := congrArg Int32.toInt (up2_o hV137 (by decide))
    have pq145 : (V137 75 gf).toInt = ((V 75 gf)).toInt := congrArg Int32.toInt (up2_o hV137 (by decide))
    have pq146 : (V137 76 gf).toInt = ((V 76 gf)).toInt := congrArg Int32.toInt (up2_o hV137 (by decide))
    have pq147 : (V137 80 gf).toInt = ((V 80 gf)).toInt := congrArg Int32.toInt (up2_o hV137 (by decide))
    have pq148 : (V137 84 gf).toInt = ((V 84 gf)).toInt := congrArg Int32.toInt (up2_o hV137 (by decide))
    have pq149 : (V137 5 6).toInt = ((V 5 6)).toInt := congrArg Int32.toInt (up2_o hV137 (by decide))
    have pq150 : (V137 5 8).toInt = ((V 5 8)).toInt := congrArg Int32.toInt (up2_o hV137 (by decide))
    have pq151 : (V137 5 9).toInt = ((V 5 9)).toInt := congrArg Int32.toInt (up2_o hV137 (by decide))
    have pq152 : (V137 3 13).toInt = ((V 3 13)).toInt := congrArg Int32.toInt (up2_o hV137 (by decide))
    have pq153 : (V137 43 (5 * b + 2)).toInt = ((V 43 (5 * b + 2))).toInt := congrArg Int32.toInt (up2_o hV137 (by decide))
    have pq154 : (V137 42 b).toInt = ((V 42 b)).toInt := congrArg Int32.toInt (up2_o hV137 (by decide))
    have pq155 : (V137 41 b).toInt = ((V 41 b)).toInt := congrArg Int32.toInt (up2_o hV137 (by decide))
    have mo156 : MO V137 Z b gf True True False := MO.ch mo me140 (up2_o hV137 (by decide)) (up2_o hV137 (by decide)) False.elim (fun x h => FK.k0 (by omega) (by omega))
    have mt157 : MTw V137 Z b := MO.mtw mo156 (by (first | exact om_c09d41618ed8 hgf | omega)) (by (first | exact om_82fa09255765 gd pq149 | omega))
    refine W.know (fun k159 k160 => ?_)
    obtain ⟨Hk158, hHk158⟩ : ∃ z, z = H := ⟨_, rfl⟩
    have k159 : Hk158.size ≤ s.heap.size + (zcc Z - zcc Z) := by rw [hHk158]; exact k159
    have k160 : tot Hk158 ≤ tot s.heap + (zss Z - zss Z) := by rw [hHk158]; exact k160
    refine gZ_void (gA_runV (As := [.int (V 71 gf), .int (V 72 gf), .int (V 69 gf)]) (rest := []) (ci := 5) (q0 := 5) hx hb hml hown hg hP hD hK hS hA hnw hgk (x_seek l D ks H.size ad kk V137 L Z (V 71 gf) (V 72 gf) (V 69 gf) (b) hMV137 (by (first | exact om_6dc9440127e4 r2.1 r2.2 | omega)) (by (first | exact om_13ba01c174fe r139.1 r139.2 | omega)) (show b < 2 from by (first | exact om_f940a4667dd6 hb2 | omega)) mt157) w1256 w1258 w45 w171 w1259 rfl xgMachine hdV_yX5_seek ⟨Nat.le_of_ble_eq_true rfl, Nat.le_of_ble_eq_true rfl⟩ rfl hl.1 rfl (Nat.le_of_ble_eq_true rfl) dX5_goOnGetting_25 ⟨z1 zoZ.1, z1 zoZ.2.1⟩) hD hS hA (fun u162 H locs w163 hP hD hK hS y164 y165 => ?_)
    obtain ⟨V166, L167, Z168⟩ := u162
    obtain ⟨hMV166, ajV166, axL167, zlZ168, t170⟩ := w163
    have axL167 : L = L167 := Eq.symm axL167
    subst axL167
    have hP : va_P D vwCl (xw ad kk V166 L Z168) H := hP
    have hD : va_D A (xw ad kk V166 L Z168) := hD
    have hK : va_K D vwCl (xty kk Z168) s := hK
    have hMV166 : rgd bX V166 := hMV166
    have ajV166 : agr [(3, 13), (5, 6), (5, 9), (5, 10), (5, 11), (5, 12), (5, 13), (5, 14)] [25, 26, 27, 28, 30, 67, 68, 69, 70, 71, 72, 73, 74, 75, 76, 77, 78, 79, 80, 81, 82, 83, 84, 85] V137 V166 := ajV166
    have agV166 : agr [(3, 13), (5, 6), (5, 8), (5, 9), (5, 10), (5, 11), (5, 12), (5, 13), (5, 14)] [25, 26, 27, 28, 30, 67, 68, 69, 70, 71, 72, 73, 74, 75, 76, 77, 78, 79, 80, 81, 82, 83, 84, 85] V V166 := agV137.tr ajV166 (by decide) (by decide)
    have zlZ168 : ZL Z Z168 := zlZ168
    have zoZ168 : ZL Z Z168 := ZL.tr zoZ zlZ168
    have ziZ168 := zlZ168.1
    have zjZ168 := zlZ168.2.1
    have zkZ168 := zlZ168.2.2.1
    have zmZ168 := zoZ168.1
    have znZ168 := zoZ168.2.1
    have zpZ_Z168 := zoZ.1
    have zqZ_Z168 := zoZ.2.1
    have y164 : H.size ≤ Hk158.size + (zcc Z - zcc Z168) := by rw [hHk158]; exact y164
    have y165 : tot H ≤ tot Hk158 + (zss Z - zss Z168) := by rw [hHk158]; exact y165
    refine W.tight (k := zcc Z - zcc Z168) (n := zss Z - zss Z168) (by first | exact tg9 y164 k159 zlZ168.1 zoZ.1 | omega) (by first | exact tg9 y165 k160 zlZ168.2.1 zoZ.2.1 | omega) ?_
    have hl : lv_has ls 2 [(0, .ref (ad 5)), (1, .ref (Z168.fa gf))] := by rw [zlZ168.2.2.2.2 gf hgf]; exact hl
    have t170 : MJ V166 Z168 b := t170
    refine W.know (fun kr1 kr2 => ?_)
    refine W.widen (k := zcc Z) (n := zss Z) (Nat.sub_le _ _) (Nat.sub_le _ _) ?_
    exact W.vret hx hb hr (fun t ht hW => ⟨⟨(V166, L, Z168), rfl, ⟨hMV166, agV166, rfl, zoZ168, t170⟩, ⟨by rw [ht]; exact hP, va_K.moved hW.alike hK, hD⟩, by rw [ht]; exact kr1, by rw [ht]; exact kr2⟩, hS.F ht⟩) hS.2.2 dX5_goOnGetting_28
end
