/-! a BOOK that is empty; the other BOOK -/
theorem CD.zero {V : Vf} {b : Nat} (h : (V 42 b).toInt = 0) : CD V b := by
  refine ⟨⟨fun _ => ?_, fun p h1 _ => absurd h1 (by omega)⟩, fun p h1 _ => absurd h1 (by omega)⟩
  rw [h]
  rfl
theorem TX.zero {V : Vf} {b : Nat} (h1 : (V 43 (5 * b + 2)).toInt = 0) (h2 : (V 41 b).toInt = 0) : TX V b := ⟨fun c hc => absurd hc (by omega), fun w hw => absurd hw (by omega), fun a ha => absurd ha (by omega)⟩
theorem w765 : Cond.code yX0_clear cX0_clear 1 none ∈ GW := gw_k tk9_3 130 (rfl) rfl
theorem w762 : Cond.methodLink RX1 19 yX0_clear ∈ GW := gw_k tk9_3 127 (by decide +kernel) rfl
theorem w763 : Cond.instanceMethod yX0_clear ∈ GW := gw_k tk9_3 128 (by decide +kernel) rfl
theorem w764 : Cond.selects RX0 yX0_clear yX0_clear ∈ GW := gw_k tk9_3 129 (by decide +kernel) rfl
theorem hdV_yX0_clear : yX0_clear.cls = RX0 ∧ yX0_clear.cls ≠ "java/lang/invoke/MethodHandle" ∧ yX0_clear.cls ≠ "java/lang/invoke/VarHandle" ∧ (parseMethodDescriptor yX0_clear.desc).map (fun d => d.parameters.length) = some 0 := by decide +kernel
theorem w769 : Cond.code yX9_begin cX9_begin 2 none ∈ GW := gw_k tk9_3 134 (rfl) rfl
theorem w766 : Cond.methodLink RX1 32 yX9_begin ∈ GW := gw_k tk9_3 131 (by decide +kernel) rfl
theorem w767 : Cond.instanceMethod yX9_begin ∈ GW := gw_k tk9_3 132 (by decide +kernel) rfl
theorem w768 : Cond.selects RX9 yX9_begin yX9_begin ∈ GW := gw_k tk9_3 133 (by decide +kernel) rfl
theorem hdV_yX9_begin : yX9_begin.cls = RX9 ∧ yX9_begin.cls ≠ "java/lang/invoke/MethodHandle" ∧ yX9_begin.cls ≠ "java/lang/invoke/VarHandle" ∧ (parseMethodDescriptor yX9_begin.desc).map (fun d => d.parameters.length) = some 0 := by decide +kernel
theorem w858 : Cond.code yX1_readStatement cX1_readStatement 1 (some .boolean) ∈ GW := gw_k tk9_3 223 (rfl) rfl
theorem w855 : Cond.methodLink RX1 40 yX1_readStatement ∈ GW := gw_k tk9_3 220 (by decide +kernel) rfl
theorem w857 : Cond.instanceMethod yX1_readStatement ∈ GW := gw_k tk9_3 222 (by decide +kernel) rfl
theorem w4 : Cond.selects RX1 yX1_readStatement yX1_readStatement ∈ GW := gw_mem 4 (by decide +kernel) rfl
theorem hdV_yX1_readStatement : yX1_readStatement.cls = RX1 ∧ yX1_readStatement.cls ≠ "java/lang/invoke/MethodHandle" ∧ yX1_readStatement.cls ≠ "java/lang/invoke/VarHandle" ∧ (parseMethodDescriptor yX1_readStatement.desc).map (fun d => d.parameters.length) = some 0 := by decide +kernel
theorem w1006 : Cond.code yX1_readMember cX1_readMember 2 (some .boolean) ∈ GW := gw_k tk9_4 131 (rfl) rfl
theorem w1003 : Cond.methodLink RX1 44 yX1_readMember ∈ GW := gw_k tk9_4 128 (by decide +kernel) rfl
theorem w1005 : Cond.instanceMethod yX1_readMember ∈ GW := gw_k tk9_4 130 (by decide +kernel) rfl
theorem w31 : Cond.selects RX1 yX1_readMember yX1_readMember ∈ GW := gw_mem 31 (by decide +kernel) rfl
theorem hdV_yX1_readMember : yX1_readMember.cls = RX1 ∧ yX1_readMember.cls ≠ "java/lang/invoke/MethodHandle" ∧ yX1_readMember.cls ≠ "java/lang/invoke/VarHandle" ∧ (parseMethodDescriptor yX1_readMember.desc).map (fun d => d.parameters.length) = some 0 := by decide +kernel
theorem w1051 : Cond.methodLink RX11 96 yX9_begin ∈ GW := gw_k tk9_4 176 (by decide +kernel) rfl
theorem n263 : lw_tbl[263]? = some (Cond.fieldLinkNest RX11 99 "WiringHouse$Tape" "kind" "I" "WiringHouse") := la9 (n := 155) (i := 108) lz9 (lb9 (i := 108) (by decide +kernel))
theorem n267 : lw_tbl[267]? = some (Cond.fieldLinkNest RX11 102 "WiringHouse$Tape" "value" "J" "WiringHouse") := la9 (n := 155) (i := 112) lz9 (lb9 (i := 112) (by decide +kernel))
theorem w1052 : Cond.methodLink RX11 106 yX9_next ∈ GW := gw_k tk9_4 177 (by decide +kernel) rfl
theorem w1022 : Cond.code yX9_empty cX9_empty 1 none ∈ GW := gw_k tk9_4 147 (rfl) rfl
theorem w1019 : Cond.methodLink RX11 77 yX9_empty ∈ GW := gw_k tk9_4 144 (by decide +kernel) rfl
theorem w1020 : Cond.instanceMethod yX9_empty ∈ GW := gw_k tk9_4 145 (by decide +kernel) rfl
theorem w1021 : Cond.selects RX9 yX9_empty yX9_empty ∈ GW := gw_k tk9_4 146 (by decide +kernel) rfl
theorem hdV_yX9_empty : yX9_empty.cls = RX9 ∧ yX9_empty.cls ≠ "java/lang/invoke/MethodHandle" ∧ yX9_empty.cls ≠ "java/lang/invoke/VarHandle" ∧ (parseMethodDescriptor yX9_empty.desc).map (fun d => d.parameters.length) = some 0 := by decide +kernel
theorem w1056 : Cond.code yX0_numberOf cX0_numberOf 4 (some .int) ∈ GW := gw_k tk9_4 181 (rfl) rfl
theorem w1053 : Cond.methodLink RX11 109 yX0_numberOf ∈ GW := gw_k tk9_4 178 (by decide +kernel) rfl
theorem w1054 : Cond.instanceMethod yX0_numberOf ∈ GW := gw_k tk9_4 179 (by decide +kernel) rfl
theorem w1055 : Cond.selects RX0 yX0_numberOf yX0_numberOf ∈ GW := gw_k tk9_4 180 (by decide +kernel) rfl
theorem hdV_yX0_numberOf : yX0_numberOf.cls = RX0 ∧ yX0_numberOf.cls ≠ "java/lang/invoke/MethodHandle" ∧ yX0_numberOf.cls ≠ "java/lang/invoke/VarHandle" ∧ (parseMethodDescriptor yX0_numberOf.desc).map (fun d => d.parameters.length) = some 2 := by decide +kernel
theorem dk9_dX1_read_0_0 : dOk cX1_read [(0, .aload_n 0, 1), (1, .aload_n 1, 1), (2, .putfield 15, 3), (5, .aload_n 0, 1), (6, .getfield 15, 3), (9, .invokevirtual 19, 3), (12, .aload_n 0, 1), (13, .aconst_null, 1), (14, .putfield 24, 3), (17, .aload_n 0, 1), (18, .iconst 0, 1), (19, .putfield 28, 3), (22, .aload_n 0, 1), (23, .getfield 9, 3), (26, .invokevirtual 32, 3), (29, .iconst 0, 1), (30, .istore_n 2, 1), (31, .iload_n 2, 1), (32, .sipush 4000, 3), (35, .if_icmp .ge 47, 3), (82, .aload_n 0, 1), (83, .getfield 24, 3), (86, .ifnull 9, 3), (95, .aload_n 0, 1)] = true ∧ dOk cX1_read [(96, .getfield 28, 3), (99, .ireturn, 1), (89, .aload_n 0, 1), (90, .iconst 1, 1), (91, .invokevirtual 47, 3), (94, .pop, 1), (38, .aload_n 0, 1), (39, .getfield 9, 3), (42, .getfield 37, 3), (45, .ifCond .eq 37, 3), (48, .aload_n 0, 1), (49, .getfield 24, 3), (52, .ifnonnull 10, 3), (55, .aload_n 0, 1), (56, .invokevirtual 40, 3), (59, .goto 7, 3), (66, .istore_n 3, 1), (67, .iload_n 3, 1), (68, .ifCond .ne 8, 3), (76, .iinc 2 1, 3), (79, .goto (-48), 3), (71, .aload_n 0, 1), (72, .getfield 28, 3), (75, .ireturn, 1)] = true ∧ dOk cX1_read [(62, .aload_n 0, 1), (63, .invokevirtual 44, 3)] = true := by decide +kernel
theorem dX1_read_0 : decode cX1_read 0 = .ok (.aload_n 0, 1) := dr9 dk9_dX1_read_0_0.1 0 (0, .aload_n 0, 1) rfl
theorem dX1_read_1 : decode cX1_read 1 = .ok (.aload_n 1, 1) := dr9 dk9_dX1_read_0_0.1 1 (1, .aload_n 1, 1) rfl
theorem dX1_read_2 : decode cX1_read 2 = .ok (.putfield 15, 3) := dr9 dk9_dX1_read_0_0.1 2 (2, .putfield 15, 3) rfl
theorem dX1_read_5 : decode cX1_read 5 = .ok (.aload_n 0, 1) := dr9 dk9_dX1_read_0_0.1 3 (5, .aload_n 0, 1) rfl
theorem dX1_read_6 : decode cX1_read 6 = .ok (.getfield 15, 3) := dr9 dk9_dX1_read_0_0.1 4 (6, .getfield 15, 3) rfl
theorem dX1_read_9 : decode cX1_read 9 = .ok (.invokevirtual 19, 3) := dr9 dk9_dX1_read_0_0.1 5 (9, .invokevirtual 19, 3) rfl
theorem dX1_read_12 : decode cX1_read 12 = .ok (.aload_n 0, 1) := dr9 dk9_dX1_read_0_0.1 6 (12, .aload_n 0, 1) rfl
theorem dX1_read_13 : decode cX1_read 13 = .ok (.aconst_null, 1) := dr9 dk9_dX1_read_0_0.1 7 (13, .aconst_null, 1) rfl
theorem dX1_read_14 : decode cX1_read 14 = .ok (.putfield 24, 3) := dr9 dk9_dX1_read_0_0.1 8 (14, .putfield 24, 3) rfl
theorem dX1_read_17 : decode cX1_read 17 = .ok (.aload_n 0, 1) := dr9 dk9_dX1_read_0_0.1 9 (17, .aload_n 0, 1) rfl
theorem dX1_read_18 : decode cX1_read 18 = .ok (.iconst 0, 1) := dr9 dk9_dX1_read_0_0.1 10 (18, .iconst 0, 1) rfl
theorem dX1_read_19 : decode cX1_read 19 = .ok (.putfield 28, 3) := dr9 dk9_dX1_read_0_0.1 11 (19, .putfield 28, 3) rfl
theorem dX1_read_22 : decode cX1_read 22 = .ok (.aload_n 0, 1) := dr9 dk9_dX1_read_0_0.1 12 (22, .aload_n 0, 1) rfl
theorem dX1_read_23 : decode cX1_read 23 = .ok (.getfield 9, 3) := dr9 dk9_dX1_read_0_0.1 13 (23, .getfield 9, 3) rfl
theorem dX1_read_26 : decode cX1_read 26 = .ok (.invokevirtual 32, 3) := dr9 dk9_dX1_read_0_0.1 14 (26, .invokevirtual 32, 3) rfl
theorem dX1_read_29 : decode cX1_read 29 = .ok (.iconst 0, 1) := dr9 dk9_dX1_read_0_0.1 15 (29, .iconst 0, 1) rfl
theorem dX1_read_30 : decode cX1_read 30 = .ok (.istore_n 2, 1) := dr9 dk9_dX1_read_0_0.1 16 (30, .istore_n 2, 1) rfl
theorem dX1_read_31 : decode cX1_read 31 = .ok (.iload_n 2, 1) := dr9 dk9_dX1_read_0_0.1 17 (31, .iload_n 2, 1) rfl
theorem dX1_read_32 : decode cX1_read 32 = .ok (.sipush 4000, 3) := dr9 dk9_dX1_read_0_0.1 18 (32, .sipush 4000, 3) rfl
theorem dX1_read_35 : decode cX1_read 35 = .ok (.if_icmp .ge 47, 3) := dr9 dk9_dX1_read_0_0.1 19 (35, .if_icmp .ge 47, 3) rfl
theorem dX1_read_82 : decode cX1_read 82 = .ok (.aload_n 0, 1) := dr9 dk9_dX1_read_0_0.1 20 (82, .aload_n 0, 1) rfl
theorem dX1_read_83 : decode cX1_read 83 = .ok (.getfield 24, 3) := dr9 dk9_dX1_read_0_0.1 21 (83, .getfield 24, 3) rfl
theorem dX1_read_86 : decode cX1_read 86 = .ok (.ifnull 9, 3) := dr9 dk9_dX1_read_0_0.1 22 (86, .ifnull 9, 3) rfl
theorem dX1_read_95 : decode cX1_read 95 = .ok (.aload_n 0, 1) := dr9 dk9_dX1_read_0_0.1 23 (95, .aload_n 0, 1) rfl
theorem dX1_read_96 : decode cX1_read 96 = .ok (.getfield 28, 3) := dr9 dk9_dX1_read_0_0.2.1 0 (96, .getfield 28, 3) rfl
theorem dX1_read_99 : decode cX1_read 99 = .ok (.ireturn, 1) := dr9 dk9_dX1_read_0_0.2.1 1 (99, .ireturn, 1) rfl
theorem dX1_read_89 : decode cX1_read 89 = .ok (.aload_n 0, 1) := dr9 dk9_dX1_read_0_0.2.1 2 (89, .aload_n 0, 1) rfl
theorem dX1_read_90 : decode cX1_read 90 = .ok (.iconst 1, 1) := dr9 dk9_dX1_read_0_0.2.1 3 (90, .iconst 1, 1) rfl
theorem dX1_read_91 : decode cX1_read 91 = .ok (.invokevirtual 47, 3) := dr9 dk9_dX1_read_0_0.2.1 4 (91, .invokevirtual 47, 3) rfl
theorem dX1_read_94 : decode cX1_read 94 = .ok (.pop, 1) := dr9 dk9_dX1_read_0_0.2.1 5 (94, .pop, 1) rfl
theorem dX1_read_38 : decode cX1_read 38 = .ok (.aload_n 0, 1) := dr9 dk9_dX1_read_0_0.2.1 6 (38, .aload_n 0, 1) rfl
theorem dX1_read_39 : decode cX1_read 39 = .ok (.getfield 9, 3) := dr9 dk9_dX1_read_0_0.2.1 7 (39, .getfield 9, 3) rfl
theorem dX1_read_42 : decode cX1_read 42 = .ok (.getfield 37, 3) := dr9 dk9_dX1_read_0_0.2.1 8 (42, .getfield 37, 3) rfl
theorem dX1_read_45 : decode cX1_read 45 = .ok (.ifCond .eq 37, 3) := dr9 dk9_dX1_read_0_0.2.1 9 (45, .ifCond .eq 37, 3) rfl
theorem dX1_read_48 : decode cX1_read 48 = .ok (.aload_n 0, 1) := dr9 dk9_dX1_read_0_0.2.1 10 (48, .aload_n 0, 1) rfl
theorem dX1_read_49 : decode cX1_read 49 = .ok (.getfield 24, 3) := dr9 dk9_dX1_read_0_0.2.1 11 (49, .getfield 24, 3) rfl
theorem dX1_read_52 : decode cX1_read 52 = .ok (.ifnonnull 10, 3) := dr9 dk9_dX1_read_0_0.2.1 12 (52, .ifnonnull 10, 3) rfl
theorem dX1_read_55 : decode cX1_read 55 = .ok (.aload_n 0, 1) := dr9 dk9_dX1_read_0_0.2.1 13 (55, .aload_n 0, 1) rfl
theorem dX1_read_56 : decode cX1_read 56 = .ok (.invokevirtual 40, 3) := dr9 dk9_dX1_read_0_0.2.1 14 (56, .invokevirtual 40, 3) rfl
theorem dX1_read_59 : decode cX1_read 59 = .ok (.goto 7, 3) := dr9 dk9_dX1_read_0_0.2.1 15 (59, .goto 7, 3) rfl
theorem dX1_read_66 : decode cX1_read 66 = .ok (.istore_n 3, 1) := dr9 dk9_dX1_read_0_0.2.1 16 (66, .istore_n 3, 1) rfl
theorem dX1_read_67 : decode cX1_read 67 = .ok (.iload_n 3, 1) := dr9 dk9_dX1_read_0_0.2.1 17 (67, .iload_n 3, 1) rfl
theorem dX1_read_68 : decode cX1_read 68 = .ok (.ifCond .ne 8, 3) := dr9 dk9_dX1_read_0_0.2.1 18 (68, .ifCond .ne 8, 3) rfl
theorem dX1_read_76 : decode cX1_read 76 = .ok (.iinc 2 1, 3) := dr9 dk9_dX1_read_0_0.2.1 19 (76, .iinc 2 1, 3) rfl
theorem dX1_read_79 : decode cX1_read 79 = .ok (.goto (-48), 3) := dr9 dk9_dX1_read_0_0.2.1 20 (79, .goto (-48), 3) rfl
theorem dX1_read_71 : decode cX1_read 71 = .ok (.aload_n 0, 1) := dr9 dk9_dX1_read_0_0.2.1 21 (71, .aload_n 0, 1) rfl
theorem dX1_read_72 : decode cX1_read 72 = .ok (.getfield 28, 3) := dr9 dk9_dX1_read_0_0.2.1 22 (72, .getfield 28, 3) rfl
theorem dX1_read_75 : decode cX1_read 75 = .ok (.ireturn, 1) := dr9 dk9_dX1_read_0_0.2.1 23 (75, .ireturn, 1) rfl
theorem dX1_read_62 : decode cX1_read 62 = .ok (.aload_n 0, 1) := dr9 dk9_dX1_read_0_0.2.2 0 (62, .aload_n 0, 1) rfl
theorem dX1_read_63 : decode cX1_read 63 = .ok (.invokevirtual 44, 3) := dr9 dk9_dX1_read_0_0.2.2 1 (63, .invokevirtual 44, 3) rfl
theorem dk9_dX11_named_0_0 : dOk cX11_named [(0, .aload_n 0, 1), (1, .getfield 10, 3), (4, .invokevirtual 96, 3), (7, .aload_n 0, 1), (8, .getfield 10, 3), (11, .getfield 99, 3), (14, .iconst 3, 1), (15, .if_icmp .ne 7, 3), (22, .iconst 0, 1), (23, .istore_n 2, 1), (24, .aload_n 0, 1), (25, .getfield 10, 3), (28, .getfield 102, 3), (31, .lstore_n 3, 1), (32, .aload_n 0, 1), (33, .getfield 10, 3), (36, .invokevirtual 106, 3), (39, .aload_n 0, 1), (40, .getfield 10, 3), (43, .getfield 99, 3), (46, .ifCond .ne 7, 3), (53, .iconst 0, 1), (54, .istore 5, 2), (56, .aload_n 0, 1)] = true ∧ dOk cX11_named [(57, .getfield 10, 3), (60, .invokevirtual 77, 3), (63, .iload_n 2, 1), (64, .ifCond .eq 20, 3), (84, .iconst (-1), 1), (85, .ireturn, 1), (49, .iconst 1, 1), (50, .goto 4, 3), (18, .iconst 1, 1), (19, .goto 4, 3), (67, .iload 5, 2), (69, .ifCond .eq 15, 3), (72, .aload_n 0, 1), (73, .getfield 49, 3), (76, .lload_n 3, 1), (77, .iload_n 1, 1), (78, .invokevirtual 109, 3), (81, .goto 4, 3)] = true := by decide +kernel
theorem dX11_named_0 : decode cX11_named 0 = .ok (.aload_n 0, 1) := dr9 dk9_dX11_named_0_0.1 0 (0, .aload_n 0, 1) rfl
theorem dX11_named_1 : decode cX11_named 1 = .ok (.getfield 10, 3) := dr9 dk9_dX11_named_0_0.1 1 (1, .getfield 10, 3) rfl
theorem dX11_named_4 : decode cX11_named 4 = .ok (.invokevirtual 96, 3) := dr9 dk9_dX11_named_0_0.1 2 (4, .invokevirtual 96, 3) rfl
theorem dX11_named_7 : decode cX11_named 7 = .ok (.aload_n 0, 1) := dr9 dk9_dX11_named_0_0.1 3 (7, .aload_n 0, 1) rfl
theorem dX11_named_8 : decode cX11_named 8 = .ok (.getfield 10, 3) := dr9 dk9_dX11_named_0_0.1 4 (8, .getfield 10, 3) rfl
theorem dX11_named_11 : decode cX11_named 11 = .ok (.getfield 99, 3) := dr9 dk9_dX11_named_0_0.1 5 (11, .getfield 99, 3) rfl
theorem dX11_named_14 : decode cX11_named 14 = .ok (.iconst 3, 1) := dr9 dk9_dX11_named_0_0.1 6 (14, .iconst 3, 1) rfl
theorem dX11_named_15 : decode cX11_named 15 = .ok (.if_icmp .ne 7, 3) := dr9 dk9_dX11_named_0_0.1 7 (15, .if_icmp .ne 7, 3) rfl
theorem dX11_named_22 : decode cX11_named 22 = .ok (.iconst 0, 1) := dr9 dk9_dX11_named_0_0.1 8 (22, .iconst 0, 1) rfl
theorem dX11_named_23 : decode cX11_named 23 = .ok (.istore_n 2, 1) := dr9 dk9_dX11_named_0_0.1 9 (23, .istore_n 2, 1) rfl
theorem dX11_named_24 : decode cX11_named 24 = .ok (.aload_n 0, 1) := dr9 dk9_dX11_named_0_0.1 10 (24, .aload_n 0, 1) rfl
theorem dX11_named_25 : decode cX11_named 25 = .ok (.getfield 10, 3) := dr9 dk9_dX11_named_0_0.1 11 (25, .getfield 10, 3) rfl
theorem dX11_named_28 : decode cX11_named 28 = .ok (.getfield 102, 3) := dr9 dk9_dX11_named_0_0.1 12 (28, .getfield 102, 3) rfl
theorem dX11_named_31 : decode cX11_named 31 = .ok (.lstore_n 3, 1) := dr9 dk9_dX11_named_0_0.1 13 (31, .lstore_n 3, 1) rfl
theorem dX11_named_32 : decode cX11_named 32 = .ok (.aload_n 0, 1) := dr9 dk9_dX11_named_0_0.1 14 (32, .aload_n 0, 1) rfl
theorem dX11_named_33 : decode cX11_named 33 = .ok (.getfield 10, 3) := dr9 dk9_dX11_named_0_0.1 15 (33, .getfield 10, 3) rfl
theorem dX11_named_36 : decode cX11_named 36 = .ok (.invokevirtual 106, 3) := dr9 dk9_dX11_named_0_0.1 16 (36, .invokevirtual 106, 3) rfl
theorem dX11_named_39 : decode cX11_named 39 = .ok (.aload_n 0, 1) := dr9 dk9_dX11_named_0_0.1 17 (39, .aload_n 0, 1) rfl
theorem dX11_named_40 : decode cX11_named 40 = .ok (.getfield 10, 3) := dr9 dk9_dX11_named_0_0.1 18 (40, .getfield 10, 3) rfl
theorem dX11_named_43 : decode cX11_named 43 = .ok (.getfield 99, 3) := dr9 dk9_dX11_named_0_0.1 19 (43, .getfield 99, 3) rfl
theorem dX11_named_46 : decode cX11_named 46 = .ok (.ifCond .ne 7, 3) := dr9 dk9_dX11_named_0_0.1 20 (46, .ifCond .ne 7, 3) rfl
theorem dX11_named_53 : decode cX11_named 53 = .ok (.iconst 0, 1) := dr9 dk9_dX11_named_0_0.1 21 (53, .iconst 0, 1) rfl
theorem dX11_named_54 : decode cX11_named 54 = .ok (.istore 5, 2) := dr9 dk9_dX11_named_0_0.1 22 (54, .istore 5, 2) rfl
theorem dX11_named_56 : decode cX11_named 56 = .ok (.aload_n 0, 1) := dr9 dk9_dX11_named_0_0.1 23 (56, .aload_n 0, 1) rfl
theorem dX11_named_57 : decode cX11_named 57 = .ok (.getfield 10, 3) := dr9 dk9_dX11_named_0_0.2 0 (57, .getfield 10, 3) rfl
theorem dX11_named_60 : decode cX11_named 60 = .ok (.invokevirtual 77, 3) := dr9 dk9_dX11_named_0_0.2 1 (60, .invokevirtual 77, 3) rfl
theorem dX11_named_63 : decode cX11_named 63 = .ok (.iload_n 2, 1) := dr9 dk9_dX11_named_0_0.2 2 (63, .iload_n 2, 1) rfl
theorem dX11_named_64 : decode cX11_named 64 = .ok (.ifCond .eq 20, 3) := dr9 dk9_dX11_named_0_0.2 3 (64, .ifCond .eq 20, 3) rfl
theorem dX11_named_84 : decode cX11_named 84 = .ok (.iconst (-1), 1) := dr9 dk9_dX11_named_0_0.2 4 (84, .iconst (-1), 1) rfl
theorem dX11_named_85 : decode cX11_named 85 = .ok (.ireturn, 1) := dr9 dk9_dX11_named_0_0.2 5 (85, .ireturn, 1) rfl
theorem dX11_named_49 : decode cX11_named 49 = .ok (.iconst 1, 1) := dr9 dk9_dX11_named_0_0.2 6 (49, .iconst 1, 1) rfl
theorem dX11_named_50 : decode cX11_named 50 = .ok (.goto 4, 3) := dr9 dk9_dX11_named_0_0.2 7 (50, .goto 4, 3) rfl
theorem dX11_named_18 : decode cX11_named 18 = .ok (.iconst 1, 1) := dr9 dk9_dX11_named_0_0.2 8 (18, .iconst 1, 1) rfl
theorem dX11_named_19 : decode cX11_named 19 = .ok (.goto 4, 3) := dr9 dk9_dX11_named_0_0.2 9 (19, .goto 4, 3) rfl
theorem dX11_named_67 : decode cX11_named 67 = .ok (.iload 5, 2) := dr9 dk9_dX11_named_0_0.2 10 (67, .iload 5, 2) rfl
theorem dX11_named_69 : decode cX11_named 69 = .ok (.ifCond .eq 15, 3) := dr9 dk9_dX11_named_0_0.2 11 (69, .ifCond .eq 15, 3) rfl
theorem dX11_named_72 : decode cX11_named 72 = .ok (.aload_n 0, 1) := dr9 dk9_dX11_named_0_0.2 12 (72, .aload_n 0, 1) rfl
theorem dX11_named_73 : decode cX11_named 73 = .ok (.getfield 49, 3) := dr9 dk9_dX11_named_0_0.2 13 (73, .getfield 49, 3) rfl
theorem dX11_named_76 : decode cX11_named 76 = .ok (.lload_n 3, 1) := dr9 dk9_dX11_named_0_0.2 14 (76, .lload_n 3, 1) rfl
theorem dX11_named_77 : decode cX11_named 77 = .ok (.iload_n 1, 1) := dr9 dk9_dX11_named_0_0.2 15 (77, .iload_n 1, 1) rfl
theorem dX11_named_78 : decode cX11_named 78 = .ok (.invokevirtual 109, 3) := dr9 dk9_dX11_named_0_0.2 16 (78, .invokevirtual 109, 3) rfl
theorem dX11_named_81 : decode cX11_named 81 = .ok (.goto 4, 3) := dr9 dk9_dX11_named_0_0.2 17 (81, .goto 4, 3) rfl
abbrev r_x_read : Room := { frames := 93, cells := 0, slots := 0, locals := 2728 }
abbrev q_x_read (D : va_G) (ks : KS) (ad : Nat → Nat) (kk : Nat → ClassId) (V : Vf) (L : Lf) (Z : XZ) (b : Nat) (A : Nat → Prop) : Array Value → State → Outcome → State → Prop := va_Qi (fun (r : Int32) (u : Vf × Lf) => rgd bX u.1 ∧ agr [(1, 1), (1, 2), (1, 3), (1, 4), (1, 6), (1, 7), (1, 8), (6, 6), (6, 7), (6, 8), (6, 9), (6, 10)] [12, 13, 14, 41, 42, 43, 44, 45, 46, 47, 48, 49, 50, 51, 52, 53, 54, 55, 56, 57, 58, 59, 60, 61, 62, 63, 64, 65, 66] V u.1 ∧ agL [1, 6, 14, 44] L u.2 ∧ frX (xR b) V u.1 ∧ (Imp (r.toInt = 0) (CD u.1 b ∧ TX u.1 b))) (fun u t => gq D A (xw ad kk u.1 u.2 Z) (xty kk Z) t) A
set_option maxHeartbeats 4000000 in
set_option maxRecDepth 100000 in
theorem x_read (l : Launch) (D : va_G) (ks : KS) (sz : Nat) (ad : Nat → Nat) (kk : Nat → ClassId) (V : Vf) (L : Lf) (Z : XZ) (b : Nat) (hMV : rgd bX V) (hb2 : b < 2)  : Met l yX1_read (Cond.code yX1_read cX1_read 4 (some .int) :: GW) r_x_read (va_Pc [.ref (ad 1), .ref (ad (38 + b))] (gp D ks (xw ad kk V L Z) (xty kk Z) sz)) (q_x_read D ks ad kk V L Z  b (va_A (xw ad kk V L Z) sz)) 0 0 (va_A (xw ad kk V L Z) sz) := by
  refine g_met (q_x_read D ks ad kk V L Z  b) (by decide) (Nat.le_of_ble_eq_true rfl) ?_
  intro p e s m below meth c A ls H locs hx hb hr hml hown hg hlocks hin hnw hgk hP hK hD hS hA hl
  have hown : s.vm.findClass RX1 = some m.cls := hown
  have hl : lv_has ls 4 [(0, .ref (ad 1)), (1, .ref (ad (38 + b)))] := hl
  have hP : va_P D vwCl (xw ad kk V L Z) H := hP
  have hD : va_D A (xw ad kk V L Z) := hD
  have hK : va_K D vwCl (xty kk Z) s := hK
  have agV : agr [(1, 1), (1, 2), (1, 3), (1, 4), (1, 6), (1, 7), (1, 8), (6, 6), (6, 7), (6, 8), (6, 9), (6, 10)] [12, 13, 14, 41, 42, 43, 44, 45, 46, 47, 48, 49, 50, 51, 52, 53, 54, 55, 56, 57, 58, 59, 60, 61, 62, 63, 64, 65, 66] V V := agr.rf
  have alL : agL [1, 6, 14, 44] L L := agL.rf
  have fwV : frX (xR b) V V := frX.rf
  refine lv_aload_n hx hb dX1_read_0 rfl (lv_at hl 0 rfl) ?_
  refine lv_aload_n hx hb dX1_read_1 rfl (lv_at hl 1 rfl) ?_
  refine va_put (D := D) (ci := 1) (v := .ref (ad (38 + b))) (ty := tyX1 1) (fs := (xfReader ad V L Z)) (C := RX1) (T := TX1) (N := 9) hx hb hg inX1 tyX1 tyX1_ok nmX1 hown hK hP hD hS 1 xgReader rfl 1 (by decide) (hg _ w305) (fun _ h9 => h9) rfl (tyX1_ok 1 (by decide)) rfl rfl (Nat.le_of_ble_eq_true rfl) dX1_read_2 (fun H locs hP hD hS => ?_)
  have r1 : (nI b).toInt = ((b : Nat) : Int) := nI_toInt (by omega)
  obtain ⟨V2, hV2⟩ : ∃ z, z = up2 V 1 1 (nI b) := ⟨_, rfl⟩
  have ew3 : (xw ad kk V L Z).set 1 ((ad 1), .inr (1, (xfReader ad V L Z).set 1 (.ref (ad (38 + b))))) = xw ad kk V2 L Z := by rw [hV2]; exact xr_rbook hb2
  have hP : va_P D vwCl (xw ad kk V2 L Z) H := by rw [← ew3]; exact hP
  have hD : va_D A (xw ad kk V2 L Z) := by rw [← ew3]; exact hD
  have hMV2 : rgd bX V2 := hMV.put hV2 (show (-1) ≤ ((nI b)).toInt ∧ ((nI b)).toInt ≤ 1 from by omega)
  have agV2 : agr [(1, 1), (1, 2), (1, 3), (1, 4), (1, 6), (1, 7), (1, 8), (6, 6), (6, 7), (6, 8), (6, 9), (6, 10)] [12, 13, 14, 41, 42, 43, 44, 45, 46, 47, 48, 49, 50, 51, 52, 53, 54, 55, 56, 57, 58, 59, 60, 61, 62, 63, 64, 65, 66] V V2 := agV.up hV2 rfl
  have fwV2 : frX (xR b) V V2 := frX.up fwV hV2 (Or.inl (by decide))
  refine lv_aload_n hx hb dX1_read_5 rfl (lv_at hl 0 rfl) ?_
  refine va_get (D := D) (ci := 1) (v := rfN ad 38 (V2 1 1)) (fs := (xfReader ad V2 L Z)) (C := RX1) (T := TX1) (N := 9) hx hb hg inX1 hown hK hP 1 xgReader rfl 1 (by decide) (hg _ w305) (fun _ h9 => h9) rfl dX1_read_6 ?_
  have pq4 : (V2 1 1).toInt = ((nI b)).toInt := congrArg Int32.toInt (up2_s hV2)
  refine g_topv (v := .ref (ad (38 + b))) (rfN_r (by omega)) ?_
  refine gA_void (gA_runV (As := []) (rest := []) (ci := 0) (q0 := (38 + b)) hx hb hml hown hg hP hD hK hS hA hnw hgk (x_bclear l D ks H.size ad kk V2 L Z (b) hMV2 (show b < 2 from by omega)) w762 w763 w764 w167 w765 rfl (xgBook hb2) hdV_yX0_clear ⟨Nat.le_of_ble_eq_true rfl, Nat.le_of_ble_eq_true rfl⟩ rfl hl.1 rfl (Nat.le_of_ble_eq_true rfl) dX1_read_9 ⟨Nat.le_of_ble_eq_true rfl, Nat.le_of_ble_eq_true rfl⟩) hP hD hK hS hA (fun u6 H locs w7 hP hD hK hS => ?_)
  obtain ⟨V11, L12⟩ := u6
  obtain ⟨hMV11, ajV11, axL12, fyV11, t8, t9, t10⟩ := w7
  have axL12 : L = L12 := Eq.symm axL12
  subst axL12
  have hP : va_P D vwCl (xw ad kk V11 L Z) H := hP
  have hD : va_D A (xw ad kk V11 L Z) := hD
  have hMV11 : rgd bX V11 := hMV11
  have ajV11 : agr [] [41, 42, 43] V2 V11 := ajV11
  have agV11 : agr [(1, 1), (1, 2), (1, 3), (1, 4), (1, 6), (1, 7), (1, 8), (6, 6), (6, 7), (6, 8), (6, 9), (6, 10)] [12, 13, 14, 41, 42, 43, 44, 45, 46, 47, 48, 49, 50, 51, 52, 53, 54, 55, 56, 57, 58, 59, 60, 61, 62, 63, 64, 65, 66] V V11 := agV2.tr ajV11 (by decide) (by decide)
  have fwV11 : frX (xR b) V V11 := frX.tr fwV2 (fyV11)
  have t8 : (V11 42 b).toInt = 0 := t8
  have t9 : (V11 41 b).toInt = 0 := t9
  have t10 : (V11 43 (5 * b + 2)).toInt = 0 := t10
  have cd13 : CD V11 b := CD.zero t8
  have tx14 : TX V11 b := TX.zero t10 t9
  refine lv_aload_n hx hb dX1_read_12 rfl (lv_at hl 0 rfl) ?_
  refine lv_null hx hb dX1_read_13 ?_
  refine va_put (D := D) (ci := 1) (v := .null) (ty := tyX1 2) (fs := (xfReader ad V11 L Z)) (C := RX1) (T := TX1) (N := 9) hx hb hg inX1 tyX1 tyX1_ok nmX1 hown hK hP hD hS 1 xgReader rfl 2 (by decide) (hg _ w306) (fun _ h9 => h9) rfl (tyX1_ok 2 (by decide)) rfl rfl (Nat.le_of_ble_eq_true rfl) dX1_read_14 (fun H locs hP hD hS => ?_)
  obtain ⟨V15, hV15⟩ : ∃ z, z = up2 V11 1 2 (-1) := ⟨_, rfl⟩
  have ew16 : (xw ad kk V11 L Z).set 1 ((ad 1), .inr (1, (xfReader ad V11 L Z).set 2 (.null))) = xw ad kk V15 L Z := by rw [hV15]; exact xr_owner_n
  have hP : va_P D vwCl (xw ad kk V15 L Z) H := by rw [← ew16]; exact hP
  have hD : va_D A (xw ad kk V15 L Z) := by rw [← ew16]; exact hD
  have hMV15 : rgd bX V15 := hMV11.put hV15 (by decide)
  have agV15 : agr [(1, 1), (1, 2), (1, 3), (1, 4), (1, 6), (1, 7), (1, 8), (6, 6), (6, 7), (6, 8), (6, 9), (6, 10)] [12, 13, 14, 41, 42, 43, 44, 45, 46, 47, 48, 49, 50, 51, 52, 53, 54, 55, 56, 57, 58, 59, 60, 61, 62, 63, 64, 65, 66] V V15 := agV11.up hV15 rfl
  have fwV15 : frX (xR b) V V15 := frX.up fwV11 hV15 (Or.inl (by decide))
  refine lv_aload_n hx hb dX1_read_17 rfl (lv_at hl 0 rfl) ?_
  refine lv_iconst (v := 0) hx hb dX1_read_18 (by decide) ?_
  refine va_put (D := D) (ci := 1) (v := .int 0) (ty := tyX1 3) (fs := (xfReader ad V15 L Z)) (C := RX1) (T := TX1) (N := 9) hx hb hg inX1 tyX1 tyX1_ok nmX1 hown hK hP hD hS 1 xgReader rfl 3 (by decide) (hg _ w307) (fun _ h9 => h9) rfl (tyX1_ok 3 (by decide)) rfl rfl (Nat.le_of_ble_eq_true rfl) dX1_read_19 (fun H locs hP hD hS => ?_)
  obtain ⟨V17, hV17⟩ : ∃ z, z = up2 V15 1 3 0 := ⟨_, rfl⟩
  have ew18 : (xw ad kk V15 L Z).set 1 ((ad 1), .inr (1, (xfReader ad V15 L Z).set 3 (.int 0))) = xw ad kk V17 L Z := by rw [hV17]; exact xw_ss (by decide) rfl (xb_si (by decide))
  have hP : va_P D vwCl (xw ad kk V17 L Z) H := by rw [← ew18]; exact hP
  have hD : va_D A (xw ad kk V17 L Z) := by rw [← ew18]; exact hD
  have hMV17 : rgd bX V17 := hMV15.put hV17 (i_full _)
  have agV17 : agr [(1, 1), (1, 2), (1, 3), (1, 4), (1, 6), (1, 7), (1, 8), (6, 6), (6, 7), (6, 8), (6, 9), (6, 10)] [12, 13, 14, 41, 42, 43, 44, 45, 46, 47, 48, 49, 50, 51, 52, 53, 54, 55, 56, 57, 58, 59, 60, 61, 62, 63, 64, 65, 66] V V17 := agV15.up hV17 rfl
  have fwV17 : frX (xR b) V V17 := frX.up fwV15 hV17 (Or.inl (by decide))
  refine lv_aload_n hx hb dX1_read_22 rfl (lv_at hl 0 rfl) ?_
  refine va_get (D := D) (ci := 1) (v := .ref (ad 6)) (fs := (xfReader ad V17 L Z)) (C := RX1) (T := TX1) (N := 9) hx hb hg inX1 hown hK hP 1 xgReader rfl 0 (by decide) (hg _ w304) (fun _ h9 => h9) rfl dX1_read_23 ?_
  refine gA_void (gA_runV (As := []) (rest := []) (ci := 9) (q0 := 6) hx hb hml hown hg hP hD hK hS hA hnw hgk (x_begin l D ks H.size ad kk V17 L Z  hMV17 ) w766 w767 w768 w157 w769 rfl xgTape hdV_yX9_begin ⟨Nat.le_of_ble_eq_true rfl, Nat.le_of_ble_eq_true rfl⟩ rfl hl.1 rfl (Nat.le_of_ble_eq_true rfl) dX1_read_26 ⟨Nat.le_of_ble_eq_true rfl, Nat.le_of_ble_eq_true rfl⟩) hP hD hK hS hA (fun u20 H locs w21 hP hD hK hS => ?_)
  obtain ⟨V22, L23⟩ := u20
  obtain ⟨hMV22, ajV22, axL23⟩ := w21
  have alL23 : agL [1, 6, 14, 44] L L23 := agL.tr alL axL23 (by decide)
  have hP : va_P D vwCl (xw ad kk V22 L23 Z) H := hP
  have hD : va_D A (xw ad kk V22 L23 Z) := hD
  have hMV22 : rgd bX V22 := hMV22
  have ajV22 : agr [(6, 6), (6, 7), (6, 8), (6, 9), (6, 10)] [12, 13, 14] V17 V22 := ajV22
  have agV22 : agr [(1, 1), (1, 2), (1, 3), (1, 4), (1, 6), (1, 7), (1, 8), (6, 6), (6, 7), (6, 8), (6, 9), (6, 10)] [12, 13, 14, 41, 42, 43, 44, 45, 46, 47, 48, 49, 50, 51, 52, 53, 54, 55, 56, 57, 58, 59, 60, 61, 62, 63, 64, 65, 66] V V22 := agV17.tr ajV22 (by decide) (by decide)
  have fwV22 : frX (xR b) V V22 := frX.tr fwV17 (frX.ag ajV22 (by decide) (by decide))
  refine lv_iconst (v := 0) hx hb dX1_read_29 (by decide) ?_
  refine lv_istore_n (lv' := [(2, .int 0), (0, .ref (ad 1)), (1, .ref (ad (38 + b)))]) hx hb dX1_read_30 rfl hl (by decide) rfl (fun ls hl => ?_)
  have lp27 : ∀ (fulp27 : Nat) (y24 : Int32) (V25 : Vf) (L26 : Lf) (H : Heap) (locs : List Loc) (ls : Array Slot), 0 ≤ y24.toInt ∧ y24.toInt ≤ 4000 → CD V25 b → TX V25 b → (V25 1 2).toInt = -1 ∨ (24 * (b : Int) ≤ (V25 1 2).toInt ∧ (V25 1 2).toInt < 24 * (b : Int) + 24) → (V25 1 1).toInt = (b : Int) → 4000 - y24.toInt < (fulp27 : Int) → agL [1, 6, 14, 44] L L26 → agr [(1, 2), (1, 3), (1, 4), (1, 6), (1, 7), (1, 8), (6, 8), (6, 9), (6, 10)] [41, 42, 43, 44, 45, 46, 47, 48, 49, 50, 51, 52, 53, 54, 55, 56, 57, 58, 59, 60, 61, 62, 63, 64, 65, 66] V22 V25 → rgd bX V25 → frX (xR b) V V25 → va_P D vwCl (xw ad kk V25 L26 Z) H → va_D A (xw ad kk V25 L26 Z) → va_S A s.heap H locs → lv_has ls 4 [(2, .int y24), (0, .ref (ad 1)), (1, .ref (ad (38 + b)))] → W p l e r_x_read s m ([.ref (ad 1), .ref (ad (38 + b))] : List Value).toArray below meth c H locs 0 0 (MQ below (q_x_read D ks ad kk V L Z  b A) ([.ref (ad 1), .ref (ad (38 + b))] : List Value).toArray s 0 0 A) (F0 m 31 ls []) := by
    intro fulp27
    induction fulp27 with
    | zero =>
      intro y24 V25 L26 H locs ls klp27_0 xlp27_0 xlp27_1 xlp27_2 xlp27_3 hn alL26 ajV25 hMV25 fwV25 hP hD hS hl
      exfalso; omega
    | succ fulp27 ihlp27 =>
      intro y24 V25 L26 H locs ls klp27_0 xlp27_0 xlp27_1 xlp27_2 xlp27_3 hn alL26 ajV25 hMV25 fwV25 hP hD hS hl
      have agV25 : agr [(1, 1), (1, 2), (1, 3), (1, 4), (1, 6), (1, 7), (1, 8), (6, 6), (6, 7), (6, 8), (6, 9), (6, 10)] [12, 13, 14, 41, 42, 43, 44, 45, 46, 47, 48, 49, 50, 51, 52, 53, 54, 55, 56, 57, 58, 59, 60, 61, 62, 63, 64, 65, 66] V V25 := agV22.tr ajV25 (by decide) (by decide)
      have r28 : (-1) ≤ ((V25 1 2)).toInt ∧ ((V25 1 2)).toInt ≤ 47 := hMV25 1 2
      have pq29 : (V25 1 1).toInt = ((nI b)).toInt := congrArg Int32.toInt ((ajV25 1 1 rfl).trans ((ajV22 1 1 rfl).trans ((up2_k hV17 (by decide)).trans ((up2_k hV15 (by decide)).trans ((ajV11 1 1 rfl).trans (up2_s hV2))))))
      refine lv_iload_n hx hb dX1_read_31 rfl (lv_at hl 0 rfl) ?_
      refine lv_sipush (v := 4000) hx hb dX1_read_32 (by decide) ?_
      refine lv_icmp_ge (tgt := 82) hx hb dX1_read_35 (by decide) (fun c30 => ?_) (fun c30 => ?_)
      · skip
        have f31 : 4000 ≤ y24.toInt := b_le (by decide) rfl c30
        by_cases hon : (V25 1 2).toInt < 0
        · skip
          have ow1 : (V25 1 2).toInt = -1 := by omega
          refine lv_aload_n hx hb dX1_read_82 rfl (lv_at hl 1 rfl) ?_
          refine va_get (D := D) (ci := 1) (v := rfN ad 72 (V25 1 2)) (fs := (xfReader ad V25 L26 Z)) (C := RX1) (T := TX1) (N := 9) hx hb hg inX1 hown hK hP 1 xgReader rfl 2 (by decide) (hg _ w306) (fun _ h9 => h9) rfl dX1_read_83 ?_
          refine g_topv (v := .null) (rfN_n (by omega)) ?_
          refine lv_ifnullN (tgt := 95) hx hb dX1_read_86 (by decide) ?_
          refine lv_aload_n hx hb dX1_read_95 rfl (lv_at hl 1 rfl) ?_
          refine va_get (D := D) (ci := 1) (v := .int (V25 1 3)) (fs := (xfReader ad V25 L26 Z)) (C := RX1) (T := TX1) (N := 9) hx hb hg inX1 hown hK hP 1 xgReader rfl 3 (by decide) (hg _ w307) (fun _ h9 => h9) rfl dX1_read_96 ?_
          exact W.iret (v := (V25 1 3)) hx hb hr (fun t ht hW => ⟨⟨(V25 1 3), (V25, L26), rfl, ⟨hMV25, agV25, alL26, fwV25, (Imp.mk (fun _ => ⟨xlp27_0, xlp27_1⟩))⟩, by rw [ht]; exact hP, va_K.moved hW.alike hK, hD⟩, hS.F ht⟩) hS.2.2 dX1_read_99
        · skip
          have ko := i_clamp (x := V25 1 2) rfl (by omega)
          refine lv_aload_n hx hb dX1_read_82 rfl (lv_at hl 1 rfl) ?_
          refine va_get (D := D) (ci := 1) (v := rfN ad 72 (V25 1 2)) (fs := (xfReader ad V25 L26 Z)) (C := RX1) (T := TX1) (N := 9) hx hb hg inX1 hown hK hP 1 xgReader rfl 2 (by decide) (hg _ w306) (fun _ h9 => h9) rfl dX1_read_83 ?_
          refine g_topv (v := .ref (ad (72 + (Int32.toNatClampNeg (V25 1 2))))) (rfN_r (by omega)) ?_
          refine lv_ifnull hx hb dX1_read_86 ?_
          refine lv_aload_n hx hb dX1_read_89 rfl (lv_at hl 1 rfl) ?_
          refine lv_iconst (v := 1) hx hb dX1_read_90 (by decide) ?_
          have r32 : Int32.toInt 1 = 1 := by decide
          refine gA_int (gA_runV (As := [.int 1]) (rest := []) (ci := 1) (q0 := 1) hx hb hml hown hg hP hD hK hS hA hnw hgk (x_wrong l D ks H.size ad kk V25 L26 Z 1 hMV25 (by decide)) w867 w869 w6 w162 w870 rfl xgReader hdV_yX1_wrong ⟨Nat.le_of_ble_eq_true rfl, Nat.le_of_ble_eq_true rfl⟩ rfl hl.1 rfl (Nat.le_of_ble_eq_true rfl) dX1_read_91 ⟨Nat.le_of_ble_eq_true rfl, Nat.le_of_ble_eq_true rfl⟩) hP hD hK hS hA (fun z33 u34 H locs w35 hP hD hK hS => ?_)
          obtain ⟨V37, L38⟩ := u34
          obtain ⟨hMV37, ajV37, axL38, rgz33, t36⟩ := w35
          have axL38 : L26 = L38 := Eq.symm axL38
          subst axL38
          have hP : va_P D vwCl (xw ad kk V37 L26 Z) H := hP
          have hD : va_D A (xw ad kk V37 L26 Z) := hD
          have hMV37 : rgd bX V37 := hMV37
          have ajV37 : agr [(1, 3)] [] V25 V37 := ajV37
          have agV37 : agr [(1, 1), (1, 2), (1, 3), (1, 4), (1, 6), (1, 7), (1, 8), (6, 6), (6, 7), (6, 8), (6, 9), (6, 10)] [12, 13, 14, 41, 42, 43, 44, 45, 46, 47, 48, 49, 50, 51, 52, 53, 54, 55, 56, 57, 58, 59, 60, 61, 62, 63, 64, 65, 66] V V37 := agV25.tr ajV37 (by decide) (by decide)
          have fwV37 : frX (xR b) V V37 := frX.tr fwV25 (frX.ag ajV37 (by decide) (by decide))
          have rgz33 : 0 ≤ z33.toInt ∧ z33.toInt ≤ 0 := rgz33
          have t36 : 1 ≤ (V37 1 3).toInt := t36
          refine lv_pop hx hb dX1_read_94 rfl ?_
          refine lv_aload_n hx hb dX1_read_95 rfl (lv_at hl 1 rfl) ?_
          refine va_get (D := D) (ci := 1) (v := .int (V37 1 3)) (fs := (xfReader ad V37 L26 Z)) (C := RX1) (T := TX1) (N := 9) hx hb hg inX1 hown hK hP 1 xgReader rfl 3 (by decide) (hg _ w307) (fun _ h9 => h9) rfl dX1_read_96 ?_
          exact W.iret (v := (V37 1 3)) hx hb hr (fun t ht hW => ⟨⟨(V37 1 3), (V37, L26), rfl, ⟨hMV37, agV37, alL26, fwV37, (Imp.mk (fun hp => by exfalso; omega))⟩, by rw [ht]; exact hP, va_K.moved hW.alike hK, hD⟩, hS.F ht⟩) hS.2.2 dX1_read_99
      · skip
        have f39 : y24.toInt < 4000 := b_nle (by decide) rfl c30
        refine lv_aload_n hx hb dX1_read_38 rfl (lv_at hl 1 rfl) ?_
        refine va_get (D := D) (ci := 1) (v := .ref (ad 6)) (fs := (xfReader ad V25 L26 Z)) (C := RX1) (T := TX1) (N := 9) hx hb hg inX1 hown hK hP 1 xgReader rfl 0 (by decide) (hg _ w304) (fun _ h9 => h9) rfl dX1_read_39 ?_
        refine va_getN (D := D) (ci := 9) (v := .int (V25 6 9)) (fs := (xfTape ad V25 L26 Z)) (C := RX9) (T := TX9) (N := 12) hx hb hg inX9 hown hK hP 6 xgTape rfl 9 (by decide) (hnw.use 262 n262 rfl) (fun _ h9 => h9) rfl dX1_read_42 ?_
        refine lv_if_eq (tgt := 82) hx hb dX1_read_45 (by decide) (fun c40 => ?_) (fun c40 => ?_)
        · skip
          have f41 : ((V25 6 9)).toInt = 0 := b_eq rfl (by decide) c40
          by_cases hon : (V25 1 2).toInt < 0
          · skip
            have ow1 : (V25 1 2).toInt = -1 := by omega
            refine lv_aload_n hx hb dX1_read_82 rfl (lv_at hl 1 rfl) ?_
            refine va_get (D := D) (ci := 1) (v := rfN ad 72 (V25 1 2)) (fs := (xfReader ad V25 L26 Z)) (C := RX1) (T := TX1) (N := 9) hx hb hg inX1 hown hK hP 1 xgReader rfl 2 (by decide) (hg _ w306) (fun _ h9 => h9) rfl dX1_read_83 ?_
            refine g_topv (v := .null) (rfN_n (by omega)) ?_
            refine lv_ifnullN (tgt := 95) hx hb dX1_read_86 (by decide) ?_
            refine lv_aload_n hx hb dX1_read_95 rfl (lv_at hl 1 rfl) ?_
            refine va_get (D := D) (ci := 1) (v := .int (V25 1 3)) (fs := (xfReader ad V25 L26 Z)) (C := RX1) (T := TX1) (N := 9) hx hb hg inX1 hown hK hP 1 xgReader rfl 3 (by decide) (hg _ w307) (fun _ h9 => h9) rfl dX1_read_96 ?_
            exact W.iret (v := (V25 1 3)) hx hb hr (fun t ht hW => ⟨⟨(V25 1 3), (V25, L26), rfl, ⟨hMV25, agV25, alL26, fwV25, (Imp.mk (fun _ => ⟨xlp27_0, xlp27_1⟩))⟩, by rw [ht]; exact hP, va_K.moved hW.alike hK, hD⟩, hS.F ht⟩) hS.2.2 dX1_read_99
          · skip
            have ko := i_clamp (x := V25 1 2) rfl (by omega)
            refine lv_aload_n hx hb dX1_read_82 rfl (lv_at hl 1 rfl) ?_
            refine va_get (D := D) (ci := 1) (v := rfN ad 72 (V25 1 2)) (fs := (xfReader ad V25 L26 Z)) (C := RX1) (T := TX1) (N := 9) hx hb hg inX1 hown hK hP 1 xgReader rfl 2 (by decide) (hg _ w306) (fun _ h9 => h9) rfl dX1_read_83 ?_
            refine g_topv (v := .ref (ad (72 + (Int32.toNatClampNeg (V25 1 2))))) (rfN_r (by omega)) ?_
            refine lv_ifnull hx hb dX1_read_86 ?_
            refine lv_aload_n hx hb dX1_read_89 rfl (lv_at hl 1 rfl) ?_
            refine lv_iconst (v := 1) hx hb dX1_read_90 (by decide) ?_
            have r42 : Int32.toInt 1 = 1 := by decide
            refine gA_int (gA_runV (As := [.int 1]) (rest := []) (ci := 1) (q0 := 1) hx hb hml hown hg hP hD hK hS hA hnw hgk (x_wrong l D ks H.size ad kk V25 L26 Z 1 hMV25 (by decide)) w867 w869 w6 w162 w870 rfl xgReader hdV_yX1_wrong ⟨Nat.le_of_ble_eq_true rfl, Nat.le_of_ble_eq_true rfl⟩ rfl hl.1 rfl (Nat.le_of_ble_eq_true rfl) dX1_read_91 ⟨Nat.le_of_ble_eq_true rfl, Nat.le_of_ble_eq_true rfl⟩) hP hD hK hS hA (fun z43 u44 H locs w45 hP hD hK hS => ?_)
            obtain ⟨V47, L48⟩ := u44
            obtain ⟨hMV47, ajV47, axL48, rgz43, t46⟩ := w45
            have axL48 : L26 = L48 := Eq.symm axL48
            subst axL48
            have hP : va_P D vwCl (xw ad kk V47 L26 Z) H := hP
            have hD : va_D A (xw ad kk V47 L26 Z) := hD
            have hMV47 : rgd bX V47 := hMV47
            have ajV47 : agr [(1, 3)] [] V25 V47 := ajV47
            have agV47 : agr [(1, 1), (1, 2), (1, 3), (1, 4), (1, 6), (1, 7), (1, 8), (6, 6), (6, 7), (6, 8), (6, 9), (6, 10)] [12, 13, 14, 41, 42, 43, 44, 45, 46, 47, 48, 49, 50, 51, 52, 53, 54, 55, 56, 57, 58, 59, 60, 61, 62, 63, 64, 65, 66] V V47 := agV25.tr ajV47 (by decide) (by decide)
            have fwV47 : frX (xR b) V V47 := frX.tr fwV25 (frX.ag ajV47 (by decide) (by decide))
            have rgz43 : 0 ≤ z43.toInt ∧ z43.toInt ≤ 0 := rgz43
            have t46 : 1 ≤ (V47 1 3).toInt := t46
            refine lv_pop hx hb dX1_read_94 rfl ?_
            refine lv_aload_n hx hb dX1_read_95 rfl (lv_at hl 1 rfl) ?_
            refine va_get (D := D) (ci := 1) (v := .int (V47 1 3)) (fs := (xfReader ad V47 L26 Z)) (C := RX1) (T := TX1) (N := 9) hx hb hg inX1 hown hK hP 1 xgReader rfl 3 (by decide) (hg _ w307) (fun _ h9 => h9) rfl dX1_read_96 ?_
            exact W.iret (v := (V47 1 3)) hx hb hr (fun t ht hW => ⟨⟨(V47 1 3), (V47, L26), rfl, ⟨hMV47, agV47, alL26, fwV47, (Imp.mk (fun hp => by exfalso; omega))⟩, by rw [ht]; exact hP, va_K.moved hW.alike hK, hD⟩, hS.F ht⟩) hS.2.2 dX1_read_99
        · skip
          have f49 : ((V25 6 9)).toInt ≠ 0 := b_neq rfl (by decide) c40
          by_cases hon : (V25 1 2).toInt < 0
          · skip
            have ow1 : (V25 1 2).toInt = -1 := by omega
            refine lv_aload_n hx hb dX1_read_48 rfl (lv_at hl 1 rfl) ?_
            refine va_get (D := D) (ci := 1) (v := rfN ad 72 (V25 1 2)) (fs := (xfReader ad V25 L26 Z)) (C := RX1) (T := TX1) (N := 9) hx hb hg inX1 hown hK hP 1 xgReader rfl 2 (by decide) (hg _ w306) (fun _ h9 => h9) rfl dX1_read_49 ?_
            refine g_topv (v := .null) (rfN_n (by omega)) ?_
            refine lv_ifnonnullN hx hb dX1_read_52 ?_
            refine lv_aload_n hx hb dX1_read_55 rfl (lv_at hl 1 rfl) ?_
            refine gA_int (gA_runV (As := []) (rest := []) (ci := 1) (q0 := 1) hx hb hml hown hg hP hD hK hS hA hnw hgk (x_readStatement l D ks H.size ad kk V25 L26 Z (b) hMV25 (show b < 2 from by omega) (show (V25 1 1).toInt = (b : Int) from by omega) (show (V25 1 2).toInt = -1 from by omega) xlp27_0 xlp27_1) w855 w857 w4 w162 w858 rfl xgReader hdV_yX1_readStatement ⟨Nat.le_of_ble_eq_true rfl, Nat.le_of_ble_eq_true rfl⟩ rfl hl.1 rfl (Nat.le_of_ble_eq_true rfl) dX1_read_56 ⟨Nat.le_of_ble_eq_true rfl, Nat.le_of_ble_eq_true rfl⟩) hP hD hK hS hA (fun z50 u51 H locs w52 hP hD hK hS => ?_)
            obtain ⟨V58, L59⟩ := u51
            obtain ⟨hMV58, ajV58, axL59, fyV58, rgz50, t53, t54, t55, t56, t57⟩ := w52
            have alL59 : agL [1, 6, 14, 44] L L59 := agL.tr alL26 axL59 (by decide)
            have hP : va_P D vwCl (xw ad kk V58 L59 Z) H := hP
            have hD : va_D A (xw ad kk V58 L59 Z) := hD
            have hMV58 : rgd bX V58 := hMV58
            have ajV58 : agr [(1, 2), (1, 3), (1, 4), (1, 6), (1, 7), (1, 8), (6, 8), (6, 9), (6, 10)] [41, 42, 43, 44, 45, 46, 47, 48, 49, 50, 51, 52, 53, 54, 55, 56, 57, 61, 62, 63, 64, 65, 66] V25 V58 := ajV58
            have agV58 : agr [(1, 1), (1, 2), (1, 3), (1, 4), (1, 6), (1, 7), (1, 8), (6, 6), (6, 7), (6, 8), (6, 9), (6, 10)] [12, 13, 14, 41, 42, 43, 44, 45, 46, 47, 48, 49, 50, 51, 52, 53, 54, 55, 56, 57, 58, 59, 60, 61, 62, 63, 64, 65, 66] V V58 := agV25.tr ajV58 (by decide) (by decide)
            have fwV58 : frX (xR b) V V58 := frX.tr fwV25 (fyV58)
            have rgz50 : 0 ≤ z50.toInt ∧ z50.toInt ≤ 1 := rgz50
            have t53 : Imp (z50.toInt = 1) (TX V58 b) := t53
            have t54 : CD V58 b := t54
            have t55 : p0x V25 V58 b := t55
            have t56 : (V58 1 2).toInt = (V25 1 2).toInt ∨ (24 * (b : Int) ≤ (V58 1 2).toInt ∧ (V58 1 2).toInt < 24 * (b : Int) + 24) := t56
            have t57 : Imp (z50.toInt = 0) (1 ≤ (V58 1 3).toInt) := t57
            have r60 : (-1) ≤ ((V58 1 2)).toInt ∧ ((V58 1 2)).toInt ≤ 47 := hMV58 1 2
            refine lv_goto (tgt := 66) hx hb dX1_read_59 (by decide) ?_
            refine lv_istore_n (lv' := [(3, .int z50), (2, .int y24), (0, .ref (ad 1)), (1, .ref (ad (38 + b)))]) hx hb dX1_read_66 rfl hl (by decide) rfl (fun ls hl => ?_)
            refine lv_iload_n hx hb dX1_read_67 rfl (lv_at hl 0 rfl) ?_
            refine lv_if_ne (tgt := 76) hx hb dX1_read_68 (by decide) (fun c61 => ?_) (fun c61 => ?_)
            · skip
              have f62 : z50.toInt ≠ 0 := b_neq rfl (by decide) c61
              obtain ⟨z63, ez63⟩ : ∃ y : Int32, y = y24 + 1 := ⟨_, rfl⟩
              have hz63 : z63.toInt = y24.toInt + 1 := i_add ez63 rfl (by decide) (by omega)
              refine lv_iinc (v := z63) (lv' := [(2, .int z63), (3, .int z50), (0, .ref (ad 1)), (1, .ref (ad (38 + b)))]) hx hb dX1_read_76 hl (k := 1) rfl (by rw [ez63]; rfl) (by decide) rfl (fun ls hl => ?_)
              refine lv_goto (tgt := 31) hx hb dX1_read_79 (by decide) ?_
              have pq64 : (V58 1 1).toInt = ((nI b)).toInt := congrArg Int32.toInt ((ajV58 1 1 rfl).trans ((ajV25 1 1 rfl).trans ((ajV22 1 1 rfl).trans ((up2_k hV17 (by decide)).trans ((up2_k hV15 (by decide)).trans ((ajV11 1 1 rfl).trans (up2_s hV2)))))))
              exact ihlp27 z63 V58 L59 H locs ls (by first | omega | ((try (have i_t57 := Imp.go t57 (by omega))); omega)) t54 (Imp.go t53 (by omega)) (show (V58 1 2).toInt = -1 ∨ (24 * (b : Int) ≤ (V58 1 2).toInt ∧ (V58 1 2).toInt < 24 * (b : Int) + 24) from by first | omega | ((try (have i_t57 := Imp.go t57 (by omega))); omega)) (show (V58 1 1).toInt = (b : Int) from by first | omega | ((try (have i_t57 := Imp.go t57 (by omega))); omega)) (by first | omega | ((try (have i_t57 := Imp.go t57 (by omega))); omega)) alL59 (agr.tr (agr.tr agr.rf ajV25 (by decide) (by decide)) ajV58 (by decide) (by decide)) hMV58 fwV58 hP hD hS (lv_sub hl [0, 2, 3] rfl)
            · skip
              have f65 : z50.toInt = 0 := b_eq rfl (by decide) c61
              refine lv_aload_n hx hb dX1_read_71 rfl (lv_at hl 2 rfl) ?_
              refine va_get (D := D) (ci := 1) (v := .int (V58 1 3)) (fs := (xfReader ad V58 L59 Z)) (C := RX1) (T := TX1) (N := 9) hx hb hg inX1 hown hK hP 1 xgReader rfl 3 (by decide) (hg _ w307) (fun _ h9 => h9) rfl dX1_read_72 ?_
              exact W.iret (v := (V58 1 3)) hx hb hr (fun t ht hW => ⟨⟨(V58 1 3), (V58, L59), rfl, ⟨hMV58, agV58, alL59, fwV58, (Imp.mk (fun hp => by exfalso; first | omega | ((try (have i_t57 := Imp.go t57 (by omega))); omega)))⟩, by rw [ht]; exact hP, va_K.moved hW.alike hK, hD⟩, hS.F ht⟩) hS.2.2 dX1_read_75
          · skip
            have ko := i_clamp (x := V25 1 2) rfl (by omega)
            refine lv_aload_n hx hb dX1_read_48 rfl (lv_at hl 1 rfl) ?_
            refine va_get (D := D) (ci := 1) (v := rfN ad 72 (V25 1 2)) (fs := (xfReader ad V25 L26 Z)) (C := RX1) (T := TX1) (N := 9) hx hb hg inX1 hown hK hP 1 xgReader rfl 2 (by decide) (hg _ w306) (fun _ h9 => h9) rfl dX1_read_49 ?_
            refine g_topv (v := .ref (ad (72 + (Int32.toNatClampNeg (V25 1 2))))) (rfN_r (by omega)) ?_
            refine lv_ifnonnull (tgt := 62) hx hb dX1_read_52 (by decide) ?_
            refine lv_aload_n hx hb dX1_read_62 rfl (lv_at hl 1 rfl) ?_
            refine gA_int (gA_runV (As := []) (rest := []) (ci := 1) (q0 := 1) hx hb hml hown hg hP hD hK hS hA hnw hgk (x_readMember l D ks H.size ad kk V25 L26 Z (b) ((Int32.toNatClampNeg (V25 1 2))) hMV25 (show b < 2 from by omega) (show (V25 1 1).toInt = (b : Int) from by omega) (show (V25 1 2).toInt = ((Int32.toNatClampNeg (V25 1 2)) : Int) from by omega) (show (Int32.toNatClampNeg (V25 1 2)) < 48 from by omega) (show 24 * b ≤ (Int32.toNatClampNeg (V25 1 2)) from by omega) (show (Int32.toNatClampNeg (V25 1 2)) < 24 * b + 24 from by omega) xlp27_0 xlp27_1) w1003 w1005 w31 w162 w1006 rfl xgReader hdV_yX1_readMember ⟨Nat.le_of_ble_eq_true rfl, Nat.le_of_ble_eq_true rfl⟩ rfl hl.1 rfl (Nat.le_of_ble_eq_true rfl) dX1_read_63 ⟨Nat.le_of_ble_eq_true rfl, Nat.le_of_ble_eq_true rfl⟩) hP hD hK hS hA (fun z66 u67 H locs w68 hP hD hK hS => ?_)
            obtain ⟨V74, L75⟩ := u67
            obtain ⟨hMV74, ajV74, axL75, fyV74, rgz66, t69, t70, t71, t72, t73⟩ := w68
            have alL75 : agL [1, 6, 14, 44] L L75 := agL.tr alL26 axL75 (by decide)
            have hP : va_P D vwCl (xw ad kk V74 L75 Z) H := hP
            have hD : va_D A (xw ad kk V74 L75 Z) := hD
            have hMV74 : rgd bX V74 := hMV74
            have ajV74 : agr [(1, 2), (1, 3), (1, 4), (1, 6), (1, 8), (6, 8), (6, 9), (6, 10)] [42, 43, 44, 48, 49, 56, 57, 58, 59, 60, 61] V25 V74 := ajV74
            have agV74 : agr [(1, 1), (1, 2), (1, 3), (1, 4), (1, 6), (1, 7), (1, 8), (6, 6), (6, 7), (6, 8), (6, 9), (6, 10)] [12, 13, 14, 41, 42, 43, 44, 45, 46, 47, 48, 49, 50, 51, 52, 53, 54, 55, 56, 57, 58, 59, 60, 61, 62, 63, 64, 65, 66] V V74 := agV25.tr ajV74 (by decide) (by decide)
            have fwV74 : frX (xR b) V V74 := frX.tr fwV25 (fyV74)
            have rgz66 : 0 ≤ z66.toInt ∧ z66.toInt ≤ 1 := rgz66
            have t69 : TX V74 b := t69
            have t70 : (V74 1 2).toInt = (V25 1 2).toInt ∨ (V74 1 2).toInt = -1 := t70
            have t71 : CD V74 b := t71
            have t72 : px V25 V74 b := t72
            have t73 : Imp (z66.toInt = 0) (1 ≤ (V74 1 3).toInt) := t73
            have r76 : (-1) ≤ ((V74 1 2)).toInt ∧ ((V74 1 2)).toInt ≤ 47 := hMV74 1 2
            refine lv_istore_n (lv' := [(3, .int z66), (2, .int y24), (0, .ref (ad 1)), (1, .ref (ad (38 + b)))]) hx hb dX1_read_66 rfl hl (by decide) rfl (fun ls hl => ?_)
            refine lv_iload_n hx hb dX1_read_67 rfl (lv_at hl 0 rfl) ?_
            refine lv_if_ne (tgt := 76) hx hb dX1_read_68 (by decide) (fun c77 => ?_) (fun c77 => ?_)
            · skip
              have f78 : z66.toInt ≠ 0 := b_neq rfl (by decide) c77
              obtain ⟨z79, ez79⟩ : ∃ y : Int32, y = y24 + 1 := ⟨_, rfl⟩
              have hz79 : z79.toInt = y24.toInt + 1 := i_add ez79 rfl (by decide) (by omega)
              refine lv_iinc (v := z79) (lv' := [(2, .int z79), (3, .int z66), (0, .ref (ad 1)), (1, .ref (ad (38 + b)))]) hx hb dX1_read_76 hl (k := 1) rfl (by rw [ez79]; rfl) (by decide) rfl (fun ls hl => ?_)
              refine lv_goto (tgt := 31) hx hb dX1_read_79 (by decide) ?_
              have pq80 : (V74 1 1).toInt = ((nI b)).toInt := congrArg Int32.toInt ((ajV74 1 1 rfl).trans ((ajV25 1 1 rfl).trans ((ajV22 1 1 rfl).trans ((up2_k hV17 (by decide)).trans ((up2_k hV15 (by decide)).trans ((ajV11 1 1 rfl).trans (up2_s hV2)))))))
              exact ihlp27 z79 V74 L75 H locs ls (by first | omega | ((try (have i_t73 := Imp.go t73 (by omega))); omega)) t71 t69 (show (V74 1 2).toInt = -1 ∨ (24 * (b : Int) ≤ (V74 1 2).toInt ∧ (V74 1 2).toInt < 24 * (b : Int) + 24) from by first | omega | ((try (have i_t73 := Imp.go t73 (by omega))); omega)) (show (V74 1 1).toInt = (b : Int) from by first | omega | ((try (have i_t73 := Imp.go t73 (by omega))); omega)) (by first | omega | ((try (have i_t73 := Imp.go t73 (by omega))); omega)) alL75 (agr.tr (agr.tr agr.rf ajV25 (by decide) (by decide)) ajV74 (by decide) (by decide)) hMV74 fwV74 hP hD hS (lv_sub hl [0, 2, 3] rfl)
            · skip
              have f81 : z66.toInt = 0 := b_eq rfl (by decide) c77
              refine lv_aload_n hx hb dX1_read_71 rfl (lv_at hl 2 rfl) ?_
              refine va_get (D := D) (ci := 1) (v := .int (V74 1 3)) (fs := (xfReader ad V74 L75 Z)) (C := RX1) (T := TX1) (N := 9) hx hb hg inX1 hown hK hP 1 xgReader rfl 3 (by decide) (hg _ w307) (fun _ h9 => h9) rfl dX1_read_72 ?_
              exact W.iret (v := (V74 1 3)) hx hb hr (fun t ht hW => ⟨⟨(V74 1 3), (V74, L75), rfl, ⟨hMV74, agV74, alL75, fwV74, (Imp.mk (fun hp => by exfalso; first | omega | ((try (have i_t73 := Imp.go t73 (by omega))); omega)))⟩, by rw [ht]; exact hP, va_K.moved hW.alike hK, hD⟩, hS.F ht⟩) hS.2.2 dX1_read_75
  have r82 : Int32.toInt 0 = 0 := by decide
  have pq83 : (V22 1 2).toInt = (-1) := (congrArg Int32.toInt ((ajV22 1 2 rfl).trans ((up2_k hV17 (by decide)).trans (up2_s hV15)))).trans (by decide)
  have pq84 : (V22 1 1).toInt = ((nI b)).toInt := congrArg Int32.toInt ((ajV22 1 1 rfl).trans ((up2_k hV17 (by decide)).trans ((up2_k hV15 (by decide)).trans ((ajV11 1 1 rfl).trans (up2_s hV2)))))
  have cd85 : CD V22 b := ⟨CB.ag cd13.1 (show agr [(1, 2), (1, 3), (6, 6), (6, 7), (6, 8), (6, 9), (6, 10)] [12, 13, 14] V11 V22 from (agr.tr (agr.up (agr.up agr.rf hV15 rfl) hV17 rfl) ajV22 (by decide) (by decide))) (fun _ => rfl) (fun _ => rfl), CO.ag cd13.2 (show agr [(1, 2), (1, 3), (6, 6), (6, 7), (6, 8), (6, 9), (6, 10)] [12, 13, 14] V11 V22 from (agr.tr (agr.up (agr.up agr.rf hV15 rfl) hV17 rfl) ajV22 (by decide) (by decide))) (fun _ => rfl) (fun _ => rfl)⟩
  have px86 : px V11 V22 b := px.tr (px.rf : px V11 V11 b) (px.ag (show agr [(1, 2), (1, 3), (6, 6), (6, 7), (6, 8), (6, 9), (6, 10)] [12, 13, 14] V11 V22 from (agr.tr (agr.up (agr.up agr.rf hV15 rfl) hV17 rfl) ajV22 (by decide) (by decide))) (fun _ => rfl) (fun _ => rfl) (fun _ => rfl))
  have tx87 : TX V22 b := TX.ag tx14 (show agr [(1, 2), (1, 3), (6, 6), (6, 7), (6, 8), (6, 9), (6, 10)] [12, 13, 14] V11 V22 from (agr.tr (agr.up (agr.up agr.rf hV15 rfl) hV17 rfl) ajV22 (by decide) (by decide))) px86 (fun _ => rfl) (fun _ => rfl) (fun _ => rfl) (fun _ => rfl) (fun _ => rfl) (fun _ => rfl)
  exact lp27 ((4000 - (Int32.toInt 0) + 1 : Int).toNat) 0 V22 L23 H locs ls (by decide) cd85 tx87 (show (V22 1 2).toInt = -1 ∨ (24 * (b : Int) ≤ (V22 1 2).toInt ∧ (V22 1 2).toInt < 24 * (b : Int) + 24) from by omega) (show (V22 1 1).toInt = (b : Int) from by omega) (by omega) alL23 agr.rf hMV22 fwV22 hP hD hS (lv_sub hl [0, 1, 2] rfl)
abbrev r_x_h_named : Room := { frames := 6, cells := 0, slots := 0, locals := 133 }
abbrev q_x_h_named (D : va_G) (ks : KS) (ad : Nat → Nat) (kk : Nat → ClassId) (V : Vf) (L : Lf) (Z : XZ) (p0 : Int32) (b : Nat) (A : Nat → Prop) : Array Value → State → Outcome → State → Prop := va_Qi (fun (r : Int32) (u : Vf × Lf) => rgd bX u.1 ∧ agr [(6, 5), (6, 6), (6, 7), (6, 8), (6, 9), (6, 10)] [12, 13, 14] V u.1 ∧ agL [6, 14] L u.2) (fun u t => gq D A (xw ad kk u.1 u.2 Z) (xty kk Z) t) A