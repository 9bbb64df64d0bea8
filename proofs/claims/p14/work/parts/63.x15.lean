theorem w790 : Cond.code yX9_kindOf cX9_kindOf 4 (some .int) ∈ GW := gw_k tk9_3 155 (rfl) rfl
theorem w787 : Cond.methodLink RX9 97 yX9_kindOf ∈ GW := gw_k tk9_3 152 (by decide +kernel) rfl
theorem w789 : Cond.instanceMethod yX9_kindOf ∈ GW := gw_k tk9_3 154 (by decide +kernel) rfl
theorem w3 : Cond.selects RX9 yX9_kindOf yX9_kindOf ∈ GW := gw_mem 3 (by decide +kernel) rfl
theorem hdV_yX9_kindOf : yX9_kindOf.cls = RX9 ∧ yX9_kindOf.cls ≠ "java/lang/invoke/MethodHandle" ∧ yX9_kindOf.cls ≠ "java/lang/invoke/VarHandle" ∧ (parseMethodDescriptor yX9_kindOf.desc).map (fun d => d.parameters.length) = some 1 := by decide +kernel
theorem w782 : Cond.code yX9_isLetter cX9_isLetter 1 (some .boolean) ∈ GW := gw_k tk9_3 147 (rfl) rfl
theorem w780 : Cond.methodLink RX9 82 yX9_isLetter ∈ GW := gw_k tk9_3 145 (by decide +kernel) rfl
theorem w781 : Cond.static yX9_isLetter ∈ GW := gw_k tk9_3 146 (by decide +kernel) rfl
theorem hdS_yX9_isLetter : yX9_isLetter.cls ≠ "java/lang/invoke/MethodHandle" ∧ yX9_isLetter.cls ≠ "java/lang/invoke/VarHandle" ∧ (parseMethodDescriptor yX9_isLetter.desc).map (fun d => d.parameters.length) = some 1 := by decide +kernel
theorem w245 : Cond.constantLong RX9 41 37 ∈ GW := gw_k tk9_1 90 (by decide +kernel) rfl
theorem w248 : Cond.code yX9_codeOf cX9_codeOf 1 (some .int) ∈ GW := gw_k tk9_1 93 (rfl) rfl
theorem w246 : Cond.methodLink RX9 43 yX9_codeOf ∈ GW := gw_k tk9_1 91 (by decide +kernel) rfl
theorem w247 : Cond.static yX9_codeOf ∈ GW := gw_k tk9_1 92 (by decide +kernel) rfl
theorem hdS_yX9_codeOf : yX9_codeOf.cls ≠ "java/lang/invoke/MethodHandle" ∧ yX9_codeOf.cls ≠ "java/lang/invoke/VarHandle" ∧ (parseMethodDescriptor yX9_codeOf.desc).map (fun d => d.parameters.length) = some 1 := by decide +kernel
theorem w795 : Cond.code yJ0_indexOf_0f7a4 cJ0_indexOf_0f7a4 2 (some .int) ∈ GW := gw_k tk9_3 160 (rfl) rfl
theorem w792 : Cond.methodLink RX9 90 yJ0_indexOf_0f7a4 ∈ GW := gw_k tk9_3 157 (by decide +kernel) rfl
theorem w793 : Cond.instanceMethod yJ0_indexOf_0f7a4 ∈ GW := gw_k tk9_3 158 (by decide +kernel) rfl
theorem w794 : Cond.selects RJ0 yJ0_indexOf_0f7a4 yJ0_indexOf_0f7a4 ∈ GW := gw_k tk9_3 159 (by decide +kernel) rfl
theorem hdV_yJ0_indexOf_0f7a4 : yJ0_indexOf_0f7a4.cls = RJ0 ∧ yJ0_indexOf_0f7a4.cls ≠ "java/lang/invoke/MethodHandle" ∧ yJ0_indexOf_0f7a4.cls ≠ "java/lang/invoke/VarHandle" ∧ (parseMethodDescriptor yJ0_indexOf_0f7a4.desc).map (fun d => d.parameters.length) = some 1 := by decide +kernel
theorem w786 : Cond.code yX9_cutWord cX9_cutWord 4 none ∈ GW := gw_k tk9_3 151 (rfl) rfl
theorem w783 : Cond.methodLink RX9 85 yX9_cutWord ∈ GW := gw_k tk9_3 148 (by decide +kernel) rfl
theorem w785 : Cond.instanceMethod yX9_cutWord ∈ GW := gw_k tk9_3 150 (by decide +kernel) rfl
theorem w2 : Cond.selects RX9 yX9_cutWord yX9_cutWord ∈ GW := gw_mem 2 (by decide +kernel) rfl
theorem hdV_yX9_cutWord : yX9_cutWord.cls = RX9 ∧ yX9_cutWord.cls ≠ "java/lang/invoke/MethodHandle" ∧ yX9_cutWord.cls ≠ "java/lang/invoke/VarHandle" ∧ (parseMethodDescriptor yX9_cutWord.desc).map (fun d => d.parameters.length) = some 0 := by decide +kernel
theorem w777 : Cond.code yX9_cutNumber cX9_cutNumber 4 none ∈ GW := gw_k tk9_3 142 (rfl) rfl
theorem w774 : Cond.methodLink RX9 79 yX9_cutNumber ∈ GW := gw_k tk9_3 139 (by decide +kernel) rfl
theorem w776 : Cond.instanceMethod yX9_cutNumber ∈ GW := gw_k tk9_3 141 (by decide +kernel) rfl
theorem w1 : Cond.selects RX9 yX9_cutNumber yX9_cutNumber ∈ GW := gw_mem 1 (by decide +kernel) rfl
theorem hdV_yX9_cutNumber : yX9_cutNumber.cls = RX9 ∧ yX9_cutNumber.cls ≠ "java/lang/invoke/MethodHandle" ∧ yX9_cutNumber.cls ≠ "java/lang/invoke/VarHandle" ∧ (parseMethodDescriptor yX9_cutNumber.desc).map (fun d => d.parameters.length) = some 0 := by decide +kernel
theorem w851 : Cond.methodLink RX9 62 yX9_next ∈ GW := gw_k tk9_3 216 (by decide +kernel) rfl
theorem w773 : Cond.code yX9_cut cX9_cut 2 none ∈ GW := gw_k tk9_3 138 (rfl) rfl
theorem w770 : Cond.methodLink RX9 56 yX9_cut ∈ GW := gw_k tk9_3 135 (by decide +kernel) rfl
theorem w772 : Cond.instanceMethod yX9_cut ∈ GW := gw_k tk9_3 137 (by decide +kernel) rfl
theorem w0 : Cond.selects RX9 yX9_cut yX9_cut ∈ GW := gw_mem 0 (by decide +kernel) rfl
theorem hdV_yX9_cut : yX9_cut.cls = RX9 ∧ yX9_cut.cls ≠ "java/lang/invoke/MethodHandle" ∧ yX9_cut.cls ≠ "java/lang/invoke/VarHandle" ∧ (parseMethodDescriptor yX9_cut.desc).map (fun d => d.parameters.length) = some 0 := by decide +kernel
theorem dk9_dX9_cutWord_0_0 : dOk cX9_cutWord [(0, .iconst 0, 1), (1, .istore_n 1, 1), (2, .lconst 0, 1), (3, .lstore_n 2, 1), (4, .aload_n 0, 1), (5, .getfield 50, 3), (8, .aload_n 0, 1), (9, .getfield 47, 3), (12, .if_icmp .ge 79, 3), (91, .aload_n 0, 1), (92, .getfield 19, 3), (95, .aload_n 0, 1), (96, .getfield 53, 3), (99, .iload_n 1, 1), (100, .bipush 12, 2), (102, .if_icmp .le 7, 3), (109, .aload_n 0, 1), (110, .lload_n 2, 1), (111, .invokevirtual 97, 3), (114, .iastore, 1), (115, .aload_n 0, 1), (116, .getfield 26, 3), (119, .aload_n 0, 1), (120, .getfield 53, 3)] = true ∧ dOk cX9_cutWord [(123, .lload_n 2, 1), (124, .lastore, 1), (125, .return_, 1), (105, .iconst 1, 1), (106, .goto 8, 3), (15, .aload_n 0, 1), (16, .getfield 9, 3), (19, .aload_n 0, 1), (20, .getfield 50, 3), (23, .baload, 1), (24, .invokestatic 82, 3), (27, .ifCond .ne 18, 3), (45, .iload_n 1, 1), (46, .bipush 12, 2), (48, .if_icmp .ge 25, 3), (73, .lconst 0, 1), (74, .lstore_n 2, 1), (75, .iinc 1 1, 3), (78, .aload_n 0, 1), (79, .dup, 1), (80, .getfield 50, 3), (83, .iconst 1, 1), (84, .iadd, 1), (85, .putfield 50, 3)] = true ∧ dOk cX9_cutWord [(88, .goto (-84), 3), (51, .lload_n 2, 1), (52, .ldc2_w 41, 3), (55, .lmul, 1), (56, .aload_n 0, 1), (57, .getfield 9, 3), (60, .aload_n 0, 1), (61, .getfield 50, 3), (64, .baload, 1), (65, .invokestatic 43, 3), (68, .i2l, 1), (69, .ladd, 1), (70, .goto 4, 3), (30, .aload_n 0, 1), (31, .getfield 9, 3), (34, .aload_n 0, 1), (35, .getfield 50, 3), (38, .baload, 1), (39, .invokestatic 75, 3), (42, .ifCond .eq 49, 3)] = true := by decide +kernel
theorem dX9_cutWord_0 : decode cX9_cutWord 0 = .ok (.iconst 0, 1) := dr9 dk9_dX9_cutWord_0_0.1 0 (0, .iconst 0, 1) rfl
theorem dX9_cutWord_1 : decode cX9_cutWord 1 = .ok (.istore_n 1, 1) := dr9 dk9_dX9_cutWord_0_0.1 1 (1, .istore_n 1, 1) rfl
theorem dX9_cutWord_2 : decode cX9_cutWord 2 = .ok (.lconst 0, 1) := dr9 dk9_dX9_cutWord_0_0.1 2 (2, .lconst 0, 1) rfl
theorem dX9_cutWord_3 : decode cX9_cutWord 3 = .ok (.lstore_n 2, 1) := dr9 dk9_dX9_cutWord_0_0.1 3 (3, .lstore_n 2, 1) rfl
theorem dX9_cutWord_4 : decode cX9_cutWord 4 = .ok (.aload_n 0, 1) := dr9 dk9_dX9_cutWord_0_0.1 4 (4, .aload_n 0, 1) rfl
theorem dX9_cutWord_5 : decode cX9_cutWord 5 = .ok (.getfield 50, 3) := dr9 dk9_dX9_cutWord_0_0.1 5 (5, .getfield 50, 3) rfl
theorem dX9_cutWord_8 : decode cX9_cutWord 8 = .ok (.aload_n 0, 1) := dr9 dk9_dX9_cutWord_0_0.1 6 (8, .aload_n 0, 1) rfl
theorem dX9_cutWord_9 : decode cX9_cutWord 9 = .ok (.getfield 47, 3) := dr9 dk9_dX9_cutWord_0_0.1 7 (9, .getfield 47, 3) rfl
theorem dX9_cutWord_12 : decode cX9_cutWord 12 = .ok (.if_icmp .ge 79, 3) := dr9 dk9_dX9_cutWord_0_0.1 8 (12, .if_icmp .ge 79, 3) rfl
theorem dX9_cutWord_91 : decode cX9_cutWord 91 = .ok (.aload_n 0, 1) := dr9 dk9_dX9_cutWord_0_0.1 9 (91, .aload_n 0, 1) rfl
theorem dX9_cutWord_92 : decode cX9_cutWord 92 = .ok (.getfield 19, 3) := dr9 dk9_dX9_cutWord_0_0.1 10 (92, .getfield 19, 3) rfl
theorem dX9_cutWord_95 : decode cX9_cutWord 95 = .ok (.aload_n 0, 1) := dr9 dk9_dX9_cutWord_0_0.1 11 (95, .aload_n 0, 1) rfl
theorem dX9_cutWord_96 : decode cX9_cutWord 96 = .ok (.getfield 53, 3) := dr9 dk9_dX9_cutWord_0_0.1 12 (96, .getfield 53, 3) rfl
theorem dX9_cutWord_99 : decode cX9_cutWord 99 = .ok (.iload_n 1, 1) := dr9 dk9_dX9_cutWord_0_0.1 13 (99, .iload_n 1, 1) rfl
theorem dX9_cutWord_100 : decode cX9_cutWord 100 = .ok (.bipush 12, 2) := dr9 dk9_dX9_cutWord_0_0.1 14 (100, .bipush 12, 2) rfl
theorem dX9_cutWord_102 : decode cX9_cutWord 102 = .ok (.if_icmp .le 7, 3) := dr9 dk9_dX9_cutWord_0_0.1 15 (102, .if_icmp .le 7, 3) rfl
theorem dX9_cutWord_109 : decode cX9_cutWord 109 = .ok (.aload_n 0, 1) := dr9 dk9_dX9_cutWord_0_0.1 16 (109, .aload_n 0, 1) rfl
theorem dX9_cutWord_110 : decode cX9_cutWord 110 = .ok (.lload_n 2, 1) := dr9 dk9_dX9_cutWord_0_0.1 17 (110, .lload_n 2, 1) rfl
theorem dX9_cutWord_111 : decode cX9_cutWord 111 = .ok (.invokevirtual 97, 3) := dr9 dk9_dX9_cutWord_0_0.1 18 (111, .invokevirtual 97, 3) rfl
theorem dX9_cutWord_114 : decode cX9_cutWord 114 = .ok (.iastore, 1) := dr9 dk9_dX9_cutWord_0_0.1 19 (114, .iastore, 1) rfl
theorem dX9_cutWord_115 : decode cX9_cutWord 115 = .ok (.aload_n 0, 1) := dr9 dk9_dX9_cutWord_0_0.1 20 (115, .aload_n 0, 1) rfl
theorem dX9_cutWord_116 : decode cX9_cutWord 116 = .ok (.getfield 26, 3) := dr9 dk9_dX9_cutWord_0_0.1 21 (116, .getfield 26, 3) rfl
theorem dX9_cutWord_119 : decode cX9_cutWord 119 = .ok (.aload_n 0, 1) := dr9 dk9_dX9_cutWord_0_0.1 22 (119, .aload_n 0, 1) rfl
theorem dX9_cutWord_120 : decode cX9_cutWord 120 = .ok (.getfield 53, 3) := dr9 dk9_dX9_cutWord_0_0.1 23 (120, .getfield 53, 3) rfl
theorem dX9_cutWord_123 : decode cX9_cutWord 123 = .ok (.lload_n 2, 1) := dr9 dk9_dX9_cutWord_0_0.2.1 0 (123, .lload_n 2, 1) rfl
theorem dX9_cutWord_124 : decode cX9_cutWord 124 = .ok (.lastore, 1) := dr9 dk9_dX9_cutWord_0_0.2.1 1 (124, .lastore, 1) rfl
theorem dX9_cutWord_125 : decode cX9_cutWord 125 = .ok (.return_, 1) := dr9 dk9_dX9_cutWord_0_0.2.1 2 (125, .return_, 1) rfl
theorem dX9_cutWord_105 : decode cX9_cutWord 105 = .ok (.iconst 1, 1) := dr9 dk9_dX9_cutWord_0_0.2.1 3 (105, .iconst 1, 1) rfl
theorem dX9_cutWord_106 : decode cX9_cutWord 106 = .ok (.goto 8, 3) := dr9 dk9_dX9_cutWord_0_0.2.1 4 (106, .goto 8, 3) rfl
theorem dX9_cutWord_15 : decode cX9_cutWord 15 = .ok (.aload_n 0, 1) := dr9 dk9_dX9_cutWord_0_0.2.1 5 (15, .aload_n 0, 1) rfl
theorem dX9_cutWord_16 : decode cX9_cutWord 16 = .ok (.getfield 9, 3) := dr9 dk9_dX9_cutWord_0_0.2.1 6 (16, .getfield 9, 3) rfl
theorem dX9_cutWord_19 : decode cX9_cutWord 19 = .ok (.aload_n 0, 1) := dr9 dk9_dX9_cutWord_0_0.2.1 7 (19, .aload_n 0, 1) rfl
theorem dX9_cutWord_20 : decode cX9_cutWord 20 = .ok (.getfield 50, 3) := dr9 dk9_dX9_cutWord_0_0.2.1 8 (20, .getfield 50, 3) rfl
theorem dX9_cutWord_23 : decode cX9_cutWord 23 = .ok (.baload, 1) := dr9 dk9_dX9_cutWord_0_0.2.1 9 (23, .baload, 1) rfl
theorem dX9_cutWord_24 : decode cX9_cutWord 24 = .ok (.invokestatic 82, 3) := dr9 dk9_dX9_cutWord_0_0.2.1 10 (24, .invokestatic 82, 3) rfl
theorem dX9_cutWord_27 : decode cX9_cutWord 27 = .ok (.ifCond .ne 18, 3) := dr9 dk9_dX9_cutWord_0_0.2.1 11 (27, .ifCond .ne 18, 3) rfl
theorem dX9_cutWord_45 : decode cX9_cutWord 45 = .ok (.iload_n 1, 1) := dr9 dk9_dX9_cutWord_0_0.2.1 12 (45, .iload_n 1, 1) rfl
theorem dX9_cutWord_46 : decode cX9_cutWord 46 = .ok (.bipush 12, 2) := dr9 dk9_dX9_cutWord_0_0.2.1 13 (46, .bipush 12, 2) rfl
theorem dX9_cutWord_48 : decode cX9_cutWord 48 = .ok (.if_icmp .ge 25, 3) := dr9 dk9_dX9_cutWord_0_0.2.1 14 (48, .if_icmp .ge 25, 3) rfl
theorem dX9_cutWord_73 : decode cX9_cutWord 73 = .ok (.lconst 0, 1) := dr9 dk9_dX9_cutWord_0_0.2.1 15 (73, .lconst 0, 1) rfl
theorem dX9_cutWord_74 : decode cX9_cutWord 74 = .ok (.lstore_n 2, 1) := dr9 dk9_dX9_cutWord_0_0.2.1 16 (74, .lstore_n 2, 1) rfl
theorem dX9_cutWord_75 : decode cX9_cutWord 75 = .ok (.iinc 1 1, 3) := dr9 dk9_dX9_cutWord_0_0.2.1 17 (75, .iinc 1 1, 3) rfl
theorem dX9_cutWord_78 : decode cX9_cutWord 78 = .ok (.aload_n 0, 1) := dr9 dk9_dX9_cutWord_0_0.2.1 18 (78, .aload_n 0, 1) rfl
theorem dX9_cutWord_79 : decode cX9_cutWord 79 = .ok (.dup, 1) := dr9 dk9_dX9_cutWord_0_0.2.1 19 (79, .dup, 1) rfl
theorem dX9_cutWord_80 : decode cX9_cutWord 80 = .ok (.getfield 50, 3) := dr9 dk9_dX9_cutWord_0_0.2.1 20 (80, .getfield 50, 3) rfl
theorem dX9_cutWord_83 : decode cX9_cutWord 83 = .ok (.iconst 1, 1) := dr9 dk9_dX9_cutWord_0_0.2.1 21 (83, .iconst 1, 1) rfl
theorem dX9_cutWord_84 : decode cX9_cutWord 84 = .ok (.iadd, 1) := dr9 dk9_dX9_cutWord_0_0.2.1 22 (84, .iadd, 1) rfl
theorem dX9_cutWord_85 : decode cX9_cutWord 85 = .ok (.putfield 50, 3) := dr9 dk9_dX9_cutWord_0_0.2.1 23 (85, .putfield 50, 3) rfl
theorem dX9_cutWord_88 : decode cX9_cutWord 88 = .ok (.goto (-84), 3) := dr9 dk9_dX9_cutWord_0_0.2.2 0 (88, .goto (-84), 3) rfl
theorem dX9_cutWord_51 : decode cX9_cutWord 51 = .ok (.lload_n 2, 1) := dr9 dk9_dX9_cutWord_0_0.2.2 1 (51, .lload_n 2, 1) rfl
theorem dX9_cutWord_52 : decode cX9_cutWord 52 = .ok (.ldc2_w 41, 3) := dr9 dk9_dX9_cutWord_0_0.2.2 2 (52, .ldc2_w 41, 3) rfl
theorem dX9_cutWord_55 : decode cX9_cutWord 55 = .ok (.lmul, 1) := dr9 dk9_dX9_cutWord_0_0.2.2 3 (55, .lmul, 1) rfl
theorem dX9_cutWord_56 : decode cX9_cutWord 56 = .ok (.aload_n 0, 1) := dr9 dk9_dX9_cutWord_0_0.2.2 4 (56, .aload_n 0, 1) rfl
theorem dX9_cutWord_57 : decode cX9_cutWord 57 = .ok (.getfield 9, 3) := dr9 dk9_dX9_cutWord_0_0.2.2 5 (57, .getfield 9, 3) rfl
theorem dX9_cutWord_60 : decode cX9_cutWord 60 = .ok (.aload_n 0, 1) := dr9 dk9_dX9_cutWord_0_0.2.2 6 (60, .aload_n 0, 1) rfl
theorem dX9_cutWord_61 : decode cX9_cutWord 61 = .ok (.getfield 50, 3) := dr9 dk9_dX9_cutWord_0_0.2.2 7 (61, .getfield 50, 3) rfl
theorem dX9_cutWord_64 : decode cX9_cutWord 64 = .ok (.baload, 1) := dr9 dk9_dX9_cutWord_0_0.2.2 8 (64, .baload, 1) rfl
theorem dX9_cutWord_65 : decode cX9_cutWord 65 = .ok (.invokestatic 43, 3) := dr9 dk9_dX9_cutWord_0_0.2.2 9 (65, .invokestatic 43, 3) rfl
theorem dX9_cutWord_68 : decode cX9_cutWord 68 = .ok (.i2l, 1) := dr9 dk9_dX9_cutWord_0_0.2.2 10 (68, .i2l, 1) rfl
theorem dX9_cutWord_69 : decode cX9_cutWord 69 = .ok (.ladd, 1) := dr9 dk9_dX9_cutWord_0_0.2.2 11 (69, .ladd, 1) rfl
theorem dX9_cutWord_70 : decode cX9_cutWord 70 = .ok (.goto 4, 3) := dr9 dk9_dX9_cutWord_0_0.2.2 12 (70, .goto 4, 3) rfl
theorem dX9_cutWord_30 : decode cX9_cutWord 30 = .ok (.aload_n 0, 1) := dr9 dk9_dX9_cutWord_0_0.2.2 13 (30, .aload_n 0, 1) rfl
theorem dX9_cutWord_31 : decode cX9_cutWord 31 = .ok (.getfield 9, 3) := dr9 dk9_dX9_cutWord_0_0.2.2 14 (31, .getfield 9, 3) rfl
theorem dX9_cutWord_34 : decode cX9_cutWord 34 = .ok (.aload_n 0, 1) := dr9 dk9_dX9_cutWord_0_0.2.2 15 (34, .aload_n 0, 1) rfl
theorem dX9_cutWord_35 : decode cX9_cutWord 35 = .ok (.getfield 50, 3) := dr9 dk9_dX9_cutWord_0_0.2.2 16 (35, .getfield 50, 3) rfl
theorem dX9_cutWord_38 : decode cX9_cutWord 38 = .ok (.baload, 1) := dr9 dk9_dX9_cutWord_0_0.2.2 17 (38, .baload, 1) rfl
theorem dX9_cutWord_39 : decode cX9_cutWord 39 = .ok (.invokestatic 75, 3) := dr9 dk9_dX9_cutWord_0_0.2.2 18 (39, .invokestatic 75, 3) rfl
theorem dX9_cutWord_42 : decode cX9_cutWord 42 = .ok (.ifCond .eq 49, 3) := dr9 dk9_dX9_cutWord_0_0.2.2 19 (42, .ifCond .eq 49, 3) rfl
theorem dk9_dX9_cut_0_0 : dOk cX9_cut [(0, .aload_n 0, 1), (1, .getfield 9, 3), (4, .aload_n 0, 1), (5, .getfield 50, 3), (8, .baload, 1), (9, .istore_n 1, 1), (10, .aload_n 0, 1), (11, .getfield 23, 3), (14, .aload_n 0, 1), (15, .getfield 53, 3), (18, .aload_n 0, 1), (19, .getfield 50, 3), (22, .iastore, 1), (23, .aload_n 0, 1), (24, .getfield 26, 3), (27, .aload_n 0, 1), (28, .getfield 53, 3), (31, .lconst 0, 1), (32, .lastore, 1), (33, .iload_n 1, 1), (34, .invokestatic 75, 3), (37, .ifCond .eq 10, 3), (47, .iload_n 1, 1), (48, .invokestatic 82, 3)] = true ∧ dOk cX9_cut [(51, .ifCond .eq 10, 3), (61, .aload_n 0, 1), (62, .getfield 19, 3), (65, .aload_n 0, 1), (66, .getfield 53, 3), (69, .ldc 88, 2), (71, .iload_n 1, 1), (72, .i2c, 1), (73, .invokevirtual 90, 3), (76, .ifCond .lt 7, 3), (83, .iconst 1, 1), (84, .iastore, 1), (85, .aload_n 0, 1), (86, .dup, 1), (87, .getfield 50, 3), (90, .iconst 1, 1), (91, .iadd, 1), (92, .putfield 50, 3), (95, .aload_n 0, 1), (96, .dup, 1), (97, .getfield 53, 3), (100, .iconst 1, 1), (101, .iadd, 1), (102, .putfield 53, 3)] = true ∧ dOk cX9_cut [(105, .return_, 1), (79, .iload_n 1, 1), (80, .goto 4, 3), (54, .aload_n 0, 1), (55, .invokevirtual 85, 3), (58, .goto 37, 3), (40, .aload_n 0, 1), (41, .invokevirtual 79, 3), (44, .goto 51, 3)] = true := by decide +kernel
theorem dX9_cut_0 : decode cX9_cut 0 = .ok (.aload_n 0, 1) := dr9 dk9_dX9_cut_0_0.1 0 (0, .aload_n 0, 1) rfl
theorem dX9_cut_1 : decode cX9_cut 1 = .ok (.getfield 9, 3) := dr9 dk9_dX9_cut_0_0.1 1 (1, .getfield 9, 3) rfl
theorem dX9_cut_4 : decode cX9_cut 4 = .ok (.aload_n 0, 1) := dr9 dk9_dX9_cut_0_0.1 2 (4, .aload_n 0, 1) rfl
theorem dX9_cut_5 : decode cX9_cut 5 = .ok (.getfield 50, 3) := dr9 dk9_dX9_cut_0_0.1 3 (5, .getfield 50, 3) rfl
theorem dX9_cut_8 : decode cX9_cut 8 = .ok (.baload, 1) := dr9 dk9_dX9_cut_0_0.1 4 (8, .baload, 1) rfl
theorem dX9_cut_9 : decode cX9_cut 9 = .ok (.istore_n 1, 1) := dr9 dk9_dX9_cut_0_0.1 5 (9, .istore_n 1, 1) rfl
theorem dX9_cut_10 : decode cX9_cut 10 = .ok (.aload_n 0, 1) := dr9 dk9_dX9_cut_0_0.1 6 (10, .aload_n 0, 1) rfl
theorem dX9_cut_11 : decode cX9_cut 11 = .ok (.getfield 23, 3) := dr9 dk9_dX9_cut_0_0.1 7 (11, .getfield 23, 3) rfl
theorem dX9_cut_14 : decode cX9_cut 14 = .ok (.aload_n 0, 1) := dr9 dk9_dX9_cut_0_0.1 8 (14, .aload_n 0, 1) rfl
theorem dX9_cut_15 : decode cX9_cut 15 = .ok (.getfield 53, 3) := dr9 dk9_dX9_cut_0_0.1 9 (15, .getfield 53, 3) rfl
theorem dX9_cut_18 : decode cX9_cut 18 = .ok (.aload_n 0, 1) := dr9 dk9_dX9_cut_0_0.1 10 (18, .aload_n 0, 1) rfl
theorem dX9_cut_19 : decode cX9_cut 19 = .ok (.getfield 50, 3) := dr9 dk9_dX9_cut_0_0.1 11 (19, .getfield 50, 3) rfl
theorem dX9_cut_22 : decode cX9_cut 22 = .ok (.iastore, 1) := dr9 dk9_dX9_cut_0_0.1 12 (22, .iastore, 1) rfl
theorem dX9_cut_23 : decode cX9_cut 23 = .ok (.aload_n 0, 1) := dr9 dk9_dX9_cut_0_0.1 13 (23, .aload_n 0, 1) rfl
theorem dX9_cut_24 : decode cX9_cut 24 = .ok (.getfield 26, 3) := dr9 dk9_dX9_cut_0_0.1 14 (24, .getfield 26, 3) rfl
theorem dX9_cut_27 : decode cX9_cut 27 = .ok (.aload_n 0, 1) := dr9 dk9_dX9_cut_0_0.1 15 (27, .aload_n 0, 1) rfl
theorem dX9_cut_28 : decode cX9_cut 28 = .ok (.getfield 53, 3) := dr9 dk9_dX9_cut_0_0.1 16 (28, .getfield 53, 3) rfl
theorem dX9_cut_31 : decode cX9_cut 31 = .ok (.lconst 0, 1) := dr9 dk9_dX9_cut_0_0.1 17 (31, .lconst 0, 1) rfl
theorem dX9_cut_32 : decode cX9_cut 32 = .ok (.lastore, 1) := dr9 dk9_dX9_cut_0_0.1 18 (32, .lastore, 1) rfl
theorem dX9_cut_33 : decode cX9_cut 33 = .ok (.iload_n 1, 1) := dr9 dk9_dX9_cut_0_0.1 19 (33, .iload_n 1, 1) rfl
theorem dX9_cut_34 : decode cX9_cut 34 = .ok (.invokestatic 75, 3) := dr9 dk9_dX9_cut_0_0.1 20 (34, .invokestatic 75, 3) rfl
theorem dX9_cut_37 : decode cX9_cut 37 = .ok (.ifCond .eq 10, 3) := dr9 dk9_dX9_cut_0_0.1 21 (37, .ifCond .eq 10, 3) rfl
theorem dX9_cut_47 : decode cX9_cut 47 = .ok (.iload_n 1, 1) := dr9 dk9_dX9_cut_0_0.1 22 (47, .iload_n 1, 1) rfl
theorem dX9_cut_48 : decode cX9_cut 48 = .ok (.invokestatic 82, 3) := dr9 dk9_dX9_cut_0_0.1 23 (48, .invokestatic 82, 3) rfl
theorem dX9_cut_51 : decode cX9_cut 51 = .ok (.ifCond .eq 10, 3) := dr9 dk9_dX9_cut_0_0.2.1 0 (51, .ifCond .eq 10, 3) rfl
theorem dX9_cut_61 : decode cX9_cut 61 = .ok (.aload_n 0, 1) := dr9 dk9_dX9_cut_0_0.2.1 1 (61, .aload_n 0, 1) rfl
theorem dX9_cut_62 : decode cX9_cut 62 = .ok (.getfield 19, 3) := dr9 dk9_dX9_cut_0_0.2.1 2 (62, .getfield 19, 3) rfl
theorem dX9_cut_65 : decode cX9_cut 65 = .ok (.aload_n 0, 1) := dr9 dk9_dX9_cut_0_0.2.1 3 (65, .aload_n 0, 1) rfl
theorem dX9_cut_66 : decode cX9_cut 66 = .ok (.getfield 53, 3) := dr9 dk9_dX9_cut_0_0.2.1 4 (66, .getfield 53, 3) rfl
theorem dX9_cut_69 : decode cX9_cut 69 = .ok (.ldc 88, 2) := dr9 dk9_dX9_cut_0_0.2.1 5 (69, .ldc 88, 2) rfl
theorem dX9_cut_71 : decode cX9_cut 71 = .ok (.iload_n 1, 1) := dr9 dk9_dX9_cut_0_0.2.1 6 (71, .iload_n 1, 1) rfl
theorem dX9_cut_72 : decode cX9_cut 72 = .ok (.i2c, 1) := dr9 dk9_dX9_cut_0_0.2.1 7 (72, .i2c, 1) rfl
theorem dX9_cut_73 : decode cX9_cut 73 = .ok (.invokevirtual 90, 3) := dr9 dk9_dX9_cut_0_0.2.1 8 (73, .invokevirtual 90, 3) rfl
theorem dX9_cut_76 : decode cX9_cut 76 = .ok (.ifCond .lt 7, 3) := dr9 dk9_dX9_cut_0_0.2.1 9 (76, .ifCond .lt 7, 3) rfl
theorem dX9_cut_83 : decode cX9_cut 83 = .ok (.iconst 1, 1) := dr9 dk9_dX9_cut_0_0.2.1 10 (83, .iconst 1, 1) rfl
theorem dX9_cut_84 : decode cX9_cut 84 = .ok (.iastore, 1) := dr9 dk9_dX9_cut_0_0.2.1 11 (84, .iastore, 1) rfl
theorem dX9_cut_85 : decode cX9_cut 85 = .ok (.aload_n 0, 1) := dr9 dk9_dX9_cut_0_0.2.1 12 (85, .aload_n 0, 1) rfl
theorem dX9_cut_86 : decode cX9_cut 86 = .ok (.dup, 1) := dr9 dk9_dX9_cut_0_0.2.1 13 (86, .dup, 1) rfl
theorem dX9_cut_87 : decode cX9_cut 87 = .ok (.getfield 50, 3) := dr9 dk9_dX9_cut_0_0.2.1 14 (87, .getfield 50, 3) rfl
theorem dX9_cut_90 : decode cX9_cut 90 = .ok (.iconst 1, 1) := dr9 dk9_dX9_cut_0_0.2.1 15 (90, .iconst 1, 1) rfl
theorem dX9_cut_91 : decode cX9_cut 91 = .ok (.iadd, 1) := dr9 dk9_dX9_cut_0_0.2.1 16 (91, .iadd, 1) rfl
theorem dX9_cut_92 : decode cX9_cut 92 = .ok (.putfield 50, 3) := dr9 dk9_dX9_cut_0_0.2.1 17 (92, .putfield 50, 3) rfl
theorem dX9_cut_95 : decode cX9_cut 95 = .ok (.aload_n 0, 1) := dr9 dk9_dX9_cut_0_0.2.1 18 (95, .aload_n 0, 1) rfl
theorem dX9_cut_96 : decode cX9_cut 96 = .ok (.dup, 1) := dr9 dk9_dX9_cut_0_0.2.1 19 (96, .dup, 1) rfl
theorem dX9_cut_97 : decode cX9_cut 97 = .ok (.getfield 53, 3) := dr9 dk9_dX9_cut_0_0.2.1 20 (97, .getfield 53, 3) rfl
theorem dX9_cut_100 : decode cX9_cut 100 = .ok (.iconst 1, 1) := dr9 dk9_dX9_cut_0_0.2.1 21 (100, .iconst 1, 1) rfl
theorem dX9_cut_101 : decode cX9_cut 101 = .ok (.iadd, 1) := dr9 dk9_dX9_cut_0_0.2.1 22 (101, .iadd, 1) rfl
theorem dX9_cut_102 : decode cX9_cut 102 = .ok (.putfield 53, 3) := dr9 dk9_dX9_cut_0_0.2.1 23 (102, .putfield 53, 3) rfl
theorem dX9_cut_105 : decode cX9_cut 105 = .ok (.return_, 1) := dr9 dk9_dX9_cut_0_0.2.2 0 (105, .return_, 1) rfl
theorem dX9_cut_79 : decode cX9_cut 79 = .ok (.iload_n 1, 1) := dr9 dk9_dX9_cut_0_0.2.2 1 (79, .iload_n 1, 1) rfl
theorem dX9_cut_80 : decode cX9_cut 80 = .ok (.goto 4, 3) := dr9 dk9_dX9_cut_0_0.2.2 2 (80, .goto 4, 3) rfl
theorem dX9_cut_54 : decode cX9_cut 54 = .ok (.aload_n 0, 1) := dr9 dk9_dX9_cut_0_0.2.2 3 (54, .aload_n 0, 1) rfl
theorem dX9_cut_55 : decode cX9_cut 55 = .ok (.invokevirtual 85, 3) := dr9 dk9_dX9_cut_0_0.2.2 4 (55, .invokevirtual 85, 3) rfl
theorem dX9_cut_58 : decode cX9_cut 58 = .ok (.goto 37, 3) := dr9 dk9_dX9_cut_0_0.2.2 5 (58, .goto 37, 3) rfl
theorem dX9_cut_40 : decode cX9_cut 40 = .ok (.aload_n 0, 1) := dr9 dk9_dX9_cut_0_0.2.2 6 (40, .aload_n 0, 1) rfl
theorem dX9_cut_41 : decode cX9_cut 41 = .ok (.invokevirtual 79, 3) := dr9 dk9_dX9_cut_0_0.2.2 7 (41, .invokevirtual 79, 3) rfl
theorem dX9_cut_44 : decode cX9_cut 44 = .ok (.goto 51, 3) := dr9 dk9_dX9_cut_0_0.2.2 8 (44, .goto 51, 3) rfl
theorem dk9_dX9_begin_0_0 : dOk cX9_begin [(0, .aload_n 0, 1), (1, .iconst 0, 1), (2, .putfield 50, 3), (5, .aload_n 0, 1), (6, .iconst 0, 1), (7, .putfield 53, 3), (10, .iconst 0, 1), (11, .istore_n 1, 1), (12, .iload_n 1, 1), (13, .sipush 4000, 3), (16, .if_icmp .ge 65, 3), (81, .aload_n 0, 1), (82, .getfield 19, 3), (85, .aload_n 0, 1), (86, .getfield 53, 3), (89, .iconst 0, 1), (90, .iastore, 1), (91, .aload_n 0, 1), (92, .getfield 23, 3), (95, .aload_n 0, 1), (96, .getfield 53, 3), (99, .aload_n 0, 1), (100, .getfield 47, 3), (103, .iastore, 1)] = true ∧ dOk cX9_begin [(104, .aload_n 0, 1), (105, .getfield 26, 3), (108, .aload_n 0, 1), (109, .getfield 53, 3), (112, .lconst 0, 1), (113, .lastore, 1), (114, .aload_n 0, 1), (115, .iconst 0, 1), (116, .putfield 59, 3), (119, .aload_n 0, 1), (120, .invokevirtual 62, 3), (123, .return_, 1), (19, .aload_n 0, 1), (20, .getfield 50, 3), (23, .aload_n 0, 1), (24, .getfield 47, 3), (27, .if_icmp .ge 54, 3), (30, .aload_n 0, 1), (31, .getfield 9, 3), (34, .aload_n 0, 1), (35, .getfield 50, 3), (38, .baload, 1), (39, .bipush 32, 2), (41, .if_icmp .eq 17, 3)] = true ∧ dOk cX9_begin [(58, .aload_n 0, 1), (59, .dup, 1), (60, .getfield 50, 3), (63, .iconst 1, 1), (64, .iadd, 1), (65, .putfield 50, 3), (68, .goto 7, 3), (75, .iinc 1 1, 3), (78, .goto (-66), 3), (44, .aload_n 0, 1), (45, .getfield 9, 3), (48, .aload_n 0, 1), (49, .getfield 50, 3), (52, .baload, 1), (53, .bipush 10, 2), (55, .if_icmp .ne 16, 3), (71, .aload_n 0, 1), (72, .invokevirtual 56, 3)] = true := by decide +kernel
theorem dX9_begin_0 : decode cX9_begin 0 = .ok (.aload_n 0, 1) := dr9 dk9_dX9_begin_0_0.1 0 (0, .aload_n 0, 1) rfl
theorem dX9_begin_1 : decode cX9_begin 1 = .ok (.iconst 0, 1) := dr9 dk9_dX9_begin_0_0.1 1 (1, .iconst 0, 1) rfl
theorem dX9_begin_2 : decode cX9_begin 2 = .ok (.putfield 50, 3) := dr9 dk9_dX9_begin_0_0.1 2 (2, .putfield 50, 3) rfl
theorem dX9_begin_5 : decode cX9_begin 5 = .ok (.aload_n 0, 1) := dr9 dk9_dX9_begin_0_0.1 3 (5, .aload_n 0, 1) rfl
theorem dX9_begin_6 : decode cX9_begin 6 = .ok (.iconst 0, 1) := dr9 dk9_dX9_begin_0_0.1 4 (6, .iconst 0, 1) rfl
theorem dX9_begin_7 : decode cX9_begin 7 = .ok (.putfield 53, 3) := dr9 dk9_dX9_begin_0_0.1 5 (7, .putfield 53, 3) rfl
theorem dX9_begin_10 : decode cX9_begin 10 = .ok (.iconst 0, 1) := dr9 dk9_dX9_begin_0_0.1 6 (10, .iconst 0, 1) rfl
theorem dX9_begin_11 : decode cX9_begin 11 = .ok (.istore_n 1, 1) := dr9 dk9_dX9_begin_0_0.1 7 (11, .istore_n 1, 1) rfl
theorem dX9_begin_12 : decode cX9_begin 12 = .ok (.iload_n 1, 1) := dr9 dk9_dX9_begin_0_0.1 8 (12, .iload_n 1, 1) rfl
theorem dX9_begin_13 : decode cX9_begin 13 = .ok (.sipush 4000, 3) := dr9 dk9_dX9_begin_0_0.1 9 (13, .sipush 4000, 3) rfl
theorem dX9_begin_16 : decode cX9_begin 16 = .ok (.if_icmp .ge 65, 3) := dr9 dk9_dX9_begin_0_0.1 10 (16, .if_icmp .ge 65, 3) rfl
theorem dX9_begin_81 : decode cX9_begin 81 = .ok (.aload_n 0, 1) := dr9 dk9_dX9_begin_0_0.1 11 (81, .aload_n 0, 1) rfl
theorem dX9_begin_82 : decode cX9_begin 82 = .ok (.getfield 19, 3) := dr9 dk9_dX9_begin_0_0.1 12 (82, .getfield 19, 3) rfl
theorem dX9_begin_85 : decode cX9_begin 85 = .ok (.aload_n 0, 1) := dr9 dk9_dX9_begin_0_0.1 13 (85, .aload_n 0, 1) rfl
theorem dX9_begin_86 : decode cX9_begin 86 = .ok (.getfield 53, 3) := dr9 dk9_dX9_begin_0_0.1 14 (86, .getfield 53, 3) rfl
theorem dX9_begin_89 : decode cX9_begin 89 = .ok (.iconst 0, 1) := dr9 dk9_dX9_begin_0_0.1 15 (89, .iconst 0, 1) rfl
theorem dX9_begin_90 : decode cX9_begin 90 = .ok (.iastore, 1) := dr9 dk9_dX9_begin_0_0.1 16 (90, .iastore, 1) rfl
theorem dX9_begin_91 : decode cX9_begin 91 = .ok (.aload_n 0, 1) := dr9 dk9_dX9_begin_0_0.1 17 (91, .aload_n 0, 1) rfl
theorem dX9_begin_92 : decode cX9_begin 92 = .ok (.getfield 23, 3) := dr9 dk9_dX9_begin_0_0.1 18 (92, .getfield 23, 3) rfl
theorem dX9_begin_95 : decode cX9_begin 95 = .ok (.aload_n 0, 1) := dr9 dk9_dX9_begin_0_0.1 19 (95, .aload_n 0, 1) rfl
theorem dX9_begin_96 : decode cX9_begin 96 = .ok (.getfield 53, 3) := dr9 dk9_dX9_begin_0_0.1 20 (96, .getfield 53, 3) rfl
theorem dX9_begin_99 : decode cX9_begin 99 = .ok (.aload_n 0, 1) := dr9 dk9_dX9_begin_0_0.1 21 (99, .aload_n 0, 1) rfl
theorem dX9_begin_100 : decode cX9_begin 100 = .ok (.getfield 47, 3) := dr9 dk9_dX9_begin_0_0.1 22 (100, .getfield 47, 3) rfl
theorem dX9_begin_103 : decode cX9_begin 103 = .ok (.iastore, 1) := dr9 dk9_dX9_begin_0_0.1 23 (103, .iastore, 1) rfl
theorem dX9_begin_104 : decode cX9_begin 104 = .ok (.aload_n 0, 1) := dr9 dk9_dX9_begin_0_0.2.1 0 (104, .aload_n 0, 1) rfl
theorem dX9_begin_105 : decode cX9_begin 105 = .ok (.getfield 26, 3) := dr9 dk9_dX9_begin_0_0.2.1 1 (105, .getfield 26, 3) rfl
theorem dX9_begin_108 : decode cX9_begin 108 = .ok (.aload_n 0, 1) := dr9 dk9_dX9_begin_0_0.2.1 2 (108, .aload_n 0, 1) rfl
theorem dX9_begin_109 : decode cX9_begin 109 = .ok (.getfield 53, 3) := dr9 dk9_dX9_begin_0_0.2.1 3 (109, .getfield 53, 3) rfl
theorem dX9_begin_112 : decode cX9_begin 112 = .ok (.lconst 0, 1) := dr9 dk9_dX9_begin_0_0.2.1 4 (112, .lconst 0, 1) rfl
theorem dX9_begin_113 : decode cX9_begin 113 = .ok (.lastore, 1) := dr9 dk9_dX9_begin_0_0.2.1 5 (113, .lastore, 1) rfl
theorem dX9_begin_114 : decode cX9_begin 114 = .ok (.aload_n 0, 1) := dr9 dk9_dX9_begin_0_0.2.1 6 (114, .aload_n 0, 1) rfl
theorem dX9_begin_115 : decode cX9_begin 115 = .ok (.iconst 0, 1) := dr9 dk9_dX9_begin_0_0.2.1 7 (115, .iconst 0, 1) rfl
theorem dX9_begin_116 : decode cX9_begin 116 = .ok (.putfield 59, 3) := dr9 dk9_dX9_begin_0_0.2.1 8 (116, .putfield 59, 3) rfl
theorem dX9_begin_119 : decode cX9_begin 119 = .ok (.aload_n 0, 1) := dr9 dk9_dX9_begin_0_0.2.1 9 (119, .aload_n 0, 1) rfl
theorem dX9_begin_120 : decode cX9_begin 120 = .ok (.invokevirtual 62, 3) := dr9 dk9_dX9_begin_0_0.2.1 10 (120, .invokevirtual 62, 3) rfl
theorem dX9_begin_123 : decode cX9_begin 123 = .ok (.return_, 1) := dr9 dk9_dX9_begin_0_0.2.1 11 (123, .return_, 1) rfl
theorem dX9_begin_19 : decode cX9_begin 19 = .ok (.aload_n 0, 1) := dr9 dk9_dX9_begin_0_0.2.1 12 (19, .aload_n 0, 1) rfl
theorem dX9_begin_20 : decode cX9_begin 20 = .ok (.getfield 50, 3) := dr9 dk9_dX9_begin_0_0.2.1 13 (20, .getfield 50, 3) rfl
theorem dX9_begin_23 : decode cX9_begin 23 = .ok (.aload_n 0, 1) := dr9 dk9_dX9_begin_0_0.2.1 14 (23, .aload_n 0, 1) rfl
theorem dX9_begin_24 : decode cX9_begin 24 = .ok (.getfield 47, 3) := dr9 dk9_dX9_begin_0_0.2.1 15 (24, .getfield 47, 3) rfl
theorem dX9_begin_27 : decode cX9_begin 27 = .ok (.if_icmp .ge 54, 3) := dr9 dk9_dX9_begin_0_0.2.1 16 (27, .if_icmp .ge 54, 3) rfl
theorem dX9_begin_30 : decode cX9_begin 30 = .ok (.aload_n 0, 1) := dr9 dk9_dX9_begin_0_0.2.1 17 (30, .aload_n 0, 1) rfl
theorem dX9_begin_31 : decode cX9_begin 31 = .ok (.getfield 9, 3) := dr9 dk9_dX9_begin_0_0.2.1 18 (31, .getfield 9, 3) rfl
theorem dX9_begin_34 : decode cX9_begin 34 = .ok (.aload_n 0, 1) := dr9 dk9_dX9_begin_0_0.2.1 19 (34, .aload_n 0, 1) rfl
theorem dX9_begin_35 : decode cX9_begin 35 = .ok (.getfield 50, 3) := dr9 dk9_dX9_begin_0_0.2.1 20 (35, .getfield 50, 3) rfl
theorem dX9_begin_38 : decode cX9_begin 38 = .ok (.baload, 1) := dr9 dk9_dX9_begin_0_0.2.1 21 (38, .baload, 1) rfl
theorem dX9_begin_39 : decode cX9_begin 39 = .ok (.bipush 32, 2) := dr9 dk9_dX9_begin_0_0.2.1 22 (39, .bipush 32, 2) rfl
theorem dX9_begin_41 : decode cX9_begin 41 = .ok (.if_icmp .eq 17, 3) := dr9 dk9_dX9_begin_0_0.2.1 23 (41, .if_icmp .eq 17, 3) rfl
theorem dX9_begin_58 : decode cX9_begin 58 = .ok (.aload_n 0, 1) := dr9 dk9_dX9_begin_0_0.2.2 0 (58, .aload_n 0, 1) rfl
theorem dX9_begin_59 : decode cX9_begin 59 = .ok (.dup, 1) := dr9 dk9_dX9_begin_0_0.2.2 1 (59, .dup, 1) rfl
theorem dX9_begin_60 : decode cX9_begin 60 = .ok (.getfield 50, 3) := dr9 dk9_dX9_begin_0_0.2.2 2 (60, .getfield 50, 3) rfl
theorem dX9_begin_63 : decode cX9_begin 63 = .ok (.iconst 1, 1) := dr9 dk9_dX9_begin_0_0.2.2 3 (63, .iconst 1, 1) rfl
theorem dX9_begin_64 : decode cX9_begin 64 = .ok (.iadd, 1) := dr9 dk9_dX9_begin_0_0.2.2 4 (64, .iadd, 1) rfl
theorem dX9_begin_65 : decode cX9_begin 65 = .ok (.putfield 50, 3) := dr9 dk9_dX9_begin_0_0.2.2 5 (65, .putfield 50, 3) rfl
theorem dX9_begin_68 : decode cX9_begin 68 = .ok (.goto 7, 3) := dr9 dk9_dX9_begin_0_0.2.2 6 (68, .goto 7, 3) rfl
theorem dX9_begin_75 : decode cX9_begin 75 = .ok (.iinc 1 1, 3) := dr9 dk9_dX9_begin_0_0.2.2 7 (75, .iinc 1 1, 3) rfl
theorem dX9_begin_78 : decode cX9_begin 78 = .ok (.goto (-66), 3) := dr9 dk9_dX9_begin_0_0.2.2 8 (78, .goto (-66), 3) rfl
theorem dX9_begin_44 : decode cX9_begin 44 = .ok (.aload_n 0, 1) := dr9 dk9_dX9_begin_0_0.2.2 9 (44, .aload_n 0, 1) rfl
theorem dX9_begin_45 : decode cX9_begin 45 = .ok (.getfield 9, 3) := dr9 dk9_dX9_begin_0_0.2.2 10 (45, .getfield 9, 3) rfl
theorem dX9_begin_48 : decode cX9_begin 48 = .ok (.aload_n 0, 1) := dr9 dk9_dX9_begin_0_0.2.2 11 (48, .aload_n 0, 1) rfl
theorem dX9_begin_49 : decode cX9_begin 49 = .ok (.getfield 50, 3) := dr9 dk9_dX9_begin_0_0.2.2 12 (49, .getfield 50, 3) rfl
theorem dX9_begin_52 : decode cX9_begin 52 = .ok (.baload, 1) := dr9 dk9_dX9_begin_0_0.2.2 13 (52, .baload, 1) rfl
theorem dX9_begin_53 : decode cX9_begin 53 = .ok (.bipush 10, 2) := dr9 dk9_dX9_begin_0_0.2.2 14 (53, .bipush 10, 2) rfl
theorem dX9_begin_55 : decode cX9_begin 55 = .ok (.if_icmp .ne 16, 3) := dr9 dk9_dX9_begin_0_0.2.2 15 (55, .if_icmp .ne 16, 3) rfl
theorem dX9_begin_71 : decode cX9_begin 71 = .ok (.aload_n 0, 1) := dr9 dk9_dX9_begin_0_0.2.2 16 (71, .aload_n 0, 1) rfl
theorem dX9_begin_72 : decode cX9_begin 72 = .ok (.invokevirtual 56, 3) := dr9 dk9_dX9_begin_0_0.2.2 17 (72, .invokevirtual 56, 3) rfl
abbrev r_x_cutWord : Room := { frames := 2, cells := 0, slots := 0, locals := 40 }
abbrev q_x_cutWord (D : va_G) (ks : KS) (ad : Nat → Nat) (kk : Nat → ClassId) (V : Vf) (L : Lf) (Z : XZ) (A : Nat → Prop) : Array Value → State → Outcome → State → Prop := va_Qv (fun (u : Vf × Lf) => rgd bX u.1 ∧ agr [(6, 6)] [12, 14] V u.1 ∧ agL [14] L u.2 ∧ ((u.1 6 6).toInt ≤ (V 6 5).toInt)) (fun u t => gq D A (xw ad kk u.1 u.2 Z) (xty kk Z) t) A
set_option maxHeartbeats 4000000 in
set_option maxRecDepth 100000 in
theorem x_cutWord (l : Launch) (D : va_G) (ks : KS) (sz : Nat) (ad : Nat → Nat) (kk : Nat → ClassId) (V : Vf) (L : Lf) (Z : XZ)  (hMV : rgd bX V) (y1 : (V 6 6).toInt ≤ (V 6 5).toInt) (y2 : (V 6 7).toInt ≤ 3999)  : Met l yX9_cutWord (Cond.code yX9_cutWord cX9_cutWord 4 none :: GW) r_x_cutWord (va_Pc [.ref (ad 6)] (gp D ks (xw ad kk V L Z) (xty kk Z) sz)) (q_x_cutWord D ks ad kk V L Z  (va_A (xw ad kk V L Z) sz)) 0 0 (va_A (xw ad kk V L Z) sz) := by
  refine g_met (q_x_cutWord D ks ad kk V L Z) (by decide) (Nat.le_of_ble_eq_true rfl) ?_
  intro p e s m below meth c A ls H locs hx hb hr hml hown hg hlocks hin hnw hgk hP hK hD hS hA hl
  have hown : s.vm.findClass RX9 = some m.cls := hown
  have hl : lv_has ls 4 [(0, .ref (ad 6))] := hl
  have hP : va_P D vwCl (xw ad kk V L Z) H := hP
  have hD : va_D A (xw ad kk V L Z) := hD
  have hK : va_K D vwCl (xty kk Z) s := hK
  have agV : agr [(6, 6)] [12, 14] V V := agr.rf
  have alL : agL [14] L L := agL.rf
  have r1 : 0 ≤ ((V 6 5)).toInt ∧ ((V 6 5)).toInt ≤ 4000 := hMV 6 5
  have r2 : 0 ≤ ((V 6 6)).toInt ∧ ((V 6 6)).toInt ≤ 4000 := hMV 6 6
  have r3 : 0 ≤ ((V 6 7)).toInt ∧ ((V 6 7)).toInt ≤ 4000 := hMV 6 7
  refine lv_iconst (v := 0) hx hb dX9_cutWord_0 (by decide) ?_
  refine lv_istore_n (lv' := [(1, .int 0), (0, .ref (ad 6))]) hx hb dX9_cutWord_1 rfl hl (by decide) rfl (fun ls hl => ?_)
  refine lv_lconst (v := 0) hx hb dX9_cutWord_2 (by decide) ?_
  refine lv_lstore_n (lv' := [(2, .long 0), (1, .int 0), (0, .ref (ad 6))]) hx hb dX9_cutWord_3 rfl hl (by decide) rfl (fun ls hl => ?_)
  have lp7 : ∀ (fulp7 : Nat) (y4 : Int64) (y5 : Int32) (V6 : Vf) (H : Heap) (locs : List Loc) (ls : Array Slot), 0 ≤ y5.toInt ∧ y5.toInt ≤ 4000 → (V6 6 6).toInt ≤ (V6 6 5).toInt → (V 6 6).toInt + y5.toInt = (V6 6 6).toInt → (V6 6 5).toInt - (V6 6 6).toInt < (fulp7 : Int) → agr [(6, 6)] [] V V6 → rgd bX V6 → va_P D vwCl (xw ad kk V6 L Z) H → va_D A (xw ad kk V6 L Z) → va_S A s.heap H locs → lv_has ls 4 [(2, .long y4), (1, .int y5), (0, .ref (ad 6))] → W p l e r_x_cutWord s m ([.ref (ad 6)] : List Value).toArray below meth c H locs 0 0 (MQ below (q_x_cutWord D ks ad kk V L Z  A) ([.ref (ad 6)] : List Value).toArray s 0 0 A) (F0 m 4 ls []) := by
    intro fulp7
    induction fulp7 with
    | zero =>
      intro y4 y5 V6 H locs ls klp7_0 xlp7_0 xlp7_1 hn ajV6 hMV6 hP hD hS hl
      exfalso; omega
    | succ fulp7 ihlp7 =>
      intro y4 y5 V6 H locs ls klp7_0 xlp7_0 xlp7_1 hn ajV6 hMV6 hP hD hS hl
      have agV6 : agr [(6, 6)] [12, 14] V V6 := agV.tr ajV6 (by decide) (by decide)
      have pq8 : (V6 6 5).toInt = ((V 6 5)).toInt := congrArg Int32.toInt (ajV6 6 5 rfl)
      have r9 : 0 ≤ ((V6 6 6)).toInt ∧ ((V6 6 6)).toInt ≤ 4000 := hMV6 6 6
      refine lv_aload_n hx hb dX9_cutWord_4 rfl (lv_at hl 2 rfl) ?_
      refine va_get (D := D) (ci := 9) (v := .int (V6 6 6)) (fs := (xfTape ad V6 L Z)) (C := RX9) (T := TX9) (N := 12) hx hb hg inX9 hown hK hP 6 xgTape rfl 6 (by decide) (hg _ w259) (fun _ h9 => h9) rfl dX9_cutWord_5 ?_
      refine lv_aload_n hx hb dX9_cutWord_8 rfl (lv_at hl 2 rfl) ?_
      refine va_get (D := D) (ci := 9) (v := .int (V6 6 5)) (fs := (xfTape ad V6 L Z)) (C := RX9) (T := TX9) (N := 12) hx hb hg inX9 hown hK hP 6 xgTape rfl 5 (by decide) (hg _ w258) (fun _ h9 => h9) rfl dX9_cutWord_9 ?_
      refine g_top (v := (V 6 5)) (ajV6 6 5 rfl) ?_
      refine lv_icmp_ge (tgt := 91) hx hb dX9_cutWord_12 (by decide) (fun c10 => ?_) (fun c10 => ?_)
      · skip
        have f11 : ((V 6 5)).toInt ≤ ((V6 6 6)).toInt := b_le rfl rfl c10
        refine lv_aload_n hx hb dX9_cutWord_91 rfl (lv_at hl 2 rfl) ?_
        refine va_get (D := D) (ci := 9) (v := .ref (ad 9)) (fs := (xfTape ad V6 L Z)) (C := RX9) (T := TX9) (N := 12) hx hb hg inX9 hown hK hP 6 xgTape rfl 2 (by decide) (hg _ w254) (fun _ h9 => h9) rfl dX9_cutWord_92 ?_
        refine lv_aload_n hx hb dX9_cutWord_95 rfl (lv_at hl 2 rfl) ?_
        refine va_get (D := D) (ci := 9) (v := .int (V6 6 7)) (fs := (xfTape ad V6 L Z)) (C := RX9) (T := TX9) (N := 12) hx hb hg inX9 hown hK hP 6 xgTape rfl 7 (by decide) (hg _ w260) (fun _ h9 => h9) rfl dX9_cutWord_96 ?_
        refine g_top (v := (V 6 7)) (ajV6 6 7 rfl) ?_
        refine lv_iload_n hx hb dX9_cutWord_99 rfl (lv_at hl 1 rfl) ?_
        refine lv_bipush (v := 12) hx hb dX9_cutWord_100 (by decide) ?_
        refine lv_icmp_le (tgt := 109) hx hb dX9_cutWord_102 (by decide) (fun c12 => ?_) (fun c12 => ?_)
        · skip
          have f13 : y5.toInt ≤ 12 := b_le rfl (by decide) c12
          refine lv_aload_n hx hb dX9_cutWord_109 rfl (lv_at hl 2 rfl) ?_
          refine lv_lload_n hx hb dX9_cutWord_110 rfl (lv_at hl 0 rfl) ?_
          refine gA_int (gA_runV (As := [.long y4]) (rest := [.int (V 6 7), .ref (ad 9)]) (ci := 9) (q0 := 6) hx hb hml hown hg hP hD hK hS hA hnw hgk (x_kindOf l D ks H.size ad kk V6 L Z y4 hMV6 ) w787 w789 w3 w157 w790 rfl xgTape hdV_yX9_kindOf ⟨Nat.le_of_ble_eq_true rfl, Nat.le_of_ble_eq_true rfl⟩ rfl hl.1 rfl (Nat.le_of_ble_eq_true rfl) dX9_cutWord_111 ⟨Nat.le_of_ble_eq_true rfl, Nat.le_of_ble_eq_true rfl⟩) hP hD hK hS hA (fun z14 u15 H locs w16 hP hD hK hS => ?_)
          refine va_iast (D := D) (i := (V 6 7)) (x := z14) hx hb hK hP hD hS 9 2 rfl rfl (i_in (a := ((V 6 7)).toInt) rfl (by omega)) dX9_cutWord_114 (fun H locs hP hD hS => ?_)
          obtain ⟨V17, hV17⟩ : ∃ z, z = up2 V6 12 (Int32.toNatClampNeg (V 6 7)) z14 := ⟨_, rfl⟩
          have ew18 : (xw ad kk V6 L Z).set 9 ((ad 9), .inl ((kk 9), 4001, .inl (upd (V6 12) (Int32.toNatClampNeg (V 6 7)) z14))) = xw ad kk V17 L Z := by rw [hV17]; exact xw_ss (by decide) rfl (xb_si (by decide))
          have hP : va_P D vwCl (xw ad kk V17 L Z) H := by rw [← ew18]; exact hP
          have hD : va_D A (xw ad kk V17 L Z) := by rw [← ew18]; exact hD
          have hMV17 : rgd bX V17 := hMV6.put hV17 (i_full _)
          have agV17 : agr [(6, 6)] [12, 14] V V17 := agV6.up hV17 rfl
          refine lv_aload_n hx hb dX9_cutWord_115 rfl (lv_at hl 2 rfl) ?_
          refine va_get (D := D) (ci := 9) (v := .ref (ad 11)) (fs := (xfTape ad V17 L Z)) (C := RX9) (T := TX9) (N := 12) hx hb hg inX9 hown hK hP 6 xgTape rfl 4 (by decide) (hg _ w256) (fun _ h9 => h9) rfl dX9_cutWord_116 ?_
          refine lv_aload_n hx hb dX9_cutWord_119 rfl (lv_at hl 2 rfl) ?_
          refine va_get (D := D) (ci := 9) (v := .int (V17 6 7)) (fs := (xfTape ad V17 L Z)) (C := RX9) (T := TX9) (N := 12) hx hb hg inX9 hown hK hP 6 xgTape rfl 7 (by decide) (hg _ w260) (fun _ h9 => h9) rfl dX9_cutWord_120 ?_
          refine g_top (v := (V 6 7)) ((up2_o hV17 (by decide)).trans (ajV6 6 7 rfl)) ?_
          refine lv_lload_n hx hb dX9_cutWord_123 rfl (lv_at hl 0 rfl) ?_
          refine va_last (D := D) (i := (V 6 7)) (x := y4) hx hb hK hP hD hS 11 4 rfl rfl (i_in (a := ((V 6 7)).toInt) rfl (by omega)) dX9_cutWord_124 (fun H locs hP hD hS => ?_)
          obtain ⟨L19, hL19⟩ : ∃ z, z = upL L 14 (Int32.toNatClampNeg (V 6 7)) y4 := ⟨_, rfl⟩
          have ew20 : (xw ad kk V17 L Z).set 11 ((ad 11), .inl ((kk 11), 4001, .inr (.inl (vp_updL (L 14) (Int32.toNatClampNeg (V 6 7)) y4)))) = xw ad kk V17 L19 Z := by rw [hL19]; exact xw_ss (by decide) rfl (fun j => xe_L (fun a => absurd a.1 (by decide)))
          have hP : va_P D vwCl (xw ad kk V17 L19 Z) H := by rw [← ew20]; exact hP
          have hD : va_D A (xw ad kk V17 L19 Z) := by rw [← ew20]; exact hD
          have alL19 : agL [14] L L19 := agL.up alL hL19 rfl
          have pq21 : (V17 6 6).toInt = ((V6 6 6)).toInt := congrArg Int32.toInt (up2_o hV17 (by decide))
          have pq22 : (V17 6 5).toInt = ((V 6 5)).toInt := congrArg Int32.toInt ((up2_o hV17 (by decide)).trans (ajV6 6 5 rfl))
          exact W.vret hx hb hr (fun t ht hW => ⟨⟨(V17, L19), rfl, ⟨hMV17, agV17, alL19, (show (V17 6 6).toInt ≤ (V 6 5).toInt from by omega)⟩, by rw [ht]; exact hP, va_K.moved hW.alike hK, hD⟩, hS.F ht⟩) hS.2.2 dX9_cutWord_125
        · skip
          have f23 : 12 < y5.toInt := b_nle rfl (by decide) c12
          refine lv_iconst (v := 1) hx hb dX9_cutWord_105 (by decide) ?_
          refine lv_goto (tgt := 114) hx hb dX9_cutWord_106 (by decide) ?_
          refine va_iast (D := D) (i := (V 6 7)) (x := 1) hx hb hK hP hD hS 9 2 rfl rfl (i_in (a := ((V 6 7)).toInt) rfl (by omega)) dX9_cutWord_114 (fun H locs hP hD hS => ?_)
          obtain ⟨V24, hV24⟩ : ∃ z, z = up2 V6 12 (Int32.toNatClampNeg (V 6 7)) 1 := ⟨_, rfl⟩
          have ew25 : (xw ad kk V6 L Z).set 9 ((ad 9), .inl ((kk 9), 4001, .inl (upd (V6 12) (Int32.toNatClampNeg (V 6 7)) 1))) = xw ad kk V24 L Z := by rw [hV24]; exact xw_ss (by decide) rfl (xb_si (by decide))
          have hP : va_P D vwCl (xw ad kk V24 L Z) H := by rw [← ew25]; exact hP
          have hD : va_D A (xw ad kk V24 L Z) := by rw [← ew25]; exact hD
          have hMV24 : rgd bX V24 := hMV6.put hV24 (i_full _)
          have agV24 : agr [(6, 6)] [12, 14] V V24 := agV6.up hV24 rfl
          refine lv_aload_n hx hb dX9_cutWord_115 rfl (lv_at hl 2 rfl) ?_
          refine va_get (D := D) (ci := 9) (v := .ref (ad 11)) (fs := (xfTape ad V24 L Z)) (C := RX9) (T := TX9) (N := 12) hx hb hg inX9 hown hK hP 6 xgTape rfl 4 (by decide) (hg _ w256) (fun _ h9 => h9) rfl dX9_cutWord_116 ?_
          refine lv_aload_n hx hb dX9_cutWord_119 rfl (lv_at hl 2 rfl) ?_
          refine va_get (D := D) (ci := 9) (v := .int (V24 6 7)) (fs := (xfTape ad V24 L Z)) (C := RX9) (T := TX9) (N := 12) hx hb hg inX9 hown hK hP 6 xgTape rfl 7 (by decide) (hg _ w260) (fun _ h9 => h9) rfl dX9_cutWord_120 ?_
          refine g_top (v := (V 6 7)) ((up2_o hV24 (by decide)).trans (ajV6 6 7 rfl)) ?_
          refine lv_lload_n hx hb dX9_cutWord_123 rfl (lv_at hl 0 rfl) ?_
          refine va_last (D := D) (i := (V 6 7)) (x := y4) hx hb hK hP hD hS 11 4 rfl rfl (i_in (a := ((V 6 7)).toInt) rfl (by omega)) dX9_cutWord_124 (fun H locs hP hD hS => ?_)
          obtain ⟨L26, hL26⟩ : ∃ z, z = upL L 14 (Int32.toNatClampNeg (V 6 7)) y4 := ⟨_, rfl⟩
          have ew27 : (xw ad kk V24 L Z).set 11 ((ad 11), .inl ((kk 11), 4001, .inr (.inl (vp_updL (L 14) (Int32.toNatClampNeg (V 6 7)) y4)))) = xw ad kk V24 L26 Z := by rw [hL26]; exact xw_ss (by decide) rfl (fun j => xe_L (fun a => absurd a.1 (by decide)))
          have hP : va_P D vwCl (xw ad kk V24 L26 Z) H := by rw [← ew27]; exact hP
          have hD : va_D A (xw ad kk V24 L26 Z) := by rw [← ew27]; exact hD
          have alL26 : agL [14] L L26 := agL.up alL hL26 rfl
          have pq28 : (V24 6 6).toInt = ((V6 6 6)).toInt := congrArg Int32.toInt (up2_o hV24 (by decide))
          have pq29 : (V24 6 5).toInt = ((V 6 5)).toInt := congrArg Int32.toInt ((up2_o hV24 (by decide)).trans (ajV6 6 5 rfl))
          exact W.vret hx hb hr (fun t ht hW => ⟨⟨(V24, L26), rfl, ⟨hMV24, agV24, alL26, (show (V24 6 6).toInt ≤ (V 6 5).toInt from by omega)⟩, by rw [ht]; exact hP, va_K.moved hW.alike hK, hD⟩, hS.F ht⟩) hS.2.2 dX9_cutWord_125
      · skip
        have f30 : ((V6 6 6)).toInt < ((V 6 5)).toInt := b_nle rfl rfl c10
        refine lv_aload_n hx hb dX9_cutWord_15 rfl (lv_at hl 2 rfl) ?_
        refine va_get (D := D) (ci := 9) (v := .ref (ad 7)) (fs := (xfTape ad V6 L Z)) (C := RX9) (T := TX9) (N := 12) hx hb hg inX9 hown hK hP 6 xgTape rfl 0 (by decide) (hg _ w252) (fun _ h9 => h9) rfl dX9_cutWord_16 ?_
        refine lv_aload_n hx hb dX9_cutWord_19 rfl (lv_at hl 2 rfl) ?_
        refine va_get (D := D) (ci := 9) (v := .int (V6 6 6)) (fs := (xfTape ad V6 L Z)) (C := RX9) (T := TX9) (N := 12) hx hb hg inX9 hown hK hP 6 xgTape rfl 6 (by decide) (hg _ w259) (fun _ h9 => h9) rfl dX9_cutWord_20 ?_
        refine va_bald (D := D) (i := (V6 6 6)) hx hb hK hP 7 0 rfl rfl (i_in (a := ((V6 6 6)).toInt) rfl (by omega)) dX9_cutWord_23 ?_
        refine g_top (v := (V 10 (Int32.toNatClampNeg (V6 6 6)))) (ajV6 10 (Int32.toNatClampNeg (V6 6 6)) rfl) ?_
        refine gE_int (g_runS (As := [.int (V 10 (Int32.toNatClampNeg (V6 6 6)))]) (rest := []) (wc := []) (tc := []) hx hb hml hown hg gw_self hP hD hK hS hA hnw hgk [] [] (by decide) rfl rfl (x_isLetter l D ks H.size (V 10 (Int32.toNatClampNeg (V6 6 6))) ) w780 w781 w157 w782 hdS_yX9_isLetter ⟨Nat.le_of_ble_eq_true rfl, Nat.le_of_ble_eq_true rfl⟩ rfl hl.1 rfl (Nat.le_of_ble_eq_true rfl) dX9_cutWord_24 ⟨Nat.le_of_ble_eq_true rfl, Nat.le_of_ble_eq_true rfl⟩) hP hD hK hS hA (fun z31 u32 H locs w33 hP hD hK hS => ?_)
        have rgz31 := w33
        have rgz31 : 0 ≤ z31.toInt ∧ z31.toInt ≤ 1 := rgz31
        refine lv_if_ne (tgt := 45) hx hb dX9_cutWord_27 (by decide) (fun c34 => ?_) (fun c34 => ?_)
        · skip
          have f35 : z31.toInt ≠ 0 := b_neq rfl (by decide) c34
          refine lv_iload_n hx hb dX9_cutWord_45 rfl (lv_at hl 1 rfl) ?_
          refine lv_bipush (v := 12) hx hb dX9_cutWord_46 (by decide) ?_
          refine lv_icmp_ge (tgt := 73) hx hb dX9_cutWord_48 (by decide) (fun c36 => ?_) (fun c36 => ?_)
          · skip
            have f37 : 12 ≤ y5.toInt := b_le (by decide) rfl c36
            refine lv_lconst (v := 0) hx hb dX9_cutWord_73 (by decide) ?_
            refine lv_lstore_n (lv' := [(2, .long 0), (1, .int y5), (0, .ref (ad 6))]) hx hb dX9_cutWord_74 rfl hl (by decide) rfl (fun ls hl => ?_)
            obtain ⟨z38, ez38⟩ : ∃ y : Int32, y = y5 + 1 := ⟨_, rfl⟩
            have hz38 : z38.toInt = y5.toInt + 1 := i_add ez38 rfl (by decide) (by omega)
            refine lv_iinc (v := z38) (lv' := [(1, .int z38), (2, .long 0), (0, .ref (ad 6))]) hx hb dX9_cutWord_75 hl (k := 1) rfl (by rw [ez38]; rfl) (by decide) rfl (fun ls hl => ?_)
            refine lv_aload_n hx hb dX9_cutWord_78 rfl (lv_at hl 2 rfl) ?_
            refine lv_dup hx hb dX9_cutWord_79 rfl ?_
            refine va_get (D := D) (ci := 9) (v := .int (V6 6 6)) (fs := (xfTape ad V6 L Z)) (C := RX9) (T := TX9) (N := 12) hx hb hg inX9 hown hK hP 6 xgTape rfl 6 (by decide) (hg _ w259) (fun _ h9 => h9) rfl dX9_cutWord_80 ?_
            refine lv_iconst (v := 1) hx hb dX9_cutWord_83 (by decide) ?_
            refine lv_iadd hx hb dX9_cutWord_84 ?_
            refine lv_topi (fun z39 ez39 => ?_)
            have hz39 : z39.toInt = ((V6 6 6)).toInt + 1 := i_add ez39 rfl (by decide) (by omega)
            refine va_put (D := D) (ci := 9) (v := .int z39) (ty := tyX9 6) (fs := (xfTape ad V6 L Z)) (C := RX9) (T := TX9) (N := 12) hx hb hg inX9 tyX9 tyX9_ok nmX9 hown hK hP hD hS 6 xgTape rfl 6 (by decide) (hg _ w259) (fun _ h9 => h9) rfl (tyX9_ok 6 (by decide)) rfl rfl (Nat.le_of_ble_eq_true rfl) dX9_cutWord_85 (fun H locs hP hD hS => ?_)
            obtain ⟨V40, hV40⟩ : ∃ z, z = up2 V6 6 6 z39 := ⟨_, rfl⟩
            have ew41 : (xw ad kk V6 L Z).set 6 ((ad 6), .inr (9, (xfTape ad V6 L Z).set 6 (.int z39))) = xw ad kk V40 L Z := by rw [hV40]; exact xw_ss (by decide) rfl (xb_si (by decide))
            have hP : va_P D vwCl (xw ad kk V40 L Z) H := by rw [← ew41]; exact hP
            have hD : va_D A (xw ad kk V40 L Z) := by rw [← ew41]; exact hD
            have hMV40 : rgd bX V40 := hMV6.put hV40 (show 0 ≤ z39.toInt ∧ z39.toInt ≤ 4000 from by omega)
            have agV40 : agr [(6, 6)] [12, 14] V V40 := agV6.up hV40 rfl
            refine lv_goto (tgt := 4) hx hb dX9_cutWord_88 (by decide) ?_
            have pq42 : (V40 6 5).toInt = ((V 6 5)).toInt := congrArg Int32.toInt ((up2_k hV40 (by decide)).trans (ajV6 6 5 rfl))
            have pq43 : (V40 6 6).toInt = z39.toInt := congrArg Int32.toInt (up2_s hV40)
            exact ihlp7 0 z38 V40 H locs ls (by omega) (show (V40 6 6).toInt ≤ (V40 6 5).toInt from by omega) (show (V 6 6).toInt + z38.toInt = (V40 6 6).toInt from by omega) (by omega) (agr.up (agr.tr agr.rf ajV6 (by decide) (by decide)) hV40 rfl) hMV40 hP hD hS (lv_sub hl [1, 0, 2] rfl)
          · skip
            have f44 : y5.toInt < 12 := b_nle (by decide) rfl c36
            refine lv_lload_n hx hb dX9_cutWord_51 rfl (lv_at hl 0 rfl) ?_
            refine lv_ldc2 (v := 37) hx hb hown (hg _ w245) dX9_cutWord_52 ?_
            refine lv_lmul hx hb dX9_cutWord_55 ?_
            refine lv_topl (fun w45 ew45 => ?_)
            refine lv_aload_n hx hb dX9_cutWord_56 rfl (lv_at hl 2 rfl) ?_
            refine va_get (D := D) (ci := 9) (v := .ref (ad 7)) (fs := (xfTape ad V6 L Z)) (C := RX9) (T := TX9) (N := 12) hx hb hg inX9 hown hK hP 6 xgTape rfl 0 (by decide) (hg _ w252) (fun _ h9 => h9) rfl dX9_cutWord_57 ?_
            refine lv_aload_n hx hb dX9_cutWord_60 rfl (lv_at hl 2 rfl) ?_
            refine va_get (D := D) (ci := 9) (v := .int (V6 6 6)) (fs := (xfTape ad V6 L Z)) (C := RX9) (T := TX9) (N := 12) hx hb hg inX9 hown hK hP 6 xgTape rfl 6 (by decide) (hg _ w259) (fun _ h9 => h9) rfl dX9_cutWord_61 ?_
            refine va_bald (D := D) (i := (V6 6 6)) hx hb hK hP 7 0 rfl rfl (i_in (a := ((V6 6 6)).toInt) rfl (by omega)) dX9_cutWord_64 ?_
            refine g_top (v := (V 10 (Int32.toNatClampNeg (V6 6 6)))) (ajV6 10 (Int32.toNatClampNeg (V6 6 6)) rfl) ?_
            refine gE_int (g_runS (As := [.int (V 10 (Int32.toNatClampNeg (V6 6 6)))]) (rest := [.long w45]) (wc := []) (tc := []) hx hb hml hown hg gw_self hP hD hK hS hA hnw hgk [] [] (by decide) rfl rfl (x_codeOf l D ks H.size (V 10 (Int32.toNatClampNeg (V6 6 6))) ) w246 w247 w157 w248 hdS_yX9_codeOf ⟨Nat.le_of_ble_eq_true rfl, Nat.le_of_ble_eq_true rfl⟩ rfl hl.1 rfl (Nat.le_of_ble_eq_true rfl) dX9_cutWord_65 ⟨Nat.le_of_ble_eq_true rfl, Nat.le_of_ble_eq_true rfl⟩) hP hD hK hS hA (fun z46 u47 H locs w48 hP hD hK hS => ?_)
            refine lv_i2l hx hb dX9_cutWord_68 rfl ?_
            refine lv_topl (fun w49 ew49 => ?_)
            refine lv_ladd hx hb dX9_cutWord_69 ?_
            refine lv_topl (fun w50 ew50 => ?_)
            refine lv_goto (tgt := 74) hx hb dX9_cutWord_70 (by decide) ?_
            refine lv_lstore_n (lv' := [(2, .long w50), (1, .int y5), (0, .ref (ad 6))]) hx hb dX9_cutWord_74 rfl hl (by decide) rfl (fun ls hl => ?_)
            obtain ⟨z51, ez51⟩ : ∃ y : Int32, y = y5 + 1 := ⟨_, rfl⟩
            have hz51 : z51.toInt = y5.toInt + 1 := i_add ez51 rfl (by decide) (by omega)
            refine lv_iinc (v := z51) (lv' := [(1, .int z51), (2, .long w50), (0, .ref (ad 6))]) hx hb dX9_cutWord_75 hl (k := 1) rfl (by rw [ez51]; rfl) (by decide) rfl (fun ls hl => ?_)
            refine lv_aload_n hx hb dX9_cutWord_78 rfl (lv_at hl 2 rfl) ?_
            refine lv_dup hx hb dX9_cutWord_79 rfl ?_
            refine va_get (D := D) (ci := 9) (v := .int (V6 6 6)) (fs := (xfTape ad V6 L Z)) (C := RX9) (T := TX9) (N := 12) hx hb hg inX9 hown hK hP 6 xgTape rfl 6 (by decide) (hg _ w259) (fun _ h9 => h9) rfl dX9_cutWord_80 ?_
            refine lv_iconst (v := 1) hx hb dX9_cutWord_83 (by decide) ?_
            refine lv_iadd hx hb dX9_cutWord_84 ?_
            refine lv_topi (fun z52 ez52 => ?_)
            have hz52 : z52.toInt = ((V6 6 6)).toInt + 1 := i_add ez52 rfl (by decide) (by omega)
            refine va_put (D := D) (ci := 9) (v := .int z52) (ty := tyX9 6) (fs := (xfTape ad V6 L Z)) (C := RX9) (T := TX9) (N := 12) hx hb hg inX9 tyX9 tyX9_ok nmX9 hown hK hP hD hS 6 xgTape rfl 6 (by decide) (hg _ w259) (fun _ h9 => h9) rfl (tyX9_ok 6 (by decide)) rfl rfl (Nat.le_of_ble_eq_true rfl) dX9_cutWord_85 (fun H locs hP hD hS => ?_)
            obtain ⟨V53, hV53⟩ : ∃ z, z = up2 V6 6 6 z52 := ⟨_, rfl⟩
            have ew54 : (xw ad kk V6 L Z).set 6 ((ad 6), .inr (9, (xfTape ad V6 L Z).set 6 (.int z52))) = xw ad kk V53 L Z := by rw [hV53]; exact xw_ss (by decide) rfl (xb_si (by decide))
            have hP : va_P D vwCl (xw ad kk V53 L Z) H := by rw [← ew54]; exact hP
            have hD : va_D A (xw ad kk V53 L Z) := by rw [← ew54]; exact hD
            have hMV53 : rgd bX V53 := hMV6.put hV53 (show 0 ≤ z52.toInt ∧ z52.toInt ≤ 4000 from by omega)
            have agV53 : agr [(6, 6)] [12, 14] V V53 := agV6.up hV53 rfl
            refine lv_goto (tgt := 4) hx hb dX9_cutWord_88 (by decide) ?_
            have pq55 : (V53 6 5).toInt = ((V 6 5)).toInt := congrArg Int32.toInt ((up2_k hV53 (by decide)).trans (ajV6 6 5 rfl))
            have pq56 : (V53 6 6).toInt = z52.toInt := congrArg Int32.toInt (up2_s hV53)
            exact ihlp7 w50 z51 V53 H locs ls (by omega) (show (V53 6 6).toInt ≤ (V53 6 5).toInt from by omega) (show (V 6 6).toInt + z51.toInt = (V53 6 6).toInt from by omega) (by omega) (agr.up (agr.tr agr.rf ajV6 (by decide) (by decide)) hV53 rfl) hMV53 hP hD hS (lv_sub hl [1, 0, 2] rfl)
        · skip
          have f57 : z31.toInt = 0 := b_eq rfl (by decide) c34
          refine lv_aload_n hx hb dX9_cutWord_30 rfl (lv_at hl 2 rfl) ?_
          refine va_get (D := D) (ci := 9) (v := .ref (ad 7)) (fs := (xfTape ad V6 L Z)) (C := RX9) (T := TX9) (N := 12) hx hb hg inX9 hown hK hP 6 xgTape rfl 0 (by decide) (hg _ w252) (fun _ h9 => h9) rfl dX9_cutWord_31 ?_
          refine lv_aload_n hx hb dX9_cutWord_34 rfl (lv_at hl 2 rfl) ?_
          refine va_get (D := D) (ci := 9) (v := .int (V6 6 6)) (fs := (xfTape ad V6 L Z)) (C := RX9) (T := TX9) (N := 12) hx hb hg inX9 hown hK hP 6 xgTape rfl 6 (by decide) (hg _ w259) (fun _ h9 => h9) rfl dX9_cutWord_35 ?_
          refine va_bald (D := D) (i := (V6 6 6)) hx hb hK hP 7 0 rfl rfl (i_in (a := ((V6 6 6)).toInt) rfl (by omega)) dX9_cutWord_38 ?_
          refine g_top (v := (V 10 (Int32.toNatClampNeg (V6 6 6)))) (ajV6 10 (Int32.toNatClampNeg (V6 6 6)) rfl) ?_
          refine gE_int (g_runS (As := [.int (V 10 (Int32.toNatClampNeg (V6 6 6)))]) (rest := []) (wc := []) (tc := []) hx hb hml hown hg gw_self hP hD hK hS hA hnw hgk [] [] (by decide) rfl rfl (x_isDigit l D ks H.size (V 10 (Int32.toNatClampNeg (V6 6 6))) ) w249 w250 w157 w251 hdS_yX9_isDigit ⟨Nat.le_of_ble_eq_true rfl, Nat.le_of_ble_eq_true rfl⟩ rfl hl.1 rfl (Nat.le_of_ble_eq_true rfl) dX9_cutWord_39 ⟨Nat.le_of_ble_eq_true rfl, Nat.le_of_ble_eq_true rfl⟩) hP hD hK hS hA (fun z58 u59 H locs w60 hP hD hK hS => ?_)
          have rgz58 := w60
          have rgz58 : 0 ≤ z58.toInt ∧ z58.toInt ≤ 1 := rgz58
          refine lv_if_eq (tgt := 91) hx hb dX9_cutWord_42 (by decide) (fun c61 => ?_) (fun c61 => ?_)
          · skip
            have f62 : z58.toInt = 0 := b_eq rfl (by decide) c61
            refine lv_aload_n hx hb dX9_cutWord_91 rfl (lv_at hl 2 rfl) ?_
            refine va_get (D := D) (ci := 9) (v := .ref (ad 9)) (fs := (xfTape ad V6 L Z)) (C := RX9) (T := TX9) (N := 12) hx hb hg inX9 hown hK hP 6 xgTape rfl 2 (by decide) (hg _ w254) (fun _ h9 => h9) rfl dX9_cutWord_92 ?_
            refine lv_aload_n hx hb dX9_cutWord_95 rfl (lv_at hl 2 rfl) ?_
            refine va_get (D := D) (ci := 9) (v := .int (V6 6 7)) (fs := (xfTape ad V6 L Z)) (C := RX9) (T := TX9) (N := 12) hx hb hg inX9 hown hK hP 6 xgTape rfl 7 (by decide) (hg _ w260) (fun _ h9 => h9) rfl dX9_cutWord_96 ?_
            refine g_top (v := (V 6 7)) (ajV6 6 7 rfl) ?_
            refine lv_iload_n hx hb dX9_cutWord_99 rfl (lv_at hl 1 rfl) ?_
            refine lv_bipush (v := 12) hx hb dX9_cutWord_100 (by decide) ?_
            refine lv_icmp_le (tgt := 109) hx hb dX9_cutWord_102 (by decide) (fun c63 => ?_) (fun c63 => ?_)
            · skip
              have f64 : y5.toInt ≤ 12 := b_le rfl (by decide) c63
              refine lv_aload_n hx hb dX9_cutWord_109 rfl (lv_at hl 2 rfl) ?_
              refine lv_lload_n hx hb dX9_cutWord_110 rfl (lv_at hl 0 rfl) ?_
              refine gA_int (gA_runV (As := [.long y4]) (rest := [.int (V 6 7), .ref (ad 9)]) (ci := 9) (q0 := 6) hx hb hml hown hg hP hD hK hS hA hnw hgk (x_kindOf l D ks H.size ad kk V6 L Z y4 hMV6 ) w787 w789 w3 w157 w790 rfl xgTape hdV_yX9_kindOf ⟨Nat.le_of_ble_eq_true rfl, Nat.le_of_ble_eq_true rfl⟩ rfl hl.1 rfl (Nat.le_of_ble_eq_true rfl) dX9_cutWord_111 ⟨Nat.le_of_ble_eq_true rfl, Nat.le_of_ble_eq_true rfl⟩) hP hD hK hS hA (fun z65 u66 H locs w67 hP hD hK hS => ?_)
              refine va_iast (D := D) (i := (V 6 7)) (x := z65) hx hb hK hP hD hS 9 2 rfl rfl (i_in (a := ((V 6 7)).toInt) rfl (by omega)) dX9_cutWord_114 (fun H locs hP hD hS => ?_)
              obtain ⟨V68, hV68⟩ : ∃ z, z = up2 V6 12 (Int32.toNatClampNeg (V 6 7)) z65 := ⟨_, rfl⟩
              have ew69 : (xw ad kk V6 L Z).set 9 ((ad 9), .inl ((kk 9), 4001, .inl (upd (V6 12) (Int32.toNatClampNeg (V 6 7)) z65))) = xw ad kk V68 L Z := by rw [hV68]; exact xw_ss (by decide) rfl (xb_si (by decide))
              have hP : va_P D vwCl (xw ad kk V68 L Z) H := by rw [← ew69]; exact hP
              have hD : va_D A (xw ad kk V68 L Z) := by rw [← ew69]; exact hD
              have hMV68 : rgd bX V68 := hMV6.put hV68 (i_full _)
              have agV68 : agr [(6, 6)] [12, 14] V V68 := agV6.up hV68 rfl
              refine lv_aload_n hx hb dX9_cutWord_115 rfl (lv_at hl 2 rfl) ?_
              refine va_get (D := D) (ci := 9) (v := .ref (ad 11)) (fs := (xfTape ad V68 L Z)) (C := RX9) (T := TX9) (N := 12) hx hb hg inX9 hown hK hP 6 xgTape rfl 4 (by decide) (hg _ w256) (fun _ h9 => h9) rfl dX9_cutWord_116 ?_
              refine lv_aload_n hx hb dX9_cutWord_119 rfl (lv_at hl 2 rfl) ?_
              refine va_get (D := D) (ci := 9) (v := .int (V68 6 7)) (fs := (xfTape ad V68 L Z)) (C := RX9) (T := TX9) (N := 12) hx hb hg inX9 hown hK hP 6 xgTape rfl 7 (by decide) (hg _ w260) (fun _ h9 => h9) rfl dX9_cutWord_120 ?_
              refine g_top (v := (V 6 7)) ((up2_o hV68 (by decide)).trans (ajV6 6 7 rfl)) ?_
              refine lv_lload_n hx hb dX9_cutWord_123 rfl (lv_at hl 0 rfl) ?_
              refine va_last (D := D) (i := (V 6 7)) (x := y4) hx hb hK hP hD hS 11 4 rfl rfl (i_in (a := ((V 6 7)).toInt) rfl (by omega)) dX9_cutWord_124 (fun H locs hP hD hS => ?_)
              obtain ⟨L70, hL70⟩ : ∃ z, z = upL L 14 (Int32.toNatClampNeg (V 6 7)) y4 := ⟨_, rfl⟩
              have ew71 : (xw ad kk V68 L Z).set 11 ((ad 11), .inl ((kk 11), 4001, .inr (.inl (vp_updL (L 14) (Int32.toNatClampNeg (V 6 7)) y4)))) = xw ad kk V68 L70 Z := by rw [hL70]; exact xw_ss (by decide) rfl (fun j => xe_L (fun a => absurd a.1 (by decide)))
              have hP : va_P D vwCl (xw ad kk V68 L70 Z) H := by rw [← ew71]; exact hP
              have hD : va_D A (xw ad kk V68 L70 Z) := by rw [← ew71]; exact hD
              have alL70 : agL [14] L L70 := agL.up alL hL70 rfl
              have pq72 : (V68 6 6).toInt = ((V6 6 6)).toInt := congrArg Int32.toInt (up2_o hV68 (by decide))
              have pq73 : (V68 6 5).toInt = ((V 6 5)).toInt := congrArg Int32.toInt ((up2_o hV68 (by decide)).trans (ajV6 6 5 rfl))
              exact W.vret hx hb hr (fun t ht hW => ⟨⟨(V68, L70), rfl, ⟨hMV68, agV68, alL70, (show (V68 6 6).toInt ≤ (V 6 5).toInt from by omega)⟩, by rw [ht]; exact hP, va_K.moved hW.alike hK, hD⟩, hS.F ht⟩) hS.2.2 dX9_cutWord_125
            · skip
              have f74 : 12 < y5.toInt := b_nle rfl (by decide) c63
              refine lv_iconst (v := 1) hx hb dX9_cutWord_105 (by decide) ?_
              refine lv_goto (tgt := 114) hx hb dX9_cutWord_106 (by decide) ?_
              refine va_iast (D := D) (i := (V 6 7)) (x := 1) hx hb hK hP hD hS 9 2 rfl rfl (i_in (a := ((V 6 7)).toInt) rfl (by omega)) dX9_cutWord_114 (fun H locs hP hD hS => ?_)
              obtain ⟨V75, hV75⟩ : ∃ z, z = up2 V6 12 (Int32.toNatClampNeg (V 6 7)) 1 := ⟨_, rfl⟩
              have ew76 : (xw ad kk V6 L Z).set 9 ((ad 9), .inl ((kk 9), 4001, .inl (upd (V6 12) (Int32.toNatClampNeg (V 6 7)) 1))) = xw ad kk V75 L Z := by rw [hV75]; exact xw_ss (by decide) rfl (xb_si (by decide))
              have hP : va_P D vwCl (xw ad kk V75 L Z) H := by rw [← ew76]; exact hP
              have hD : va_D A (xw ad kk V75 L Z) := by rw [← ew76]; exact hD
              have hMV75 : rgd bX V75 := hMV6.put hV75 (i_full _)
              have agV75 : agr [(6, 6)] [12, 14] V V75 := agV6.up hV75 rfl
              refine lv_aload_n hx hb dX9_cutWord_115 rfl (lv_at hl 2 rfl) ?_
              refine va_get (D := D) (ci := 9) (v := .ref (ad 11)) (fs := (xfTape ad V75 L Z)) (C := RX9) (T := TX9) (N := 12) hx hb hg inX9 hown hK hP 6 xgTape rfl 4 (by decide) (hg _ w256) (fun _ h9 => h9) rfl dX9_cutWord_116 ?_
              refine lv_aload_n hx hb dX9_cutWord_119 rfl (lv_at hl 2 rfl) ?_
              refine va_get (D := D) (ci := 9) (v := .int (V75 6 7)) (fs := (xfTape ad V75 L Z)) (C := RX9) (T := TX9) (N := 12) hx hb hg inX9 hown hK hP 6 xgTape rfl 7 (by decide) (hg _ w260) (fun _ h9 => h9) rfl dX9_cutWord_120 ?_
              refine g_top (v := (V 6 7)) ((up2_o hV75 (by decide)).trans (ajV6 6 7 rfl)) ?_
              refine lv_lload_n hx hb dX9_cutWord_123 rfl (lv_at hl 0 rfl) ?_
              refine va_last (D := D) (i := (V 6 7)) (x := y4) hx hb hK hP hD hS 11 4 rfl rfl (i_in (a := ((V 6 7)).toInt) rfl (by omega)) dX9_cutWord_124 (fun H locs hP hD hS => ?_)
              obtain ⟨L77, hL77⟩ : ∃ z, z = upL L 14 (Int32.toNatClampNeg (V 6 7)) y4 := ⟨_, rfl⟩
              have ew78 : (xw ad kk V75 L Z).set 11 ((ad 11), .inl ((kk 11), 4001, .inr (.inl (vp_updL (L 14) (Int32.toNatClampNeg (V 6 7)) y4)))) = xw ad kk V75 L77 Z := by rw [hL77]; exact xw_ss (by decide) rfl (fun j => xe_L (fun a => absurd a.1 (by decide)))
              have hP : va_P D vwCl (xw ad kk V75 L77 Z) H := by rw [← ew78]; exact hP
              have hD : va_D A (xw ad kk V75 L77 Z) := by rw [← ew78]; exact hD
              have alL77 : agL [14] L L77 := agL.up alL hL77 rfl
              have pq79 : (V75 6 6).toInt = ((V6 6 6)).toInt := congrArg Int32.toInt (up2_o hV75 (by decide))
              have pq80 : (V75 6 5).toInt = ((V 6 5)).toInt := congrArg Int32.toInt ((up2_o hV75 (by decide)).trans (ajV6 6 5 rfl))
              exact W.vret hx hb hr (fun t ht hW => ⟨⟨(V75, L77), rfl, ⟨hMV75, agV75, alL77, (show (V75 6 6).toInt ≤ (V 6 5).toInt from by omega)⟩, by rw [ht]; exact hP, va_K.moved hW.alike hK, hD⟩, hS.F ht⟩) hS.2.2 dX9_cutWord_125
          · skip
            have f81 : z58.toInt ≠ 0 := b_neq rfl (by decide) c61
            refine lv_iload_n hx hb dX9_cutWord_45 rfl (lv_at hl 1 rfl) ?_
            refine lv_bipush (v := 12) hx hb dX9_cutWord_46 (by decide) ?_
            refine lv_icmp_ge (tgt := 73) hx hb dX9_cutWord_48 (by decide) (fun c82 => ?_) (fun c82 => ?_)
            · skip
              have f83 : 12 ≤ y5.toInt := b_le (by decide) rfl c82
              refine lv_lconst (v := 0) hx hb dX9_cutWord_73 (by decide) ?_
              refine lv_lstore_n (lv' := [(2, .long 0), (1, .int y5), (0, .ref (ad 6))]) hx hb dX9_cutWord_74 rfl hl (by decide) rfl (fun ls hl => ?_)
              obtain ⟨z84, ez84⟩ : ∃ y : Int32, y = y5 + 1 := ⟨_, rfl⟩
              have hz84 : z84.toInt = y5.toInt + 1 := i_add ez84 rfl (by decide) (by omega)
              refine lv_iinc (v := z84) (lv' := [(1, .int z84), (2, .long 0), (0, .ref (ad 6))]) hx hb dX9_cutWord_75 hl (k := 1) rfl (by rw [ez84]; rfl) (by decide) rfl (fun ls hl => ?_)
              refine lv_aload_n hx hb dX9_cutWord_78 rfl (lv_at hl 2 rfl) ?_
              refine lv_dup hx hb dX9_cutWord_79 rfl ?_
              refine va_get (D := D) (ci := 9) (v := .int (V6 6 6)) (fs := (xfTape ad V6 L Z)) (C := RX9) (T := TX9) (N := 12) hx hb hg inX9 hown hK hP 6 xgTape rfl 6 (by decide) (hg _ w259) (fun _ h9 => h9) rfl dX9_cutWord_80 ?_
              refine lv_iconst (v := 1) hx hb dX9_cutWord_83 (by decide) ?_
              refine lv_iadd hx hb dX9_cutWord_84 ?_
              refine lv_topi (fun z85 ez85 => ?_)
              have hz85 : z85.toInt = ((V6 6 6)).toInt + 1 := i_add ez85 rfl (by decide) (by omega)
              refine va_put (D := D) (ci := 9) (v := .int z85) (ty := tyX9 6) (fs := (xfTape ad V6 L Z)) (C := RX9) (T := TX9) (N := 12) hx hb hg inX9 tyX9 tyX9_ok nmX9 hown hK hP hD hS 6 xgTape rfl 6 (by decide) (hg _ w259) (fun _ h9 => h9) rfl (tyX9_ok 6 (by decide)) rfl rfl (Nat.le_of_ble_eq_true rfl) dX9_cutWord_85 (fun H locs hP hD hS => ?_)
              obtain ⟨V86, hV86⟩ : ∃ z, z = up2 V6 6 6 z85 := ⟨_, rfl⟩
              have ew87 : (xw ad kk V6 L Z).set 6 ((ad 6), .inr (9, (xfTape ad V6 L Z).set 6 (.int z85))) = xw ad kk V86 L Z := by rw [hV86]; exact xw_ss (by decide) rfl (xb_si (by decide))
              have hP : va_P D vwCl (xw ad kk V86 L Z) H := by rw [← ew87]; exact hP
              have hD : va_D A (xw ad kk V86 L Z) := by rw [← ew87]; exact hD
              have hMV86 : rgd bX V86 := hMV6.put hV86 (show 0 ≤ z85.toInt ∧ z85.toInt ≤ 4000 from by omega)
              have agV86 : agr [(6, 6)] [12, 14] V V86 := agV6.up hV86 rfl
              refine lv_goto (tgt := 4) hx hb dX9_cutWord_88 (by decide) ?_
              have pq88 : (V86 6 5).toInt = ((V 6 5)).toInt := congrArg Int32.toInt ((up2_k hV86 (by decide)).trans (ajV6 6 5 rfl))
              have pq89 : (V86 6 6).toInt = z85.toInt := congrArg Int32.toInt (up2_s hV86)
              exact ihlp7 0 z84 V86 H locs ls (by omega) (show (V86 6 6).toInt ≤ (V86 6 5).toInt from by omega) (show (V 6 6).toInt + z84.toInt = (V86 6 6).toInt from by omega) (by omega) (agr.up (agr.tr agr.rf ajV6 (by decide) (by decide)) hV86 rfl) hMV86 hP hD hS (lv_sub hl [1, 0, 2] rfl)
            · skip
              have f90 : y5.toInt < 12 := b_nle (by decide) rfl c82
              refine lv_lload_n hx hb dX9_cutWord_51 rfl (lv_at hl 0 rfl) ?_
              refine lv_ldc2 (v := 37) hx hb hown (hg _ w245) dX9_cutWord_52 ?_
              refine lv_lmul hx hb dX9_cutWord_55 ?_
              refine lv_topl (fun w91 ew91 => ?_)
              refine lv_aload_n hx hb dX9_cutWord_56 rfl (lv_at hl 2 rfl) ?_
              refine va_get (D := D) (ci := 9) (v := .ref (ad 7)) (fs := (xfTape ad V6 L Z)) (C := RX9) (T := TX9) (N := 12) hx hb hg inX9 hown hK hP 6 xgTape rfl 0 (by decide) (hg _ w252) (fun _ h9 => h9) rfl dX9_cutWord_57 ?_
              refine lv_aload_n hx hb dX9_cutWord_60 rfl (lv_at hl 2 rfl) ?_
              refine va_get (D := D) (ci := 9) (v := .int (V6 6 6)) (fs := (xfTape ad V6 L Z)) (C := RX9) (T := TX9) (N := 12) hx hb hg inX9 hown hK hP 6 xgTape rfl 6 (by decide) (hg _ w259) (fun _ h9 => h9) rfl dX9_cutWord_61 ?_
              refine va_bald (D := D) (i := (V6 6 6)) hx hb hK hP 7 0 rfl rfl (i_in (a := ((V6 6 6)).toInt) rfl (by omega)) dX9_cutWord_64 ?_
              refine g_top (v := (V 10 (Int32.toNatClampNeg (V6 6 6)))) (ajV6 10 (Int32.toNatClampNeg (V6 6 6)) rfl) ?_
              refine gE_int (g_runS (As := [.int (V 10 (Int32.toNatClampNeg (V6 6 6)))]) (rest := [.long w91]) (wc := []) (tc := []) hx hb hml hown hg gw_self hP hD hK hS hA hnw hgk [] [] (by decide) rfl rfl (x_codeOf l D ks H.size (V 10 (Int32.toNatClampNeg (V6 6 6))) ) w246 w247 w157 w248 hdS_yX9_codeOf ⟨Nat.le_of_ble_eq_true rfl, Nat.le_of_ble_eq_true rfl⟩ rfl hl.1 rfl (Nat.le_of_ble_eq_true rfl) dX9_cutWord_65 ⟨Nat.le_of_ble_eq_true rfl, Nat.le_of_ble_eq_true rfl⟩) hP hD hK hS hA (fun z92 u93 H locs w94 hP hD hK hS => ?_)
              refine lv_i2l hx hb dX9_cutWord_68 rfl ?_
              refine lv_topl (fun w95 ew95 => ?_)
              refine lv_ladd hx hb dX9_cutWord_69 ?_
              refine lv_topl (fun w96 ew96 => ?_)
              refine lv_goto (tgt := 74) hx hb dX9_cutWord_70 (by decide) ?_
              refine lv_lstore_n (lv' := [(2, .long w96), (1, .int y5), (0, .ref (ad 6))]) hx hb dX9_cutWord_74 rfl hl (by decide) rfl (fun ls hl => ?_)
              obtain ⟨z97, ez97⟩ : ∃ y : Int32, y = y5 + 1 := ⟨_, rfl⟩
              have hz97 : z97.toInt = y5.toInt + 1 := i_add ez97 rfl (by decide) (by omega)
              refine lv_iinc (v := z97) (lv' := [(1, .int z97), (2, .long w96), (0, .ref (ad 6))]) hx hb dX9_cutWord_75 hl (k := 1) rfl (by rw [ez97]; rfl) (by decide) rfl (fun ls hl => ?_)
              refine lv_aload_n hx hb dX9_cutWord_78 rfl (lv_at hl 2 rfl) ?_
              refine lv_dup hx hb dX9_cutWord_79 rfl ?_
              refine va_get (D := D) (ci := 9) (v := .int (V6 6 6)) (fs := (xfTape ad V6 L Z)) (C := RX9) (T := TX9) (N := 12) hx hb hg inX9 hown hK hP 6 xgTape rfl 6 (by decide) (hg _ w259) (fun _ h9 => h9) rfl dX9_cutWord_80 ?_
              refine lv_iconst (v := 1) hx hb dX9_cutWord_83 (by decide) ?_
              refine lv_iadd hx hb dX9_cutWord_84 ?_
              refine lv_topi (fun z98 ez98 => ?_)
              have hz98 : z98.toInt = ((V6 6 6)).toInt + 1 := i_add ez98 rfl (by decide) (by omega)
              refine va_put (D := D) (ci := 9) (v := .int z98) (ty := tyX9 6) (fs := (xfTape ad V6 L Z)) (C := RX9) (T := TX9) (N := 12) hx hb hg inX9 tyX9 tyX9_ok nmX9 hown hK hP hD hS 6 xgTape rfl 6 (by decide) (hg _ w259) (fun _ h9 => h9) rfl (tyX9_ok 6 (by decide)) rfl rfl (Nat.le_of_ble_eq_true rfl) dX9_cutWord_85 (fun H locs hP hD hS => ?_)
              obtain ⟨V99, hV99⟩ : ∃ z, z = up2 V6 6 6 z98 := ⟨_, rfl⟩
              have ew100 : (xw ad kk V6 L Z).set 6 ((ad 6), .inr (9, (xfTape ad V6 L Z).set 6 (.int z98))) = xw ad kk V99 L Z := by rw [hV99]; exact xw_ss (by decide) rfl (xb_si (by decide))
              have hP : va_P D vwCl (xw ad kk V99 L Z) H := by rw [← ew100]; exact hP
              have hD : va_D A (xw ad kk V99 L Z) := by rw [← ew100]; exact hD
              have hMV99 : rgd bX V99 := hMV6.put hV99 (show 0 ≤ z98.toInt ∧ z98.toInt ≤ 4000 from by omega)
              have agV99 : agr [(6, 6)] [12, 14] V V99 := agV6.up hV99 rfl
              refine lv_goto (tgt := 4) hx hb dX9_cutWord_88 (by decide) ?_
              have pq101 : (V99 6 5).toInt = ((V 6 5)).toInt := congrArg Int32.toInt ((up2_k hV99 (by decide)).trans (ajV6 6 5 rfl))
              have pq102 : (V99 6 6).toInt = z98.toInt := congrArg Int32.toInt (up2_s hV99)
              exact ihlp7 w96 z97 V99 H locs ls (by omega) (show (V99 6 6).toInt ≤ (V99 6 5).toInt from by omega) (show (V 6 6).toInt + z97.toInt = (V99 6 6).toInt from by omega) (by omega) (agr.up (agr.tr agr.rf ajV6 (by decide) (by decide)) hV99 rfl) hMV99 hP hD hS (lv_sub hl [1, 0, 2] rfl)
  have r103 : Int32.toInt 0 = 0 := by decide
  exact lp7 (((V 6 5).toInt - (V 6 6).toInt + 1 : Int).toNat) 0 0 V H locs ls (by decide) (show (V 6 6).toInt ≤ (V 6 5).toInt from by omega) (show (V 6 6).toInt + (Int32.toInt 0) = (V 6 6).toInt from by omega) (by omega) agr.rf hMV hP hD hS (lv_sub hl [0, 1, 2] rfl)
abbrev r_x_cut : Room := { frames := 4, cells := 0, slots := 0, locals := 91 }
abbrev q_x_cut (D : va_G) (ks : KS) (ad : Nat → Nat) (kk : Nat → ClassId) (V : Vf) (L : Lf) (Z : XZ) (A : Nat → Prop) : Array Value → State → Outcome → State → Prop := va_Qv (fun (u : Vf × Lf) => rgd bX u.1 ∧ agr [(6, 6), (6, 7)] [12, 13, 14] V u.1 ∧ agL [14] L u.2 ∧ ((u.1 6 6).toInt ≤ (u.1 6 5).toInt) ∧ ((u.1 6 7).toInt = (V 6 7).toInt + 1)) (fun u t => gq D A (xw ad kk u.1 u.2 Z) (xty kk Z) t) A
set_option maxHeartbeats 4000000 in
set_option maxRecDepth 100000 in
theorem x_cut (l : Launch) (D : va_G) (ks : KS) (sz : Nat) (ad : Nat → Nat) (kk : Nat → ClassId) (V : Vf) (L : Lf) (Z : XZ)  (hMV : rgd bX V) (y1 : (V 6 6).toInt < (V 6 5).toInt) (y2 : (V 6 7).toInt ≤ 3999)  : Met l yX9_cut (Cond.code yX9_cut cX9_cut 2 none :: GW) r_x_cut (va_Pc [.ref (ad 6)] (gp D ks (xw ad kk V L Z) (xty kk Z) sz)) (q_x_cut D ks ad kk V L Z  (va_A (xw ad kk V L Z) sz)) 0 0 (va_A (xw ad kk V L Z) sz) := by
  refine g_met (q_x_cut D ks ad kk V L Z) (by decide) (Nat.le_of_ble_eq_true rfl) ?_
  intro p e s m below meth c A ls H locs hx hb hr hml hown hg hlocks hin hnw hgk hP hK hD hS hA hl
  have hown : s.vm.findClass RX9 = some m.cls := hown
  have hl : lv_has ls 2 [(0, .ref (ad 6))] := hl
  have hP : va_P D vwCl (xw ad kk V L Z) H := hP
  have hD : va_D A (xw ad kk V L Z) := hD
  have hK : va_K D vwCl (xty kk Z) s := hK
  have agV : agr [(6, 6), (6, 7)] [12, 13, 14] V V := agr.rf
  have alL : agL [14] L L := agL.rf
  have r1 : 0 ≤ ((V 6 5)).toInt ∧ ((V 6 5)).toInt ≤ 4000 := hMV 6 5
  have r2 : 0 ≤ ((V 6 6)).toInt ∧ ((V 6 6)).toInt ≤ 4000 := hMV 6 6
  have r3 : 0 ≤ ((V 6 7)).toInt ∧ ((V 6 7)).toInt ≤ 4000 := hMV 6 7
  refine lv_aload_n hx hb dX9_cut_0 rfl (lv_at hl 0 rfl) ?_
  refine va_get (D := D) (ci := 9) (v := .ref (ad 7)) (fs := (xfTape ad V L Z)) (C := RX9) (T := TX9) (N := 12) hx hb hg inX9 hown hK hP 6 xgTape rfl 0 (by decide) (hg _ w252) (fun _ h9 => h9) rfl dX9_cut_1 ?_
  refine lv_aload_n hx hb dX9_cut_4 rfl (lv_at hl 0 rfl) ?_
  refine va_get (D := D) (ci := 9) (v := .int (V 6 6)) (fs := (xfTape ad V L Z)) (C := RX9) (T := TX9) (N := 12) hx hb hg inX9 hown hK hP 6 xgTape rfl 6 (by decide) (hg _ w259) (fun _ h9 => h9) rfl dX9_cut_5 ?_
  refine va_bald (D := D) (i := (V 6 6)) hx hb hK hP 7 0 rfl rfl (i_in (a := ((V 6 6)).toInt) rfl (by omega)) dX9_cut_8 ?_
  refine lv_istore_n (lv' := [(1, .int (V 10 (Int32.toNatClampNeg (V 6 6)))), (0, .ref (ad 6))]) hx hb dX9_cut_9 rfl hl (by decide) rfl (fun ls hl => ?_)
  refine lv_aload_n hx hb dX9_cut_10 rfl (lv_at hl 1 rfl) ?_
  refine va_get (D := D) (ci := 9) (v := .ref (ad 10)) (fs := (xfTape ad V L Z)) (C := RX9) (T := TX9) (N := 12) hx hb hg inX9 hown hK hP 6 xgTape rfl 3 (by decide) (hg _ w255) (fun _ h9 => h9) rfl dX9_cut_11 ?_
  refine lv_aload_n hx hb dX9_cut_14 rfl (lv_at hl 1 rfl) ?_
  refine va_get (D := D) (ci := 9) (v := .int (V 6 7)) (fs := (xfTape ad V L Z)) (C := RX9) (T := TX9) (N := 12) hx hb hg inX9 hown hK hP 6 xgTape rfl 7 (by decide) (hg _ w260) (fun _ h9 => h9) rfl dX9_cut_15 ?_
  refine lv_aload_n hx hb dX9_cut_18 rfl (lv_at hl 1 rfl) ?_
  refine va_get (D := D) (ci := 9) (v := .int (V 6 6)) (fs := (xfTape ad V L Z)) (C := RX9) (T := TX9) (N := 12) hx hb hg inX9 hown hK hP 6 xgTape rfl 6 (by decide) (hg _ w259) (fun _ h9 => h9) rfl dX9_cut_19 ?_
  refine va_iast (D := D) (i := (V 6 7)) (x := (V 6 6)) hx hb hK hP hD hS 10 3 rfl rfl (i_in (a := ((V 6 7)).toInt) rfl (by omega)) dX9_cut_22 (fun H locs hP hD hS => ?_)
  obtain ⟨V4, hV4⟩ : ∃ z, z = up2 V 13 (Int32.toNatClampNeg (V 6 7)) (V 6 6) := ⟨_, rfl⟩
  have ew5 : (xw ad kk V L Z).set 10 ((ad 10), .inl ((kk 10), 4001, .inl (upd (V 13) (Int32.toNatClampNeg (V 6 7)) (V 6 6)))) = xw ad kk V4 L Z := by rw [hV4]; exact xw_ss (by decide) rfl (xb_si (by decide))
  have hP : va_P D vwCl (xw ad kk V4 L Z) H := by rw [← ew5]; exact hP
  have hD : va_D A (xw ad kk V4 L Z) := by rw [← ew5]; exact hD
  have hMV4 : rgd bX V4 := hMV.put hV4 (show 0 ≤ ((V 6 6)).toInt ∧ ((V 6 6)).toInt ≤ 4000 from by omega)
  have agV4 : agr [(6, 6), (6, 7)] [12, 13, 14] V V4 := agV.up hV4 rfl
  refine lv_aload_n hx hb dX9_cut_23 rfl (lv_at hl 1 rfl) ?_
  refine va_get (D := D) (ci := 9) (v := .ref (ad 11)) (fs := (xfTape ad V4 L Z)) (C := RX9) (T := TX9) (N := 12) hx hb hg inX9 hown hK hP 6 xgTape rfl 4 (by decide) (hg _ w256) (fun _ h9 => h9) rfl dX9_cut_24 ?_
  refine lv_aload_n hx hb dX9_cut_27 rfl (lv_at hl 1 rfl) ?_
  refine va_get (D := D) (ci := 9) (v := .int (V4 6 7)) (fs := (xfTape ad V4 L Z)) (C := RX9) (T := TX9) (N := 12) hx hb hg inX9 hown hK hP 6 xgTape rfl 7 (by decide) (hg _ w260) (fun _ h9 => h9) rfl dX9_cut_28 ?_
  refine g_top (v := (V 6 7)) (up2_o hV4 (by decide)) ?_
  refine lv_lconst (v := 0) hx hb dX9_cut_31 (by decide) ?_
  refine va_last (D := D) (i := (V 6 7)) (x := 0) hx hb hK hP hD hS 11 4 rfl rfl (i_in (a := ((V 6 7)).toInt) rfl (by omega)) dX9_cut_32 (fun H locs hP hD hS => ?_)
  obtain ⟨L6, hL6⟩ : ∃ z, z = upL L 14 (Int32.toNatClampNeg (V 6 7)) 0 := ⟨_, rfl⟩
  have ew7 : (xw ad kk V4 L Z).set 11 ((ad 11), .inl ((kk 11), 4001, .inr (.inl (vp_updL (L 14) (Int32.toNatClampNeg (V 6 7)) 0)))) = xw ad kk V4 L6 Z := by rw [hL6]; exact xw_ss (by decide) rfl (fun j => xe_L (fun a => absurd a.1 (by decide)))
  have hP : va_P D vwCl (xw ad kk V4 L6 Z) H := by rw [← ew7]; exact hP
  have hD : va_D A (xw ad kk V4 L6 Z) := by rw [← ew7]; exact hD
  have alL6 : agL [14] L L6 := agL.up alL hL6 rfl
  refine lv_iload_n hx hb dX9_cut_33 rfl (lv_at hl 0 rfl) ?_
  refine gE_int (g_runS (As := [.int (V 10 (Int32.toNatClampNeg (V 6 6)))]) (rest := []) (wc := []) (tc := []) hx hb hml hown hg gw_self hP hD hK hS hA hnw hgk [] [] (by decide) rfl rfl (x_isDigit l D ks H.size (V 10 (Int32.toNatClampNeg (V 6 6))) ) w249 w250 w157 w251 hdS_yX9_isDigit ⟨Nat.le_of_ble_eq_true rfl, Nat.le_of_ble_eq_true rfl⟩ rfl hl.1 rfl (Nat.le_of_ble_eq_true rfl) dX9_cut_34 ⟨Nat.le_of_ble_eq_true rfl, Nat.le_of_ble_eq_true rfl⟩) hP hD hK hS hA (fun z8 u9 H locs w10 hP hD hK hS => ?_)
  have rgz8 := w10
  have rgz8 : 0 ≤ z8.toInt ∧ z8.toInt ≤ 1 := rgz8
  refine lv_if_eq (tgt := 47) hx hb dX9_cut_37 (by decide) (fun c11 => ?_) (fun c11 => ?_)
  · skip
    have f12 : z8.toInt = 0 := b_eq rfl (by decide) c11
    refine lv_iload_n hx hb dX9_cut_47 rfl (lv_at hl 0 rfl) ?_
    refine gE_int (g_runS (As := [.int (V 10 (Int32.toNatClampNeg (V 6 6)))]) (rest := []) (wc := []) (tc := []) hx hb hml hown hg gw_self hP hD hK hS hA hnw hgk [] [] (by decide) rfl rfl (x_isLetter l D ks H.size (V 10 (Int32.toNatClampNeg (V 6 6))) ) w780 w781 w157 w782 hdS_yX9_isLetter ⟨Nat.le_of_ble_eq_true rfl, Nat.le_of_ble_eq_true rfl⟩ rfl hl.1 rfl (Nat.le_of_ble_eq_true rfl) dX9_cut_48 ⟨Nat.le_of_ble_eq_true rfl, Nat.le_of_ble_eq_true rfl⟩) hP hD hK hS hA (fun z13 u14 H locs w15 hP hD hK hS => ?_)
    have rgz13 := w15
    have rgz13 : 0 ≤ z13.toInt ∧ z13.toInt ≤ 1 := rgz13
    refine lv_if_eq (tgt := 61) hx hb dX9_cut_51 (by decide) (fun c16 => ?_) (fun c16 => ?_)
    · skip
      have f17 : z13.toInt = 0 := b_eq rfl (by decide) c16
      refine lv_aload_n hx hb dX9_cut_61 rfl (lv_at hl 1 rfl) ?_
      refine va_get (D := D) (ci := 9) (v := .ref (ad 9)) (fs := (xfTape ad V4 L6 Z)) (C := RX9) (T := TX9) (N := 12) hx hb hg inX9 hown hK hP 6 xgTape rfl 2 (by decide) (hg _ w254) (fun _ h9 => h9) rfl dX9_cut_62 ?_
      refine lv_aload_n hx hb dX9_cut_65 rfl (lv_at hl 1 rfl) ?_
      refine va_get (D := D) (ci := 9) (v := .int (V4 6 7)) (fs := (xfTape ad V4 L6 Z)) (C := RX9) (T := TX9) (N := 12) hx hb hg inX9 hown hK hP 6 xgTape rfl 7 (by decide) (hg _ w260) (fun _ h9 => h9) rfl dX9_cut_66 ?_
      refine g_top (v := (V 6 7)) (up2_o hV4 (by decide)) ?_
      refine va_ldcS hx hb hown hgk.2.2.2.2.2.2 dX9_cut_69 ?_
      refine lv_iload_n hx hb dX9_cut_71 rfl (lv_at hl 0 rfl) ?_
      refine lv_i2c hx hb dX9_cut_72 rfl ?_
      refine lv_topi (fun z18 ez18 => ?_)
      refine gE_int (g_runW (As := [.int z18]) (rest := [.int (V 6 7), .ref (ad 9)]) (wc := []) (tc := []) (C := RJ0) hx hb hml hown hg gw_self hP hD hK hS hA hnw hgk [] [] (by decide) rfl rfl (c_sg_index l D ks H.size z18) w792 w793 w794 w158 w795 (vk_recv (i := 0) hgk.2.2.2.2.2.1 (by decide) hS) hdV_yJ0_indexOf_0f7a4 ⟨Nat.le_of_ble_eq_true rfl, Nat.le_of_ble_eq_true rfl⟩ rfl hl.1 rfl (Nat.le_of_ble_eq_true rfl) dX9_cut_73 ⟨Nat.le_of_ble_eq_true rfl, Nat.le_of_ble_eq_true rfl⟩) hP hD hK hS hA (fun z19 u20 H locs w21 hP hD hK hS => ?_)
      refine lv_if_lt (tgt := 83) hx hb dX9_cut_76 (by decide) (fun c22 => ?_) (fun c22 => ?_)
      · skip
        have f23 : z19.toInt < 0 := b_lt rfl (by decide) c22
        refine lv_iconst (v := 1) hx hb dX9_cut_83 (by decide) ?_
        refine va_iast (D := D) (i := (V 6 7)) (x := 1) hx hb hK hP hD hS 9 2 rfl rfl (i_in (a := ((V 6 7)).toInt) rfl (by omega)) dX9_cut_84 (fun H locs hP hD hS => ?_)
        obtain ⟨V24, hV24⟩ : ∃ z, z = up2 V4 12 (Int32.toNatClampNeg (V 6 7)) 1 := ⟨_, rfl⟩
        have ew25 : (xw ad kk V4 L6 Z).set 9 ((ad 9), .inl ((kk 9), 4001, .inl (upd (V4 12) (Int32.toNatClampNeg (V 6 7)) 1))) = xw ad kk V24 L6 Z := by rw [hV24]; exact xw_ss (by decide) rfl (xb_si (by decide))
        have hP : va_P D vwCl (xw ad kk V24 L6 Z) H := by rw [← ew25]; exact hP
        have hD : va_D A (xw ad kk V24 L6 Z) := by rw [← ew25]; exact hD
        have hMV24 : rgd bX V24 := hMV4.put hV24 (i_full _)
        have agV24 : agr [(6, 6), (6, 7)] [12, 13, 14] V V24 := agV4.up hV24 rfl
        refine lv_aload_n hx hb dX9_cut_85 rfl (lv_at hl 1 rfl) ?_
        refine lv_dup hx hb dX9_cut_86 rfl ?_
        refine va_get (D := D) (ci := 9) (v := .int (V24 6 6)) (fs := (xfTape ad V24 L6 Z)) (C := RX9) (T := TX9) (N := 12) hx hb hg inX9 hown hK hP 6 xgTape rfl 6 (by decide) (hg _ w259) (fun _ h9 => h9) rfl dX9_cut_87 ?_
        refine g_top (v := (V 6 6)) ((up2_o hV24 (by decide)).trans (up2_o hV4 (by decide))) ?_
        refine lv_iconst (v := 1) hx hb dX9_cut_90 (by decide) ?_
        refine lv_iadd hx hb dX9_cut_91 ?_
        refine lv_topi (fun z26 ez26 => ?_)
        have hz26 : z26.toInt = ((V 6 6)).toInt + 1 := i_add ez26 rfl (by decide) (by omega)
        refine va_put (D := D) (ci := 9) (v := .int z26) (ty := tyX9 6) (fs := (xfTape ad V24 L6 Z)) (C := RX9) (T := TX9) (N := 12) hx hb hg inX9 tyX9 tyX9_ok nmX9 hown hK hP hD hS 6 xgTape rfl 6 (by decide) (hg _ w259) (fun _ h9 => h9) rfl (tyX9_ok 6 (by decide)) rfl rfl (Nat.le_of_ble_eq_true rfl) dX9_cut_92 (fun H locs hP hD hS => ?_)
        obtain ⟨V27, hV27⟩ : ∃ z, z = up2 V24 6 6 z26 := ⟨_, rfl⟩
        have ew28 : (xw ad kk V24 L6 Z).set 6 ((ad 6), .inr (9, (xfTape ad V24 L6 Z).set 6 (.int z26))) = xw ad kk V27 L6 Z := by rw [hV27]; exact xw_ss (by decide) rfl (xb_si (by decide))
        have hP : va_P D vwCl (xw ad kk V27 L6 Z) H := by rw [← ew28]; exact hP
        have hD : va_D A (xw ad kk V27 L6 Z) := by rw [← ew28]; exact hD
        have hMV27 : rgd bX V27 := hMV24.put hV27 (show 0 ≤ z26.toInt ∧ z26.toInt ≤ 4000 from by omega)
        have agV27 : agr [(6, 6), (6, 7)] [12, 13, 14] V V27 := agV24.up hV27 rfl
        refine lv_aload_n hx hb dX9_cut_95 rfl (lv_at hl 1 rfl) ?_
        refine lv_dup hx hb dX9_cut_96 rfl ?_
        refine va_get (D := D) (ci := 9) (v := .int (V27 6 7)) (fs := (xfTape ad V27 L6 Z)) (C := RX9) (T := TX9) (N := 12) hx hb hg inX9 hown hK hP 6 xgTape rfl 7 (by decide) (hg _ w260) (fun _ h9 => h9) rfl dX9_cut_97 ?_
        refine g_top (v := (V 6 7)) ((up2_k hV27 (by decide)).trans ((up2_o hV24 (by decide)).trans (up2_o hV4 (by decide)))) ?_
        refine lv_iconst (v := 1) hx hb dX9_cut_100 (by decide) ?_
        refine lv_iadd hx hb dX9_cut_101 ?_
        refine lv_topi (fun z29 ez29 => ?_)
        have hz29 : z29.toInt = ((V 6 7)).toInt + 1 := i_add ez29 rfl (by decide) (by omega)
        refine va_put (D := D) (ci := 9) (v := .int z29) (ty := tyX9 7) (fs := (xfTape ad V27 L6 Z)) (C := RX9) (T := TX9) (N := 12) hx hb hg inX9 tyX9 tyX9_ok nmX9 hown hK hP hD hS 6 xgTape rfl 7 (by decide) (hg _ w260) (fun _ h9 => h9) rfl (tyX9_ok 7 (by decide)) rfl rfl (Nat.le_of_ble_eq_true rfl) dX9_cut_102 (fun H locs hP hD hS => ?_)
        obtain ⟨V30, hV30⟩ : ∃ z, z = up2 V27 6 7 z29 := ⟨_, rfl⟩
        have ew31 : (xw ad kk V27 L6 Z).set 6 ((ad 6), .inr (9, (xfTape ad V27 L6 Z).set 7 (.int z29))) = xw ad kk V30 L6 Z := by rw [hV30]; exact xw_ss (by decide) rfl (xb_si (by decide))
        have hP : va_P D vwCl (xw ad kk V30 L6 Z) H := by rw [← ew31]; exact hP
        have hD : va_D A (xw ad kk V30 L6 Z) := by rw [← ew31]; exact hD
        have hMV30 : rgd bX V30 := hMV27.put hV30 (show 0 ≤ z29.toInt ∧ z29.toInt ≤ 4000 from by omega)
        have agV30 : agr [(6, 6), (6, 7)] [12, 13, 14] V V30 := agV27.up hV30 rfl
        have pq32 : (V30 6 5).toInt = ((V 6 5)).toInt := congrArg Int32.toInt ((up2_k hV30 (by decide)).trans ((up2_k hV27 (by decide)).trans ((up2_o hV24 (by decide)).trans (up2_o hV4 (by decide)))))
        have pq33 : (V30 6 6).toInt = z26.toInt := congrArg Int32.toInt ((up2_k hV30 (by decide)).trans (up2_s hV27))
        have pq34 : (V30 6 7).toInt = z29.toInt := congrArg Int32.toInt (up2_s hV30)
        exact W.vret hx hb hr (fun t ht hW => ⟨⟨(V30, L6), rfl, ⟨hMV30, agV30, alL6, (show (V30 6 6).toInt ≤ (V30 6 5).toInt from by omega), (show (V30 6 7).toInt = (V 6 7).toInt + 1 from by omega)⟩, by rw [ht]; exact hP, va_K.moved hW.alike hK, hD⟩, hS.F ht⟩) hS.2.2 dX9_cut_105
      · skip
        have f35 : 0 ≤ z19.toInt := b_nlt rfl (by decide) c22
        refine lv_iload_n hx hb dX9_cut_79 rfl (lv_at hl 0 rfl) ?_
        refine lv_goto (tgt := 84) hx hb dX9_cut_80 (by decide) ?_
        refine va_iast (D := D) (i := (V 6 7)) (x := (V 10 (Int32.toNatClampNeg (V 6 6)))) hx hb hK hP hD hS 9 2 rfl rfl (i_in (a := ((V 6 7)).toInt) rfl (by omega)) dX9_cut_84 (fun H locs hP hD hS => ?_)
        obtain ⟨V36, hV36⟩ : ∃ z, z = up2 V4 12 (Int32.toNatClampNeg (V 6 7)) (V 10 (Int32.toNatClampNeg (V 6 6))) := ⟨_, rfl⟩
        have ew37 : (xw ad kk V4 L6 Z).set 9 ((ad 9), .inl ((kk 9), 4001, .inl (upd (V4 12) (Int32.toNatClampNeg (V 6 7)) (V 10 (Int32.toNatClampNeg (V 6 6)))))) = xw ad kk V36 L6 Z := by rw [hV36]; exact xw_ss (by decide) rfl (xb_si (by decide))
        have hP : va_P D vwCl (xw ad kk V36 L6 Z) H := by rw [← ew37]; exact hP
        have hD : va_D A (xw ad kk V36 L6 Z) := by rw [← ew37]; exact hD
        have hMV36 : rgd bX V36 := hMV4.put hV36 (i_full _)
        have agV36 : agr [(6, 6), (6, 7)] [12, 13, 14] V V36 := agV4.up hV36 rfl
        refine lv_aload_n hx hb dX9_cut_85 rfl (lv_at hl 1 rfl) ?_
        refine lv_dup hx hb dX9_cut_86 rfl ?_
        refine va_get (D := D) (ci := 9) (v := .int (V36 6 6)) (fs := (xfTape ad V36 L6 Z)) (C := RX9) (T := TX9) (N := 12) hx hb hg inX9 hown hK hP 6 xgTape rfl 6 (by decide) (hg _ w259) (fun _ h9 => h9) rfl dX9_cut_87 ?_
        refine g_top (v := (V 6 6)) ((up2_o hV36 (by decide)).trans (up2_o hV4 (by decide))) ?_
        refine lv_iconst (v := 1) hx hb dX9_cut_90 (by decide) ?_
        refine lv_iadd hx hb dX9_cut_91 ?_
        refine lv_topi (fun z38 ez38 => ?_)
        have hz38 : z38.toInt = ((V 6 6)).toInt + 1 := i_add ez38 rfl (by decide) (by omega)
        refine va_put (D := D) (ci := 9) (v := .int z38) (ty := tyX9 6) (fs := (xfTape ad V36 L6 Z)) (C := RX9) (T := TX9) (N := 12) hx hb hg inX9 tyX9 tyX9_ok nmX9 hown hK hP hD hS 6 xgTape rfl 6 (by decide) (hg _ w259) (fun _ h9 => h9) rfl (tyX9_ok 6 (by decide)) rfl rfl (Nat.le_of_ble_eq_true rfl) dX9_cut_92 (fun H locs hP hD hS => ?_)
        obtain ⟨V39, hV39⟩ : ∃ z, z = up2 V36 6 6 z38 := ⟨_, rfl⟩
        have ew40 : (xw ad kk V36 L6 Z).set 6 ((ad 6), .inr (9, (xfTape ad V36 L6 Z).set 6 (.int z38))) = xw ad kk V39 L6 Z := by rw [hV39]; exact xw_ss (by decide) rfl (xb_si (by decide))
        have hP : va_P D vwCl (xw ad kk V39 L6 Z) H := by rw [← ew40]; exact hP
        have hD : va_D A (xw ad kk V39 L6 Z) := by rw [← ew40]; exact hD
        have hMV39 : rgd bX V39 := hMV36.put hV39 (show 0 ≤ z38.toInt ∧ z38.toInt ≤ 4000 from by omega)
        have agV39 : agr [(6, 6), (6, 7)] [12, 13, 14] V V39 := agV36.up hV39 rfl
        refine lv_aload_n hx hb dX9_cut_95 rfl (lv_at hl 1 rfl) ?_
        refine lv_dup hx hb dX9_cut_96 rfl ?_
        refine va_get (D := D) (ci := 9) (v := .int (V39 6 7)) (fs := (xfTape ad V39 L6 Z)) (C := RX9) (T := TX9) (N := 12) hx hb hg inX9 hown hK hP 6 xgTape rfl 7 (by decide) (hg _ w260) (fun _ h9 => h9) rfl dX9_cut_97 ?_
        refine g_top (v := (V 6 7)) ((up2_k hV39 (by decide)).trans ((up2_o hV36 (by decide)).trans (up2_o hV4 (by decide)))) ?_
        refine lv_iconst (v := 1) hx hb dX9_cut_100 (by decide) ?_
        refine lv_iadd hx hb dX9_cut_101 ?_
        refine lv_topi (fun z41 ez41 => ?_)
        have hz41 : z41.toInt = ((V 6 7)).toInt + 1 := i_add ez41 rfl (by decide) (by omega)
        refine va_put (D := D) (ci := 9) (v := .int z41) (ty := tyX9 7) (fs := (xfTape ad V39 L6 Z)) (C := RX9) (T := TX9) (N := 12) hx hb hg inX9 tyX9 tyX9_ok nmX9 hown hK hP hD hS 6 xgTape rfl 7 (by decide) (hg _ w260) (fun _ h9 => h9) rfl (tyX9_ok 7 (by decide)) rfl rfl (Nat.le_of_ble_eq_true rfl) dX9_cut_102 (fun H locs hP hD hS => ?_)
        obtain ⟨V42, hV42⟩ : ∃ z, z = up2 V39 6 7 z41 := ⟨_, rfl⟩
        have ew43 : (xw ad kk V39 L6 Z).set 6 ((ad 6), .inr (9, (xfTape ad V39 L6 Z).set 7 (.int z41))) = xw ad kk V42 L6 Z := by rw [hV42]; exact xw_ss (by decide) rfl (xb_si (by decide))
        have hP : va_P D vwCl (xw ad kk V42 L6 Z) H := by rw [← ew43]; exact hP
        have hD : va_D A (xw ad kk V42 L6 Z) := by rw [← ew43]; exact hD
        have hMV42 : rgd bX V42 := hMV39.put hV42 (show 0 ≤ z41.toInt ∧ z41.toInt ≤ 4000 from by omega)
        have agV42 : agr [(6, 6), (6, 7)] [12, 13, 14] V V42 := agV39.up hV42 rfl
        have pq44 : (V42 6 5).toInt = ((V 6 5)).toInt := congrArg Int32.toInt ((up2_k hV42 (by decide)).trans ((up2_k hV39 (by decide)).trans ((up2_o hV36 (by decide)).trans (up2_o hV4 (by decide)))))
        have pq45 : (V42 6 6).toInt = z38.toInt := congrArg Int32.toInt ((up2_k hV42 (by decide)).trans (up2_s hV39))
        have pq46 : (V42 6 7).toInt = z41.toInt := congrArg Int32.toInt (up2_s hV42)
        exact W.vret hx hb hr (fun t ht hW => ⟨⟨(V42, L6), rfl, ⟨hMV42, agV42, alL6, (show (V42 6 6).toInt ≤ (V42 6 5).toInt from by omega), (show (V42 6 7).toInt = (V 6 7).toInt + 1 from by omega)⟩, by rw [ht]; exact hP, va_K.moved hW.alike hK, hD⟩, hS.F ht⟩) hS.2.2 dX9_cut_105
    · skip
      have f47 : z13.toInt ≠ 0 := b_neq rfl (by decide) c16
      refine lv_aload_n hx hb dX9_cut_54 rfl (lv_at hl 1 rfl) ?_
      have pq48 : (V4 6 5).toInt = ((V 6 5)).toInt := congrArg Int32.toInt (up2_o hV4 (by decide))
      have pq49 : (V4 6 6).toInt = ((V 6 6)).toInt := congrArg Int32.toInt (up2_o hV4 (by decide))
      have pq50 : (V4 6 7).toInt = ((V 6 7)).toInt := congrArg Int32.toInt (up2_o hV4 (by decide))
      refine gA_void (gA_runV (As := []) (rest := []) (ci := 9) (q0 := 6) hx hb hml hown hg hP hD hK hS hA hnw hgk (x_cutWord l D ks H.size ad kk V4 L6 Z  hMV4 (show (V4 6 6).toInt ≤ (V4 6 5).toInt from by omega) (show (V4 6 7).toInt ≤ 3999 from by omega)) w783 w785 w2 w157 w786 rfl xgTape hdV_yX9_cutWord ⟨Nat.le_of_ble_eq_true rfl, Nat.le_of_ble_eq_true rfl⟩ rfl hl.1 rfl (Nat.le_of_ble_eq_true rfl) dX9_cut_55 ⟨Nat.le_of_ble_eq_true rfl, Nat.le_of_ble_eq_true rfl⟩) hP hD hK hS hA (fun u52 H locs w53 hP hD hK hS => ?_)
      obtain ⟨V55, L56⟩ := u52
      obtain ⟨hMV55, ajV55, axL56, t54⟩ := w53
      have alL56 : agL [14] L L56 := agL.tr alL6 axL56 (by decide)
      have hP : va_P D vwCl (xw ad kk V55 L56 Z) H := hP
      have hD : va_D A (xw ad kk V55 L56 Z) := hD
      have hMV55 : rgd bX V55 := hMV55
      have ajV55 : agr [(6, 6)] [12, 14] V4 V55 := ajV55
      have agV55 : agr [(6, 6), (6, 7)] [12, 13, 14] V V55 := agV4.tr ajV55 (by decide) (by decide)
      have t54 : (V55 6 6).toInt ≤ (V4 6 5).toInt := t54
      have r57 : 0 ≤ ((V55 6 6)).toInt ∧ ((V55 6 6)).toInt ≤ 4000 := hMV55 6 6
      refine lv_goto (tgt := 95) hx hb dX9_cut_58 (by decide) ?_
      refine lv_aload_n hx hb dX9_cut_95 rfl (lv_at hl 1 rfl) ?_
      refine lv_dup hx hb dX9_cut_96 rfl ?_
      refine va_get (D := D) (ci := 9) (v := .int (V55 6 7)) (fs := (xfTape ad V55 L56 Z)) (C := RX9) (T := TX9) (N := 12) hx hb hg inX9 hown hK hP 6 xgTape rfl 7 (by decide) (hg _ w260) (fun _ h9 => h9) rfl dX9_cut_97 ?_
      refine g_top (v := (V 6 7)) ((ajV55 6 7 rfl).trans (up2_o hV4 (by decide))) ?_
      refine lv_iconst (v := 1) hx hb dX9_cut_100 (by decide) ?_
      refine lv_iadd hx hb dX9_cut_101 ?_
      refine lv_topi (fun z58 ez58 => ?_)
      have hz58 : z58.toInt = ((V 6 7)).toInt + 1 := i_add ez58 rfl (by decide) (by omega)
      refine va_put (D := D) (ci := 9) (v := .int z58) (ty := tyX9 7) (fs := (xfTape ad V55 L56 Z)) (C := RX9) (T := TX9) (N := 12) hx hb hg inX9 tyX9 tyX9_ok nmX9 hown hK hP hD hS 6 xgTape rfl 7 (by decide) (hg _ w260) (fun _ h9 => h9) rfl (tyX9_ok 7 (by decide)) rfl rfl (Nat.le_of_ble_eq_true rfl) dX9_cut_102 (fun H locs hP hD hS => ?_)
      obtain ⟨V59, hV59⟩ : ∃ z, z = up2 V55 6 7 z58 := ⟨_, rfl⟩
      have ew60 : (xw ad kk V55 L56 Z).set 6 ((ad 6), .inr (9, (xfTape ad V55 L56 Z).set 7 (.int z58))) = xw ad kk V59 L56 Z := by rw [hV59]; exact xw_ss (by decide) rfl (xb_si (by decide))
      have hP : va_P D vwCl (xw ad kk V59 L56 Z) H := by rw [← ew60]; exact hP
      have hD : va_D A (xw ad kk V59 L56 Z) := by rw [← ew60]; exact hD
      have hMV59 : rgd bX V59 := hMV55.put hV59 (show 0 ≤ z58.toInt ∧ z58.toInt ≤ 4000 from by omega)
      have agV59 : agr [(6, 6), (6, 7)] [12, 13, 14] V V59 := agV55.up hV59 rfl
      have pq61 : (V59 6 5).toInt = ((V 6 5)).toInt := congrArg Int32.toInt ((up2_k hV59 (by decide)).trans ((ajV55 6 5 rfl).trans (up2_o hV4 (by decide))))
      have pq62 : (V59 6 6).toInt = ((V55 6 6)).toInt := congrArg Int32.toInt (up2_k hV59 (by decide))
      have pq63 : (V59 6 7).toInt = z58.toInt := congrArg Int32.toInt (up2_s hV59)
      exact W.vret hx hb hr (fun t ht hW => ⟨⟨(V59, L56), rfl, ⟨hMV59, agV59, alL56, (show (V59 6 6).toInt ≤ (V59 6 5).toInt from by omega), (show (V59 6 7).toInt = (V 6 7).toInt + 1 from by omega)⟩, by rw [ht]; exact hP, va_K.moved hW.alike hK, hD⟩, hS.F ht⟩) hS.2.2 dX9_cut_105
  · skip
    have f64 : z8.toInt ≠ 0 := b_neq rfl (by decide) c11
    refine lv_aload_n hx hb dX9_cut_40 rfl (lv_at hl 1 rfl) ?_
    have pq65 : (V4 6 5).toInt = ((V 6 5)).toInt := congrArg Int32.toInt (up2_o hV4 (by decide))
    have pq66 : (V4 6 6).toInt = ((V 6 6)).toInt := congrArg Int32.toInt (up2_o hV4 (by decide))
    have pq67 : (V4 6 7).toInt = ((V 6 7)).toInt := congrArg Int32.toInt (up2_o hV4 (by decide))
    refine gA_void (gA_runV (As := []) (rest := []) (ci := 9) (q0 := 6) hx hb hml hown hg hP hD hK hS hA hnw hgk (x_cutNumber l D ks H.size ad kk V4 L6 Z  hMV4 (show (V4 6 6).toInt ≤ (V4 6 5).toInt from by omega) (show (V4 6 7).toInt < (V4 6 6).toInt ∨ (V4 6 7).toInt ≤ 3999 from by omega)) w774 w776 w1 w157 w777 rfl xgTape hdV_yX9_cutNumber ⟨Nat.le_of_ble_eq_true rfl, Nat.le_of_ble_eq_true rfl⟩ rfl hl.1 rfl (Nat.le_of_ble_eq_true rfl) dX9_cut_41 ⟨Nat.le_of_ble_eq_true rfl, Nat.le_of_ble_eq_true rfl⟩) hP hD hK hS hA (fun u69 H locs w70 hP hD hK hS => ?_)
    obtain ⟨V73, L74⟩ := u69
    obtain ⟨hMV73, ajV73, axL74, t71, t72⟩ := w70
    have alL74 : agL [14] L L74 := agL.tr alL6 axL74 (by decide)
    have hP : va_P D vwCl (xw ad kk V73 L74 Z) H := hP
    have hD : va_D A (xw ad kk V73 L74 Z) := hD
    have hMV73 : rgd bX V73 := hMV73
    have ajV73 : agr [(6, 6)] [12, 14] V4 V73 := ajV73
    have agV73 : agr [(6, 6), (6, 7)] [12, 13, 14] V V73 := agV4.tr ajV73 (by decide) (by decide)
    have t71 : (V73 6 6).toInt ≤ (V4 6 5).toInt := t71
    have t72 : (V4 6 6).toInt ≤ (V73 6 6).toInt := t72
    have r75 : 0 ≤ ((V73 6 6)).toInt ∧ ((V73 6 6)).toInt ≤ 4000 := hMV73 6 6
    refine lv_goto (tgt := 95) hx hb dX9_cut_44 (by decide) ?_
    refine lv_aload_n hx hb dX9_cut_95 rfl (lv_at hl 1 rfl) ?_
    refine lv_dup hx hb dX9_cut_96 rfl ?_
    refine va_get (D := D) (ci := 9) (v := .int (V73 6 7)) (fs := (xfTape ad V73 L74 Z)) (C := RX9) (T := TX9) (N := 12) hx hb hg inX9 hown hK hP 6 xgTape rfl 7 (by decide) (hg _ w260) (fun _ h9 => h9) rfl dX9_cut_97 ?_
    refine g_top (v := (V 6 7)) ((ajV73 6 7 rfl).trans (up2_o hV4 (by decide))) ?_
    refine lv_iconst (v := 1) hx hb dX9_cut_100 (by decide) ?_
    refine lv_iadd hx hb dX9_cut_101 ?_
    refine lv_topi (fun z76 ez76 => ?_)
    have hz76 : z76.toInt = ((V 6 7)).toInt + 1 := i_add ez76 rfl (by decide) (by omega)
    refine va_put (D := D) (ci := 9) (v := .int z76) (ty := tyX9 7) (fs := (xfTape ad V73 L74 Z)) (C := RX9) (T := TX9) (N := 12) hx hb hg inX9 tyX9 tyX9_ok nmX9 hown hK hP hD hS 6 xgTape rfl 7 (by decide) (hg _ w260) (fun _ h9 => h9) rfl (tyX9_ok 7 (by decide)) rfl rfl (Nat.le_of_ble_eq_true rfl) dX9_cut_102 (fun H locs hP hD hS => ?_)
    obtain ⟨V77, hV77⟩ : ∃ z, z = up2 V73 6 7 z76 := ⟨_, rfl⟩
    have ew78 : (xw ad kk V73 L74 Z).set 6 ((ad 6), .inr (9, (xfTape ad V73 L74 Z).set 7 (.int z76))) = xw ad kk V77 L74 Z := by rw [hV77]; exact xw_ss (by decide) rfl (xb_si (by decide))
    have hP : va_P D vwCl (xw ad kk V77 L74 Z) H := by rw [← ew78]; exact hP
    have hD : va_D A (xw ad kk V77 L74 Z) := by rw [← ew78]; exact hD
    have hMV77 : rgd bX V77 := hMV73.put hV77 (show 0 ≤ z76.toInt ∧ z76.toInt ≤ 4000 from by omega)
    have agV77 : agr [(6, 6), (6, 7)] [12, 13, 14] V V77 := agV73.up hV77 rfl
    have pq79 : (V77 6 5).toInt = ((V 6 5)).toInt := congrArg Int32.toInt ((up2_k hV77 (by decide)).trans ((ajV73 6 5 rfl).trans (up2_o hV4 (by decide))))
    have pq80 : (V77 6 6).toInt = ((V73 6 6)).toInt := congrArg Int32.toInt (up2_k hV77 (by decide))
    have pq81 : (V77 6 7).toInt = z76.toInt := congrArg Int32.toInt (up2_s hV77)
    exact W.vret hx hb hr (fun t ht hW => ⟨⟨(V77, L74), rfl, ⟨hMV77, agV77, alL74, (show (V77 6 6).toInt ≤ (V77 6 5).toInt from by omega), (show (V77 6 7).toInt = (V 6 7).toInt + 1 from by omega)⟩, by rw [ht]; exact hP, va_K.moved hW.alike hK, hD⟩, hS.F ht⟩) hS.2.2 dX9_cut_105
abbrev r_x_begin : Room := { frames := 5, cells := 0, slots := 0, locals := 112 }
abbrev q_x_begin (D : va_G) (ks : KS) (ad : Nat → Nat) (kk : Nat → ClassId) (V : Vf) (L : Lf) (Z : XZ) (A : Nat → Prop) : Array Value → State → Outcome → State → Prop := va_Qv (fun (u : Vf × Lf) => rgd bX u.1 ∧ agr [(6, 6), (6, 7), (6, 8), (6, 9), (6, 10)] [12, 13, 14] V u.1 ∧ agL [6, 14] L u.2) (fun u t => gq D A (xw ad kk u.1 u.2 Z) (xty kk Z) t) A
set_option maxHeartbeats 4000000 in
set_option maxRecDepth 100000 in
theorem x_begin (l : Launch) (D : va_G) (ks : KS) (sz : Nat) (ad : Nat → Nat) (kk : Nat → ClassId) (V : Vf) (L : Lf) (Z : XZ)  (hMV : rgd bX V)  : Met l yX9_begin (Cond.code yX9_begin cX9_begin 2 none :: GW) r_x_begin (va_Pc [.ref (ad 6)] (gp D ks (xw ad kk V L Z) (xty kk Z) sz)) (q_x_begin D ks ad kk V L Z  (va_A (xw ad kk V L Z) sz)) 0 0 (va_A (xw ad kk V L Z) sz) := by
  refine g_met (q_x_begin D ks ad kk V L Z) (by decide) (Nat.le_of_ble_eq_true rfl) ?_
  intro p e s m below meth c A ls H locs hx hb hr hml hown hg hlocks hin hnw hgk hP hK hD hS hA hl
  have hown : s.vm.findClass RX9 = some m.cls := hown
  have hl : lv_has ls 2 [(0, .ref (ad 6))] := hl
  have hP : va_P D vwCl (xw ad kk V L Z) H := hP
  have hD : va_D A (xw ad kk V L Z) := hD
  have hK : va_K D vwCl (xty kk Z) s := hK
  have agV : agr [(6, 6), (6, 7), (6, 8), (6, 9), (6, 10)] [12, 13, 14] V V := agr.rf
  have alL : agL [6, 14] L L := agL.rf
  refine lv_aload_n hx hb dX9_begin_0 rfl (lv_at hl 0 rfl) ?_
  refine lv_iconst (v := 0) hx hb dX9_begin_1 (by decide) ?_
  refine va_put (D := D) (ci := 9) (v := .int 0) (ty := tyX9 6) (fs := (xfTape ad V L Z)) (C := RX9) (T := TX9) (N := 12) hx hb hg inX9 tyX9 tyX9_ok nmX9 hown hK hP hD hS 6 xgTape rfl 6 (by decide) (hg _ w259) (fun _ h9 => h9) rfl (tyX9_ok 6 (by decide)) rfl rfl (Nat.le_of_ble_eq_true rfl) dX9_begin_2 (fun H locs hP hD hS => ?_)
  obtain ⟨V1, hV1⟩ : ∃ z, z = up2 V 6 6 0 := ⟨_, rfl⟩
  have ew2 : (xw ad kk V L Z).set 6 ((ad 6), .inr (9, (xfTape ad V L Z).set 6 (.int 0))) = xw ad kk V1 L Z := by rw [hV1]; exact xw_ss (by decide) rfl (xb_si (by decide))
  have hP : va_P D vwCl (xw ad kk V1 L Z) H := by rw [← ew2]; exact hP
  have hD : va_D A (xw ad kk V1 L Z) := by rw [← ew2]; exact hD
  have hMV1 : rgd bX V1 := hMV.put hV1 (by decide)
  have agV1 : agr [(6, 6), (6, 7), (6, 8), (6, 9), (6, 10)] [12, 13, 14] V V1 := agV.up hV1 rfl
  refine lv_aload_n hx hb dX9_begin_5 rfl (lv_at hl 0 rfl) ?_
  refine lv_iconst (v := 0) hx hb dX9_begin_6 (by decide) ?_
  refine va_put (D := D) (ci := 9) (v := .int 0) (ty := tyX9 7) (fs := (xfTape ad V1 L Z)) (C := RX9) (T := TX9) (N := 12) hx hb hg inX9 tyX9 tyX9_ok nmX9 hown hK hP hD hS 6 xgTape rfl 7 (by decide) (hg _ w260) (fun _ h9 => h9) rfl (tyX9_ok 7 (by decide)) rfl rfl (Nat.le_of_ble_eq_true rfl) dX9_begin_7 (fun H locs hP hD hS => ?_)
  obtain ⟨V3, hV3⟩ : ∃ z, z = up2 V1 6 7 0 := ⟨_, rfl⟩
  have ew4 : (xw ad kk V1 L Z).set 6 ((ad 6), .inr (9, (xfTape ad V1 L Z).set 7 (.int 0))) = xw ad kk V3 L Z := by rw [hV3]; exact xw_ss (by decide) rfl (xb_si (by decide))
  have hP : va_P D vwCl (xw ad kk V3 L Z) H := by rw [← ew4]; exact hP
  have hD : va_D A (xw ad kk V3 L Z) := by rw [← ew4]; exact hD
  have hMV3 : rgd bX V3 := hMV1.put hV3 (by decide)
  have agV3 : agr [(6, 6), (6, 7), (6, 8), (6, 9), (6, 10)] [12, 13, 14] V V3 := agV1.up hV3 rfl
  refine lv_iconst (v := 0) hx hb dX9_begin_10 (by decide) ?_
  refine lv_istore_n (lv' := [(1, .int 0), (0, .ref (ad 6))]) hx hb dX9_begin_11 rfl hl (by decide) rfl (fun ls hl => ?_)
  have lp8 : ∀ (fulp8 : Nat) (y5 : Int32) (V6 : Vf) (L7 : Lf) (H : Heap) (locs : List Loc) (ls : Array Slot), 0 ≤ y5.toInt ∧ y5.toInt ≤ 4000 → (V6 6 6).toInt ≤ (V6 6 5).toInt → (V6 6 7).toInt ≤ y5.toInt → 4000 - y5.toInt < (fulp8 : Int) → agL [6, 14] L L7 → agr [(6, 6), (6, 7)] [12, 13, 14] V3 V6 → rgd bX V6 → va_P D vwCl (xw ad kk V6 L7 Z) H → va_D A (xw ad kk V6 L7 Z) → va_S A s.heap H locs → lv_has ls 2 [(1, .int y5), (0, .ref (ad 6))] → W p l e r_x_begin s m ([.ref (ad 6)] : List Value).toArray below meth c H locs 0 0 (MQ below (q_x_begin D ks ad kk V L Z  A) ([.ref (ad 6)] : List Value).toArray s 0 0 A) (F0 m 12 ls []) := by
    intro fulp8
    induction fulp8 with
    | zero =>
      intro y5 V6 L7 H locs ls klp8_0 xlp8_0 xlp8_1 hn alL7 ajV6 hMV6 hP hD hS hl
      exfalso; omega
    | succ fulp8 ihlp8 =>
      intro y5 V6 L7 H locs ls klp8_0 xlp8_0 xlp8_1 hn alL7 ajV6 hMV6 hP hD hS hl
      have agV6 : agr [(6, 6), (6, 7), (6, 8), (6, 9), (6, 10)] [12, 13, 14] V V6 := agV3.tr ajV6 (by decide) (by decide)
      have pq9 : (V6 6 5).toInt = ((V 6 5)).toInt := congrArg Int32.toInt ((ajV6 6 5 rfl).trans ((up2_k hV3 (by decide)).trans (up2_k hV1 (by decide))))
      have r10 : 0 ≤ ((V 6 5)).toInt ∧ ((V 6 5)).toInt ≤ 4000 := hMV 6 5
      have r11 : 0 ≤ ((V6 6 6)).toInt ∧ ((V6 6 6)).toInt ≤ 4000 := hMV6 6 6
      have r12 : 0 ≤ ((V6 6 7)).toInt ∧ ((V6 6 7)).toInt ≤ 4000 := hMV6 6 7
      refine lv_iload_n hx hb dX9_begin_12 rfl (lv_at hl 0 rfl) ?_
      refine lv_sipush (v := 4000) hx hb dX9_begin_13 (by decide) ?_
      refine lv_icmp_ge (tgt := 81) hx hb dX9_begin_16 (by decide) (fun c13 => ?_) (fun c13 => ?_)
      · skip
        have f14 : 4000 ≤ y5.toInt := b_le (by decide) rfl c13
        refine lv_aload_n hx hb dX9_begin_81 rfl (lv_at hl 1 rfl) ?_
        refine va_get (D := D) (ci := 9) (v := .ref (ad 9)) (fs := (xfTape ad V6 L7 Z)) (C := RX9) (T := TX9) (N := 12) hx hb hg inX9 hown hK hP 6 xgTape rfl 2 (by decide) (hg _ w254) (fun _ h9 => h9) rfl dX9_begin_82 ?_
        refine lv_aload_n hx hb dX9_begin_85 rfl (lv_at hl 1 rfl) ?_
        refine va_get (D := D) (ci := 9) (v := .int (V6 6 7)) (fs := (xfTape ad V6 L7 Z)) (C := RX9) (T := TX9) (N := 12) hx hb hg inX9 hown hK hP 6 xgTape rfl 7 (by decide) (hg _ w260) (fun _ h9 => h9) rfl dX9_begin_86 ?_
        refine lv_iconst (v := 0) hx hb dX9_begin_89 (by decide) ?_
        refine va_iast (D := D) (i := (V6 6 7)) (x := 0) hx hb hK hP hD hS 9 2 rfl rfl (i_in (a := ((V6 6 7)).toInt) rfl (by omega)) dX9_begin_90 (fun H locs hP hD hS => ?_)
        obtain ⟨V15, hV15⟩ : ∃ z, z = up2 V6 12 (Int32.toNatClampNeg (V6 6 7)) 0 := ⟨_, rfl⟩
        have ew16 : (xw ad kk V6 L7 Z).set 9 ((ad 9), .inl ((kk 9), 4001, .inl (upd (V6 12) (Int32.toNatClampNeg (V6 6 7)) 0))) = xw ad kk V15 L7 Z := by rw [hV15]; exact xw_ss (by decide) rfl (xb_si (by decide))
        have hP : va_P D vwCl (xw ad kk V15 L7 Z) H := by rw [← ew16]; exact hP
        have hD : va_D A (xw ad kk V15 L7 Z) := by rw [← ew16]; exact hD
        have hMV15 : rgd bX V15 := hMV6.put hV15 (i_full _)
        have agV15 : agr [(6, 6), (6, 7), (6, 8), (6, 9), (6, 10)] [12, 13, 14] V V15 := agV6.up hV15 rfl
        refine lv_aload_n hx hb dX9_begin_91 rfl (lv_at hl 1 rfl) ?_
        refine va_get (D := D) (ci := 9) (v := .ref (ad 10)) (fs := (xfTape ad V15 L7 Z)) (C := RX9) (T := TX9) (N := 12) hx hb hg inX9 hown hK hP 6 xgTape rfl 3 (by decide) (hg _ w255) (fun _ h9 => h9) rfl dX9_begin_92 ?_
        refine lv_aload_n hx hb dX9_begin_95 rfl (lv_at hl 1 rfl) ?_
        refine va_get (D := D) (ci := 9) (v := .int (V15 6 7)) (fs := (xfTape ad V15 L7 Z)) (C := RX9) (T := TX9) (N := 12) hx hb hg inX9 hown hK hP 6 xgTape rfl 7 (by decide) (hg _ w260) (fun _ h9 => h9) rfl dX9_begin_96 ?_
        refine g_top (v := (V6 6 7)) (up2_o hV15 (by decide)) ?_
        refine lv_aload_n hx hb dX9_begin_99 rfl (lv_at hl 1 rfl) ?_
        refine va_get (D := D) (ci := 9) (v := .int (V15 6 5)) (fs := (xfTape ad V15 L7 Z)) (C := RX9) (T := TX9) (N := 12) hx hb hg inX9 hown hK hP 6 xgTape rfl 5 (by decide) (hg _ w258) (fun _ h9 => h9) rfl dX9_begin_100 ?_
        refine g_top (v := (V 6 5)) ((up2_o hV15 (by decide)).trans ((ajV6 6 5 rfl).trans ((up2_k hV3 (by decide)).trans (up2_k hV1 (by decide))))) ?_
        refine va_iast (D := D) (i := (V6 6 7)) (x := (V 6 5)) hx hb hK hP hD hS 10 3 rfl rfl (i_in (a := ((V6 6 7)).toInt) rfl (by omega)) dX9_begin_103 (fun H locs hP hD hS => ?_)
        obtain ⟨V17, hV17⟩ : ∃ z, z = up2 V15 13 (Int32.toNatClampNeg (V6 6 7)) (V 6 5) := ⟨_, rfl⟩
        have ew18 : (xw ad kk V15 L7 Z).set 10 ((ad 10), .inl ((kk 10), 4001, .inl (upd (V15 13) (Int32.toNatClampNeg (V6 6 7)) (V 6 5)))) = xw ad kk V17 L7 Z := by rw [hV17]; exact xw_ss (by decide) rfl (xb_si (by decide))
        have hP : va_P D vwCl (xw ad kk V17 L7 Z) H := by rw [← ew18]; exact hP
        have hD : va_D A (xw ad kk V17 L7 Z) := by rw [← ew18]; exact hD
        have hMV17 : rgd bX V17 := hMV15.put hV17 (show 0 ≤ ((V 6 5)).toInt ∧ ((V 6 5)).toInt ≤ 4000 from by omega)
        have agV17 : agr [(6, 6), (6, 7), (6, 8), (6, 9), (6, 10)] [12, 13, 14] V V17 := agV15.up hV17 rfl
        refine lv_aload_n hx hb dX9_begin_104 rfl (lv_at hl 1 rfl) ?_
        refine va_get (D := D) (ci := 9) (v := .ref (ad 11)) (fs := (xfTape ad V17 L7 Z)) (C := RX9) (T := TX9) (N := 12) hx hb hg inX9 hown hK hP 6 xgTape rfl 4 (by decide) (hg _ w256) (fun _ h9 => h9) rfl dX9_begin_105 ?_
        refine lv_aload_n hx hb dX9_begin_108 rfl (lv_at hl 1 rfl) ?_
        refine va_get (D := D) (ci := 9) (v := .int (V17 6 7)) (fs := (xfTape ad V17 L7 Z)) (C := RX9) (T := TX9) (N := 12) hx hb hg inX9 hown hK hP 6 xgTape rfl 7 (by decide) (hg _ w260) (fun _ h9 => h9) rfl dX9_begin_109 ?_
        refine g_top (v := (V6 6 7)) ((up2_o hV17 (by decide)).trans (up2_o hV15 (by decide))) ?_
        refine lv_lconst (v := 0) hx hb dX9_begin_112 (by decide) ?_
        refine va_last (D := D) (i := (V6 6 7)) (x := 0) hx hb hK hP hD hS 11 4 rfl rfl (i_in (a := ((V6 6 7)).toInt) rfl (by omega)) dX9_begin_113 (fun H locs hP hD hS => ?_)
        obtain ⟨L19, hL19⟩ : ∃ z, z = upL L7 14 (Int32.toNatClampNeg (V6 6 7)) 0 := ⟨_, rfl⟩
        have ew20 : (xw ad kk V17 L7 Z).set 11 ((ad 11), .inl ((kk 11), 4001, .inr (.inl (vp_updL (L7 14) (Int32.toNatClampNeg (V6 6 7)) 0)))) = xw ad kk V17 L19 Z := by rw [hL19]; exact xw_ss (by decide) rfl (fun j => xe_L (fun a => absurd a.1 (by decide)))
        have hP : va_P D vwCl (xw ad kk V17 L19 Z) H := by rw [← ew20]; exact hP
        have hD : va_D A (xw ad kk V17 L19 Z) := by rw [← ew20]; exact hD
        have alL19 : agL [6, 14] L L19 := agL.up alL7 hL19 rfl
        refine lv_aload_n hx hb dX9_begin_114 rfl (lv_at hl 1 rfl) ?_
        refine lv_iconst (v := 0) hx hb dX9_begin_115 (by decide) ?_
        refine va_put (D := D) (ci := 9) (v := .int 0) (ty := tyX9 8) (fs := (xfTape ad V17 L19 Z)) (C := RX9) (T := TX9) (N := 12) hx hb hg inX9 tyX9 tyX9_ok nmX9 hown hK hP hD hS 6 xgTape rfl 8 (by decide) (hg _ w261) (fun _ h9 => h9) rfl (tyX9_ok 8 (by decide)) rfl rfl (Nat.le_of_ble_eq_true rfl) dX9_begin_116 (fun H locs hP hD hS => ?_)
        obtain ⟨V21, hV21⟩ : ∃ z, z = up2 V17 6 8 0 := ⟨_, rfl⟩
        have ew22 : (xw ad kk V17 L19 Z).set 6 ((ad 6), .inr (9, (xfTape ad V17 L19 Z).set 8 (.int 0))) = xw ad kk V21 L19 Z := by rw [hV21]; exact xw_ss (by decide) rfl (xb_si (by decide))
        have hP : va_P D vwCl (xw ad kk V21 L19 Z) H := by rw [← ew22]; exact hP
        have hD : va_D A (xw ad kk V21 L19 Z) := by rw [← ew22]; exact hD
        have hMV21 : rgd bX V21 := hMV17.put hV21 (by decide)
        have agV21 : agr [(6, 6), (6, 7), (6, 8), (6, 9), (6, 10)] [12, 13, 14] V V21 := agV17.up hV21 rfl
        refine lv_aload_n hx hb dX9_begin_119 rfl (lv_at hl 1 rfl) ?_
        refine gA_void (gA_runV (As := []) (rest := []) (ci := 9) (q0 := 6) hx hb hml hown hg hP hD hK hS hA hnw hgk (x_next l D ks H.size ad kk V21 L19 Z  hMV21 ) w851 w852 w853 w157 w854 rfl xgTape hdV_yX9_next ⟨Nat.le_of_ble_eq_true rfl, Nat.le_of_ble_eq_true rfl⟩ rfl hl.1 rfl (Nat.le_of_ble_eq_true rfl) dX9_begin_120 ⟨Nat.le_of_ble_eq_true rfl, Nat.le_of_ble_eq_true rfl⟩) hP hD hK hS hA (fun u24 H locs w25 hP hD hK hS => ?_)
        obtain ⟨V26, L27⟩ := u24
        obtain ⟨hMV26, ajV26, axL27⟩ := w25
        have alL27 : agL [6, 14] L L27 := agL.tr alL19 axL27 (by decide)
        have hP : va_P D vwCl (xw ad kk V26 L27 Z) H := hP
        have hD : va_D A (xw ad kk V26 L27 Z) := hD
        have hMV26 : rgd bX V26 := hMV26
        have ajV26 : agr [(6, 8), (6, 9), (6, 10)] [] V21 V26 := ajV26
        have agV26 : agr [(6, 6), (6, 7), (6, 8), (6, 9), (6, 10)] [12, 13, 14] V V26 := agV21.tr ajV26 (by decide) (by decide)
        exact W.vret hx hb hr (fun t ht hW => ⟨⟨(V26, L27), rfl, ⟨hMV26, agV26, alL27⟩, by rw [ht]; exact hP, va_K.moved hW.alike hK, hD⟩, hS.F ht⟩) hS.2.2 dX9_begin_123
      · skip
        have f28 : y5.toInt < 4000 := b_nle (by decide) rfl c13
        refine lv_aload_n hx hb dX9_begin_19 rfl (lv_at hl 1 rfl) ?_
        refine va_get (D := D) (ci := 9) (v := .int (V6 6 6)) (fs := (xfTape ad V6 L7 Z)) (C := RX9) (T := TX9) (N := 12) hx hb hg inX9 hown hK hP 6 xgTape rfl 6 (by decide) (hg _ w259) (fun _ h9 => h9) rfl dX9_begin_20 ?_
        refine lv_aload_n hx hb dX9_begin_23 rfl (lv_at hl 1 rfl) ?_
        refine va_get (D := D) (ci := 9) (v := .int (V6 6 5)) (fs := (xfTape ad V6 L7 Z)) (C := RX9) (T := TX9) (N := 12) hx hb hg inX9 hown hK hP 6 xgTape rfl 5 (by decide) (hg _ w258) (fun _ h9 => h9) rfl dX9_begin_24 ?_
        refine g_top (v := (V 6 5)) ((ajV6 6 5 rfl).trans ((up2_k hV3 (by decide)).trans (up2_k hV1 (by decide)))) ?_
        refine lv_icmp_ge (tgt := 81) hx hb dX9_begin_27 (by decide) (fun c29 => ?_) (fun c29 => ?_)
        · skip
          have f30 : ((V 6 5)).toInt ≤ ((V6 6 6)).toInt := b_le rfl rfl c29
          refine lv_aload_n hx hb dX9_begin_81 rfl (lv_at hl 1 rfl) ?_
          refine va_get (D := D) (ci := 9) (v := .ref (ad 9)) (fs := (xfTape ad V6 L7 Z)) (C := RX9) (T := TX9) (N := 12) hx hb hg inX9 hown hK hP 6 xgTape rfl 2 (by decide) (hg _ w254) (fun _ h9 => h9) rfl dX9_begin_82 ?_
          refine lv_aload_n hx hb dX9_begin_85 rfl (lv_at hl 1 rfl) ?_
          refine va_get (D := D) (ci := 9) (v := .int (V6 6 7)) (fs := (xfTape ad V6 L7 Z)) (C := RX9) (T := TX9) (N := 12) hx hb hg inX9 hown hK hP 6 xgTape rfl 7 (by decide) (hg _ w260) (fun _ h9 => h9) rfl dX9_begin_86 ?_
          refine lv_iconst (v := 0) hx hb dX9_begin_89 (by decide) ?_
          refine va_iast (D := D) (i := (V6 6 7)) (x := 0) hx hb hK hP hD hS 9 2 rfl rfl (i_in (a := ((V6 6 7)).toInt) rfl (by omega)) dX9_begin_90 (fun H locs hP hD hS => ?_)
          obtain ⟨V31, hV31⟩ : ∃ z, z = up2 V6 12 (Int32.toNatClampNeg (V6 6 7)) 0 := ⟨_, rfl⟩
          have ew32 : (xw ad kk V6 L7 Z).set 9 ((ad 9), .inl ((kk 9), 4001, .inl (upd (V6 12) (Int32.toNatClampNeg (V6 6 7)) 0))) = xw ad kk V31 L7 Z := by rw [hV31]; exact xw_ss (by decide) rfl (xb_si (by decide))
          have hP : va_P D vwCl (xw ad kk V31 L7 Z) H := by rw [← ew32]; exact hP
          have hD : va_D A (xw ad kk V31 L7 Z) := by rw [← ew32]; exact hD
          have hMV31 : rgd bX V31 := hMV6.put hV31 (i_full _)
          have agV31 : agr [(6, 6), (6, 7), (6, 8), (6, 9), (6, 10)] [12, 13, 14] V V31 := agV6.up hV31 rfl
          refine lv_aload_n hx hb dX9_begin_91 rfl (lv_at hl 1 rfl) ?_
          refine va_get (D := D) (ci := 9) (v := .ref (ad 10)) (fs := (xfTape ad V31 L7 Z)) (C := RX9) (T := TX9) (N := 12) hx hb hg inX9 hown hK hP 6 xgTape rfl 3 (by decide) (hg _ w255) (fun _ h9 => h9) rfl dX9_begin_92 ?_
          refine lv_aload_n hx hb dX9_begin_95 rfl (lv_at hl 1 rfl) ?_
          refine va_get (D := D) (ci := 9) (v := .int (V31 6 7)) (fs := (xfTape ad V31 L7 Z)) (C := RX9) (T := TX9) (N := 12) hx hb hg inX9 hown hK hP 6 xgTape rfl 7 (by decide) (hg _ w260) (fun _ h9 => h9) rfl dX9_begin_96 ?_
          refine g_top (v := (V6 6 7)) (up2_o hV31 (by decide)) ?_
          refine lv_aload_n hx hb dX9_begin_99 rfl (lv_at hl 1 rfl) ?_
          refine va_get (D := D) (ci := 9) (v := .int (V31 6 5)) (fs := (xfTape ad V31 L7 Z)) (C := RX9) (T := TX9) (N := 12) hx hb hg inX9 hown hK hP 6 xgTape rfl 5 (by decide) (hg _ w258) (fun _ h9 => h9) rfl dX9_begin_100 ?_
          refine g_top (v := (V 6 5)) ((up2_o hV31 (by decide)).trans ((ajV6 6 5 rfl).trans ((up2_k hV3 (by decide)).trans (up2_k hV1 (by decide))))) ?_
          refine va_iast (D := D) (i := (V6 6 7)) (x := (V 6 5)) hx hb hK hP hD hS 10 3 rfl rfl (i_in (a := ((V6 6 7)).toInt) rfl (by omega)) dX9_begin_103 (fun H locs hP hD hS => ?_)
          obtain ⟨V33, hV33⟩ : ∃ z, z = up2 V31 13 (Int32.toNatClampNeg (V6 6 7)) (V 6 5) := ⟨_, rfl⟩
          have ew34 : (xw ad kk V31 L7 Z).set 10 ((ad 10), .inl ((kk 10), 4001, .inl (upd (V31 13) (Int32.toNatClampNeg (V6 6 7)) (V 6 5)))) = xw ad kk V33 L7 Z := by rw [hV33]; exact xw_ss (by decide) rfl (xb_si (by decide))
          have hP : va_P D vwCl (xw ad kk V33 L7 Z) H := by rw [← ew34]; exact hP
          have hD : va_D A (xw ad kk V33 L7 Z) := by rw [← ew34]; exact hD
          have hMV33 : rgd bX V33 := hMV31.put hV33 (show 0 ≤ ((V 6 5)).toInt ∧ ((V 6 5)).toInt ≤ 4000 from by omega)
          have agV33 : agr [(6, 6), (6, 7), (6, 8), (6, 9), (6, 10)] [12, 13, 14] V V33 := agV31.up hV33 rfl
          refine lv_aload_n hx hb dX9_begin_104 rfl (lv_at hl 1 rfl) ?_
          refine va_get (D := D) (ci := 9) (v := .ref (ad 11)) (fs := (xfTape ad V33 L7 Z)) (C := RX9) (T := TX9) (N := 12) hx hb hg inX9 hown hK hP 6 xgTape rfl 4 (by decide) (hg _ w256) (fun _ h9 => h9) rfl dX9_begin_105 ?_
          refine lv_aload_n hx hb dX9_begin_108 rfl (lv_at hl 1 rfl) ?_
          refine va_get (D := D) (ci := 9) (v := .int (V33 6 7)) (fs := (xfTape ad V33 L7 Z)) (C := RX9) (T := TX9) (N := 12) hx hb hg inX9 hown hK hP 6 xgTape rfl 7 (by decide) (hg _ w260) (fun _ h9 => h9) rfl dX9_begin_109 ?_
          refine g_top (v := (V6 6 7)) ((up2_o hV33 (by decide)).trans (up2_o hV31 (by decide))) ?_
          refine lv_lconst (v := 0) hx hb dX9_begin_112 (by decide) ?_
          refine va_last (D := D) (i := (V6 6 7)) (x := 0) hx hb hK hP hD hS 11 4 rfl rfl (i_in (a := ((V6 6 7)).toInt) rfl (by omega)) dX9_begin_113 (fun H locs hP hD hS => ?_)
          obtain ⟨L35, hL35⟩ : ∃ z, z = upL L7 14 (Int32.toNatClampNeg (V6 6 7)) 0 := ⟨_, rfl⟩
          have ew36 : (xw ad kk V33 L7 Z).set 11 ((ad 11), .inl ((kk 11), 4001, .inr (.inl (vp_updL (L7 14) (Int32.toNatClampNeg (V6 6 7)) 0)))) = xw ad kk V33 L35 Z := by rw [hL35]; exact xw_ss (by decide) rfl (fun j => xe_L (fun a => absurd a.1 (by decide)))
          have hP : va_P D vwCl (xw ad kk V33 L35 Z) H := by rw [← ew36]; exact hP
          have hD : va_D A (xw ad kk V33 L35 Z) := by rw [← ew36]; exact hD
          have alL35 : agL [6, 14] L L35 := agL.up alL7 hL35 rfl
          refine lv_aload_n hx hb dX9_begin_114 rfl (lv_at hl 1 rfl) ?_
          refine lv_iconst (v := 0) hx hb dX9_begin_115 (by decide) ?_
          refine va_put (D := D) (ci := 9) (v := .int 0) (ty := tyX9 8) (fs := (xfTape ad V33 L35 Z)) (C := RX9) (T := TX9) (N := 12) hx hb hg inX9 tyX9 tyX9_ok nmX9 hown hK hP hD hS 6 xgTape rfl 8 (by decide) (hg _ w261) (fun _ h9 => h9) rfl (tyX9_ok 8 (by decide)) rfl rfl (Nat.le_of_ble_eq_true rfl) dX9_begin_116 (fun H locs hP hD hS => ?_)
          obtain ⟨V37, hV37⟩ : ∃ z, z = up2 V33 6 8 0 := ⟨_, rfl⟩
          have ew38 : (xw ad kk V33 L35 Z).set 6 ((ad 6), .inr (9, (xfTape ad V33 L35 Z).set 8 (.int 0))) = xw ad kk V37 L35 Z := by rw [hV37]; exact xw_ss (by decide) rfl (xb_si (by decide))
          have hP : va_P D vwCl (xw ad kk V37 L35 Z) H := by rw [← ew38]; exact hP
          have hD : va_D A (xw ad kk V37 L35 Z) := by rw [← ew38]; exact hD
          have hMV37 : rgd bX V37 := hMV33.put hV37 (by decide)
          have agV37 : agr [(6, 6), (6, 7), (6, 8), (6, 9), (6, 10)] [12, 13, 14] V V37 := agV33.up hV37 rfl
          refine lv_aload_n hx hb dX9_begin_119 rfl (lv_at hl 1 rfl) ?_
          refine gA_void (gA_runV (As := []) (rest := []) (ci := 9) (q0 := 6) hx hb hml hown hg hP hD hK hS hA hnw hgk (x_next l D ks H.size ad kk V37 L35 Z  hMV37 ) w851 w852 w853 w157 w854 rfl xgTape hdV_yX9_next ⟨Nat.le_of_ble_eq_true rfl, Nat.le_of_ble_eq_true rfl⟩ rfl hl.1 rfl (Nat.le_of_ble_eq_true rfl) dX9_begin_120 ⟨Nat.le_of_ble_eq_true rfl, Nat.le_of_ble_eq_true rfl⟩) hP hD hK hS hA (fun u40 H locs w41 hP hD hK hS => ?_)
          obtain ⟨V42, L43⟩ := u40
          obtain ⟨hMV42, ajV42, axL43⟩ := w41
          have alL43 : agL [6, 14] L L43 := agL.tr alL35 axL43 (by decide)
          have hP : va_P D vwCl (xw ad kk V42 L43 Z) H := hP
          have hD : va_D A (xw ad kk V42 L43 Z) := hD
          have hMV42 : rgd bX V42 := hMV42
          have ajV42 : agr [(6, 8), (6, 9), (6, 10)] [] V37 V42 := ajV42
          have agV42 : agr [(6, 6), (6, 7), (6, 8), (6, 9), (6, 10)] [12, 13, 14] V V42 := agV37.tr ajV42 (by decide) (by decide)
          exact W.vret hx hb hr (fun t ht hW => ⟨⟨(V42, L43), rfl, ⟨hMV42, agV42, alL43⟩, by rw [ht]; exact hP, va_K.moved hW.alike hK, hD⟩, hS.F ht⟩) hS.2.2 dX9_begin_123
        · skip
          have f44 : ((V6 6 6)).toInt < ((V 6 5)).toInt := b_nle rfl rfl c29
          refine lv_aload_n hx hb dX9_begin_30 rfl (lv_at hl 1 rfl) ?_
          refine va_get (D := D) (ci := 9) (v := .ref (ad 7)) (fs := (xfTape ad V6 L7 Z)) (C := RX9) (T := TX9) (N := 12) hx hb hg inX9 hown hK hP 6 xgTape rfl 0 (by decide) (hg _ w252) (fun _ h9 => h9) rfl dX9_begin_31 ?_
          refine lv_aload_n hx hb dX9_begin_34 rfl (lv_at hl 1 rfl) ?_
          refine va_get (D := D) (ci := 9) (v := .int (V6 6 6)) (fs := (xfTape ad V6 L7 Z)) (C := RX9) (T := TX9) (N := 12) hx hb hg inX9 hown hK hP 6 xgTape rfl 6 (by decide) (hg _ w259) (fun _ h9 => h9) rfl dX9_begin_35 ?_
          refine va_bald (D := D) (i := (V6 6 6)) hx hb hK hP 7 0 rfl rfl (i_in (a := ((V6 6 6)).toInt) rfl (by omega)) dX9_begin_38 ?_
          refine g_top (v := (V 10 (Int32.toNatClampNeg (V6 6 6)))) ((ajV6 10 (Int32.toNatClampNeg (V6 6 6)) rfl).trans ((up2_o hV3 (by decide)).trans (up2_o hV1 (by decide)))) ?_
          refine lv_bipush (v := 32) hx hb dX9_begin_39 (by decide) ?_
          refine lv_icmp_eq (tgt := 58) hx hb dX9_begin_41 (by decide) (fun c45 => ?_) (fun c45 => ?_)
          · skip
            have f46 : ((V 10 (Int32.toNatClampNeg (V6 6 6)))).toInt = 32 := b_eq rfl (by decide) c45
            refine lv_aload_n hx hb dX9_begin_58 rfl (lv_at hl 1 rfl) ?_
            refine lv_dup hx hb dX9_begin_59 rfl ?_
            refine va_get (D := D) (ci := 9) (v := .int (V6 6 6)) (fs := (xfTape ad V6 L7 Z)) (C := RX9) (T := TX9) (N := 12) hx hb hg inX9 hown hK hP 6 xgTape rfl 6 (by decide) (hg _ w259) (fun _ h9 => h9) rfl dX9_begin_60 ?_
            refine lv_iconst (v := 1) hx hb dX9_begin_63 (by decide) ?_
            refine lv_iadd hx hb dX9_begin_64 ?_
            refine lv_topi (fun z47 ez47 => ?_)
            have hz47 : z47.toInt = ((V6 6 6)).toInt + 1 := i_add ez47 rfl (by decide) (by omega)
            refine va_put (D := D) (ci := 9) (v := .int z47) (ty := tyX9 6) (fs := (xfTape ad V6 L7 Z)) (C := RX9) (T := TX9) (N := 12) hx hb hg inX9 tyX9 tyX9_ok nmX9 hown hK hP hD hS 6 xgTape rfl 6 (by decide) (hg _ w259) (fun _ h9 => h9) rfl (tyX9_ok 6 (by decide)) rfl rfl (Nat.le_of_ble_eq_true rfl) dX9_begin_65 (fun H locs hP hD hS => ?_)
            obtain ⟨V48, hV48⟩ : ∃ z, z = up2 V6 6 6 z47 := ⟨_, rfl⟩
            have ew49 : (xw ad kk V6 L7 Z).set 6 ((ad 6), .inr (9, (xfTape ad V6 L7 Z).set 6 (.int z47))) = xw ad kk V48 L7 Z := by rw [hV48]; exact xw_ss (by decide) rfl (xb_si (by decide))
            have hP : va_P D vwCl (xw ad kk V48 L7 Z) H := by rw [← ew49]; exact hP
            have hD : va_D A (xw ad kk V48 L7 Z) := by rw [← ew49]; exact hD
            have hMV48 : rgd bX V48 := hMV6.put hV48 (show 0 ≤ z47.toInt ∧ z47.toInt ≤ 4000 from by omega)
            have agV48 : agr [(6, 6), (6, 7), (6, 8), (6, 9), (6, 10)] [12, 13, 14] V V48 := agV6.up hV48 rfl
            refine lv_goto (tgt := 75) hx hb dX9_begin_68 (by decide) ?_
            obtain ⟨z50, ez50⟩ : ∃ y : Int32, y = y5 + 1 := ⟨_, rfl⟩
            have hz50 : z50.toInt = y5.toInt + 1 := i_add ez50 rfl (by decide) (by omega)
            refine lv_iinc (v := z50) (lv' := [(1, .int z50), (0, .ref (ad 6))]) hx hb dX9_begin_75 hl (k := 0) rfl (by rw [ez50]; rfl) (by decide) rfl (fun ls hl => ?_)
            refine lv_goto (tgt := 12) hx hb dX9_begin_78 (by decide) ?_
            have pq51 : (V48 6 5).toInt = ((V 6 5)).toInt := congrArg Int32.toInt ((up2_k hV48 (by decide)).trans ((ajV6 6 5 rfl).trans ((up2_k hV3 (by decide)).trans (up2_k hV1 (by decide)))))
            have pq52 : (V48 6 6).toInt = z47.toInt := congrArg Int32.toInt (up2_s hV48)
            have pq53 : (V48 6 7).toInt = ((V6 6 7)).toInt := congrArg Int32.toInt (up2_k hV48 (by decide))
            exact ihlp8 z50 V48 L7 H locs ls (by omega) (show (V48 6 6).toInt ≤ (V48 6 5).toInt from by omega) (show (V48 6 7).toInt ≤ z50.toInt from by omega) (by omega) alL7 (agr.up (agr.tr agr.rf ajV6 (by decide) (by decide)) hV48 rfl) hMV48 hP hD hS (lv_sub hl [0, 1] rfl)
          · skip
            have f54 : ((V 10 (Int32.toNatClampNeg (V6 6 6)))).toInt ≠ 32 := b_neq rfl (by decide) c45
            refine lv_aload_n hx hb dX9_begin_44 rfl (lv_at hl 1 rfl) ?_
            refine va_get (D := D) (ci := 9) (v := .ref (ad 7)) (fs := (xfTape ad V6 L7 Z)) (C := RX9) (T := TX9) (N := 12) hx hb hg inX9 hown hK hP 6 xgTape rfl 0 (by decide) (hg _ w252) (fun _ h9 => h9) rfl dX9_begin_45 ?_
            refine lv_aload_n hx hb dX9_begin_48 rfl (lv_at hl 1 rfl) ?_
            refine va_get (D := D) (ci := 9) (v := .int (V6 6 6)) (fs := (xfTape ad V6 L7 Z)) (C := RX9) (T := TX9) (N := 12) hx hb hg inX9 hown hK hP 6 xgTape rfl 6 (by decide) (hg _ w259) (fun _ h9 => h9) rfl dX9_begin_49 ?_
            refine va_bald (D := D) (i := (V6 6 6)) hx hb hK hP 7 0 rfl rfl (i_in (a := ((V6 6 6)).toInt) rfl (by omega)) dX9_begin_52 ?_
            refine g_top (v := (V 10 (Int32.toNatClampNeg (V6 6 6)))) ((ajV6 10 (Int32.toNatClampNeg (V6 6 6)) rfl).trans ((up2_o hV3 (by decide)).trans (up2_o hV1 (by decide)))) ?_
            refine lv_bipush (v := 10) hx hb dX9_begin_53 (by decide) ?_
            refine lv_icmp_ne (tgt := 71) hx hb dX9_begin_55 (by decide) (fun c55 => ?_) (fun c55 => ?_)
            · skip
              have f56 : ((V 10 (Int32.toNatClampNeg (V6 6 6)))).toInt ≠ 10 := b_neq rfl (by decide) c55
              refine lv_aload_n hx hb dX9_begin_71 rfl (lv_at hl 1 rfl) ?_
              refine gA_void (gA_runV (As := []) (rest := []) (ci := 9) (q0 := 6) hx hb hml hown hg hP hD hK hS hA hnw hgk (x_cut l D ks H.size ad kk V6 L7 Z  hMV6 (show (V6 6 6).toInt < (V6 6 5).toInt from by omega) (show (V6 6 7).toInt ≤ 3999 from by omega)) w770 w772 w0 w157 w773 rfl xgTape hdV_yX9_cut ⟨Nat.le_of_ble_eq_true rfl, Nat.le_of_ble_eq_true rfl⟩ rfl hl.1 rfl (Nat.le_of_ble_eq_true rfl) dX9_begin_72 ⟨Nat.le_of_ble_eq_true rfl, Nat.le_of_ble_eq_true rfl⟩) hP hD hK hS hA (fun u58 H locs w59 hP hD hK hS => ?_)
              obtain ⟨V62, L63⟩ := u58
              obtain ⟨hMV62, ajV62, axL63, t60, t61⟩ := w59
              have alL63 : agL [6, 14] L L63 := agL.tr alL7 axL63 (by decide)
              have hP : va_P D vwCl (xw ad kk V62 L63 Z) H := hP
              have hD : va_D A (xw ad kk V62 L63 Z) := hD
              have hMV62 : rgd bX V62 := hMV62
              have ajV62 : agr [(6, 6), (6, 7)] [12, 13, 14] V6 V62 := ajV62
              have agV62 : agr [(6, 6), (6, 7), (6, 8), (6, 9), (6, 10)] [12, 13, 14] V V62 := agV6.tr ajV62 (by decide) (by decide)
              have t60 : (V62 6 6).toInt ≤ (V62 6 5).toInt := t60
              have t61 : (V62 6 7).toInt = (V6 6 7).toInt + 1 := t61
              have pq64 : (V62 6 5).toInt = ((V 6 5)).toInt := congrArg Int32.toInt ((ajV62 6 5 rfl).trans ((ajV6 6 5 rfl).trans ((up2_k hV3 (by decide)).trans (up2_k hV1 (by decide)))))
              have r65 : 0 ≤ ((V62 6 6)).toInt ∧ ((V62 6 6)).toInt ≤ 4000 := hMV62 6 6
              have r66 : 0 ≤ ((V62 6 7)).toInt ∧ ((V62 6 7)).toInt ≤ 4000 := hMV62 6 7
              obtain ⟨z67, ez67⟩ : ∃ y : Int32, y = y5 + 1 := ⟨_, rfl⟩
              have hz67 : z67.toInt = y5.toInt + 1 := i_add ez67 rfl (by decide) (by omega)
              refine lv_iinc (v := z67) (lv' := [(1, .int z67), (0, .ref (ad 6))]) hx hb dX9_begin_75 hl (k := 0) rfl (by rw [ez67]; rfl) (by decide) rfl (fun ls hl => ?_)
              refine lv_goto (tgt := 12) hx hb dX9_begin_78 (by decide) ?_
              exact ihlp8 z67 V62 L63 H locs ls (by omega) (show (V62 6 6).toInt ≤ (V62 6 5).toInt from by omega) (show (V62 6 7).toInt ≤ z67.toInt from by omega) (by omega) alL63 (agr.tr (agr.tr agr.rf ajV6 (by decide) (by decide)) ajV62 (by decide) (by decide)) hMV62 hP hD hS (lv_sub hl [0, 1] rfl)
            · skip
              have f68 : ((V 10 (Int32.toNatClampNeg (V6 6 6)))).toInt = 10 := b_eq rfl (by decide) c55
              refine lv_aload_n hx hb dX9_begin_58 rfl (lv_at hl 1 rfl) ?_
              refine lv_dup hx hb dX9_begin_59 rfl ?_
              refine va_get (D := D) (ci := 9) (v := .int (V6 6 6)) (fs := (xfTape ad V6 L7 Z)) (C := RX9) (T := TX9) (N := 12) hx hb hg inX9 hown hK hP 6 xgTape rfl 6 (by decide) (hg _ w259) (fun _ h9 => h9) rfl dX9_begin_60 ?_
              refine lv_iconst (v := 1) hx hb dX9_begin_63 (by decide) ?_
              refine lv_iadd hx hb dX9_begin_64 ?_
              refine lv_topi (fun z69 ez69 => ?_)
              have hz69 : z69.toInt = ((V6 6 6)).toInt + 1 := i_add ez69 rfl (by decide) (by omega)
              refine va_put (D := D) (ci := 9) (v := .int z69) (ty := tyX9 6) (fs := (xfTape ad V6 L7 Z)) (C := RX9) (T := TX9) (N := 12) hx hb hg inX9 tyX9 tyX9_ok nmX9 hown hK hP hD hS 6 xgTape rfl 6 (by decide) (hg _ w259) (fun _ h9 => h9) rfl (tyX9_ok 6 (by decide)) rfl rfl (Nat.le_of_ble_eq_true rfl) dX9_begin_65 (fun H locs hP hD hS => ?_)
              obtain ⟨V70, hV70⟩ : ∃ z, z = up2 V6 6 6 z69 := ⟨_, rfl⟩
              have ew71 : (xw ad kk V6 L7 Z).set 6 ((ad 6), .inr (9, (xfTape ad V6 L7 Z).set 6 (.int z69))) = xw ad kk V70 L7 Z := by rw [hV70]; exact xw_ss (by decide) rfl (xb_si (by decide))
              have hP : va_P D vwCl (xw ad kk V70 L7 Z) H := by rw [← ew71]; exact hP
              have hD : va_D A (xw ad kk V70 L7 Z) := by rw [← ew71]; exact hD
              have hMV70 : rgd bX V70 := hMV6.put hV70 (show 0 ≤ z69.toInt ∧ z69.toInt ≤ 4000 from by omega)
              have agV70 : agr [(6, 6), (6, 7), (6, 8), (6, 9), (6, 10)] [12, 13, 14] V V70 := agV6.up hV70 rfl
              refine lv_goto (tgt := 75) hx hb dX9_begin_68 (by decide) ?_
              obtain ⟨z72, ez72⟩ : ∃ y : Int32, y = y5 + 1 := ⟨_, rfl⟩
              have hz72 : z72.toInt = y5.toInt + 1 := i_add ez72 rfl (by decide) (by omega)
              refine lv_iinc (v := z72) (lv' := [(1, .int z72), (0, .ref (ad 6))]) hx hb dX9_begin_75 hl (k := 0) rfl (by rw [ez72]; rfl) (by decide) rfl (fun ls hl => ?_)
              refine lv_goto (tgt := 12) hx hb dX9_begin_78 (by decide) ?_
              have pq73 : (V70 6 5).toInt = ((V 6 5)).toInt := congrArg Int32.toInt ((up2_k hV70 (by decide)).trans ((ajV6 6 5 rfl).trans ((up2_k hV3 (by decide)).trans (up2_k hV1 (by decide)))))
              have pq74 : (V70 6 6).toInt = z69.toInt := congrArg Int32.toInt (up2_s hV70)
              have pq75 : (V70 6 7).toInt = ((V6 6 7)).toInt := congrArg Int32.toInt (up2_k hV70 (by decide))
              exact ihlp8 z72 V70 L7 H locs ls (by omega) (show (V70 6 6).toInt ≤ (V70 6 5).toInt from by omega) (show (V70 6 7).toInt ≤ z72.toInt from by omega) (by omega) alL7 (agr.up (agr.tr agr.rf ajV6 (by decide) (by decide)) hV70 rfl) hMV70 hP hD hS (lv_sub hl [0, 1] rfl)
  have r76 : Int32.toInt 0 = 0 := by decide
  have pq77 : (V3 6 5).toInt = ((V 6 5)).toInt := congrArg Int32.toInt ((up2_k hV3 (by decide)).trans (up2_k hV1 (by decide)))
  have r78 : 0 ≤ ((V 6 5)).toInt ∧ ((V 6 5)).toInt ≤ 4000 := hMV 6 5
  have pq79 : (V3 6 6).toInt = 0 := (congrArg Int32.toInt ((up2_k hV3 (by decide)).trans (up2_s hV1))).trans (by decide)
  have pq80 : (V3 6 7).toInt = 0 := (congrArg Int32.toInt (up2_s hV3)).trans (by decide)
  exact lp8 ((4000 - (Int32.toInt 0) + 1 : Int).toNat) 0 V3 L H locs ls (by decide) (show (V3 6 6).toInt ≤ (V3 6 5).toInt from by omega) (show (V3 6 7).toInt ≤ (Int32.toInt 0) from by omega) (by omega) alL agr.rf hMV3 hP hD hS (lv_sub hl [0, 1] rfl)
