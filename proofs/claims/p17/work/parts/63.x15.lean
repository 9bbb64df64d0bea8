section
theorem w790 : Cond.code yX9_kindOf cX9_kindOf 4 (some .int) ∈ GW := gw_k tk9_3 155 (rfl) rfl
theorem w787 : Cond.methodLink RX9 97 yX9_kindOf ∈ GW := gw_k tk9_3 152 (by decide +kernel) rfl
theorem w789 : Cond.instanceMethod yX9_kindOf ∈ GW := gw_k tk9_3 154 (by decide +kernel) rfl
theorem w3 : Cond.selects RX9 yX9_kindOf yX9_kindOf ∈ GW := gw_mem 3 (by decide +kernel) rfl
theorem hdV_yX9_kindOf : yX9_kindOf.cls = RX9 ∧ yX9_kindOf.cls ≠ "java/lang/invoke/MethodHandle" ∧ yX9_kindOf.cls ≠ "java/lang/invoke/VarHandle" ∧ (parseMethodDescriptor yX9_kindOf.desc).map (fun d => d.parameters.length) = some 1 := by decide +kernel
theorem w782 : Cond.code yX9_isLetter cX9_isLetter 1 (some .boolean) ∈ GW := gw_k tk9_3 147 (rfl) rfl
theorem w780 : Cond.methodLink RX9 82 yX9_isLetter ∈ GW := gw_k tk9_3 145 (by decide +kernel) rfl
theorem w781 : Cond.static yX9_isLetter ∈ GW := gw_k tk9_3 146 (by decide +kernel) rfl
theorem hdS_yX9_isLetter : yX9_isLetter.cls ≠ "java/lang/invoke/MethodHandle" ∧ yX9_isLetter.cls ≠ "java/lang/invoke/VarHandle" ∧ (parseMethodDescriptor yX9_isLetter.desc).map (fun d => d.parameters.length) = some 1 := by decide +kernel
theorem w245 : Cond.constantLong RX9 41 37 ∈ GW := gw_k tk9_1 90 (by decide +kernel) rfl
theorem w248 : Cond.code yX9_codeOf cX9_codeOf 1 (some .int) ∈ GW := gw_k tk9_1 93 (rfl) rfl
theorem w246 : Cond.methodLink RX9 43 yX9_codeOf ∈ GW := gw_k tk9_1 91 (by decide +kernel) rfl
theorem w247 : Cond.static yX9_codeOf ∈ GW := gw_k tk9_1 92 (by decide +kernel) rfl
theorem hdS_yX9_codeOf : yX9_codeOf.cls ≠ "java/lang/invoke/MethodHandle" ∧ yX9_codeOf.cls ≠ "java/lang/invoke/VarHandle" ∧ (parseMethodDescriptor yX9_codeOf.desc).map (fun d => d.parameters.length) = some 1 := by decide +kernel
theorem w795 : Cond.code yJ0_indexOf_0f7a4 cJ0_indexOf_0f7a4 2 (some .int) ∈ GW := gw_k tk9_3 160 (rfl) rfl
theorem w792 : Cond.methodLink RX9 90 yJ0_indexOf_0f7a4 ∈ GW := gw_k tk9_3 157 (by decide +kernel) rfl
theorem w793 : Cond.instanceMethod yJ0_indexOf_0f7a4 ∈ GW := gw_k tk9_3 158 (by decide +kernel) rfl
theorem w794 : Cond.selects RJ0 yJ0_indexOf_0f7a4 yJ0_indexOf_0f7a4 ∈ GW := gw_k tk9_3 159 (by decide +kernel) rfl
theorem hdV_yJ0_indexOf_0f7a4 : yJ0_indexOf_0f7a4.cls = RJ0 ∧ yJ0_indexOf_0f7a4.cls ≠ "java/lang/invoke/MethodHandle" ∧ yJ0_indexOf_0f7a4.cls ≠ "java/lang/invoke/VarHandle" ∧ (parseMethodDescriptor yJ0_indexOf_0f7a4.desc).map (fun d => d.parameters.length) = some 1 := by decide +kernel
theorem w786 : Cond.code yX9_cutWord cX9_cutWord 4 none ∈ GW := gw_k tk9_3 151 (rfl) rfl
theorem w783 : Cond.methodLink RX9 85 yX9_cutWord ∈ GW := gw_k tk9_3 148 (by decide +kernel) rfl
theorem w785 : Cond.instanceMethod yX9_cutWord ∈ GW := gw_k tk9_3 150 (by decide +kernel) rfl
theorem w2 : Cond.selects RX9 yX9_cutWord yX9_cutWord ∈ GW := gw_mem 2 (by decide +kernel) rfl
theorem hdV_yX9_cutWord : yX9_cutWord.cls = RX9 ∧ yX9_cutWord.cls ≠ "java/lang/invoke/MethodHandle" ∧ yX9_cutWord.cls ≠ "java/lang/invoke/VarHandle" ∧ (parseMethodDescriptor yX9_cutWord.desc).map (fun d => d.parameters.length) = some 0 := by decide +kernel
theorem w777 : Cond.code yX9_cutNumber cX9_cutNumber 4 none ∈ GW := gw_k tk9_3 142 (rfl) rfl
theorem w774 : Cond.methodLink RX9 79 yX9_cutNumber ∈ GW := gw_k tk9_3 139 (by decide +kernel) rfl
theorem w776 : Cond.instanceMethod yX9_cutNumber ∈ GW := gw_k tk9_3 141 (by decide +kernel) rfl
theorem w1 : Cond.selects RX9 yX9_cutNumber yX9_cutNumber ∈ GW := gw_mem 1 (by decide +kernel) rfl
theorem hdV_yX9_cutNumber : yX9_cutNumber.cls = RX9 ∧ yX9_cutNumber.cls ≠ "java/lang/invoke/MethodHandle" ∧ yX9_cutNumber.cls ≠ "java/lang/invoke/VarHandle" ∧ (parseMethodDescriptor yX9_cutNumber.desc).map (fun d => d.parameters.length) = some 0 := by decide +kernel
theorem w851 : Cond.methodLink RX9 62 yX9_next ∈ GW := gw_k tk9_3 216 (by decide +kernel) rfl
theorem w773 : Cond.code yX9_cut cX9_cut 2 none ∈ GW := gw_k tk9_3 138 (rfl) rfl
theorem w770 : Cond.methodLink RX9 56 yX9_cut ∈ GW := gw_k tk9_3 135 (by decide +kernel) rfl
theorem w772 : Cond.instanceMethod yX9_cut ∈ GW := gw_k tk9_3 137 (by decide +kernel) rfl
theorem w0 : Cond.selects RX9 yX9_cut yX9_cut ∈ GW := gw_mem 0 (by decide +kernel) rfl
theorem hdV_yX9_cut : yX9_cut.cls = RX9 ∧ yX9_cut.cls ≠ "java/lang/invoke/MethodHandle" ∧ yX9_cut.cls ≠ "java/lang/invoke/VarHandle" ∧ (parseMethodDescriptor yX9_cut.desc).map (fun d => d.parameters.length) = some 0 := by decide +kernel
theorem dk9_dX9_cutWord_0_0 : dOk cX9_cutWord [(0, .iconst 0, 1), (1, .istore_n 1, 1), (2, .lconst 0, 1), (3, .lstore_n 2, 1), (4, .aload_n 0, 1), (5, .getfield 50, 3), (8, .aload_n 0, 1), (9, .getfield 47, 3), (12, .if_icmp .ge 79, 3), (91, .aload_n 0, 1), (92, .getfield 19, 3), (95, .aload_n 0, 1), (96, .getfield 53, 3), (99, .iload_n 1, 1), (100, .bipush 12, 2), (102, .if_icmp .le 7, 3), (109, .aload_n 0, 1), (110, .lload_n 2, 1), (111, .invokevirtual 97, 3), (114, .iastore, 1), (115, .aload_n 0, 1), (116, .getfield 26, 3), (119, .aload_n 0, 1), (120, .getfield 53, 3)] = true ∧ dOk cX9_cutWord [(123, .lload_n 2, 1), (124, .lastore, 1), (125, .return_, 1), (105, .iconst 1, 1), (106, .goto 8, 3), (15, .aload_n 0, 1), (16, .getfield 9, 3), (19, .aload_n 0, 1), (20, .getfield 50, 3), (23, .baload, 1), (24, .invokestatic 82, 3), (27, .ifCond .ne 18, 3), (45, .iload_n 1, 1), (46, .bipush 12, 2), (48, .if_icmp .ge 25, 3), (73, .lconst 0, 1), (74, .lstore_n 2, 1), (75, .iinc 1 1, 3), (78, .aload_n 0, 1), (79, .dup, 1), (80, .getfield 50, 3), (83, .iconst 1, 1), (84, .iadd, 1), (85, .putfield 50, 3)] = true ∧ dOk cX9_cutWord [(88, .goto (-84), 3), (51, .lload_n 2, 1), (52, .ldc2_w 41, 3), (55, .lmul, 1), (56, .aload_n 0, 1), (57, .getfield 9, 3), (60, .aload_n 0, 1), (61, .getfield 50, 3), (64, .baload, 1), (65, .invokestatic 43, 3), (68, .i2l, 1), (69, .ladd, 1), (70, .goto 4, 3), (30, .aload_n 0, 1), (31, .getfield 9, 3), (34, .aload_n 0, 1), (35, .getfield 50, 3), (38, .baload, 1), (39, .invokestatic 75, 3), (42, .ifCond .eq 49, 3)] = true := by decide +kernel
theorem dX9_cutWord_0 : decode cX9_cutWord 0 = .ok (.iconst 0, 1) := dr9 dk9_dX9_cutWord_0_0.1 0 (0, .iconst 0, 1) rfl
theorem dX9_cutWord_1 : decode cX9_cutWord 1 = .ok (.istore_n 1, 1) := dr9 dk9_dX9_cutWord_0_0.1 1 (1, .istore_n 1, 1) rfl
theorem dX9_cutWord_2 : decode cX9_cutWord 2 = .ok (.lconst 0, 1) := dr9 dk9_dX9_cutWord_0_0.1 2 (2, .lconst 0, 1) rfl
theorem dX9_cutWord_3 : decode cX9_cutWord 3 = .ok (.lstore_n 2, 1) := dr9 dk9_dX9_cutWord_0_0.1 3 (3, .lstore_n 2, 1) rfl
theorem dX9_cutWord_4 : decode cX9_cutWord 4 = .ok (.aload_n 0, 1) := dr9 dk9_dX9_cutWord_0_0.1 4 (4, .aload_n 0, 1) rfl
theorem dX9_cutWord_5 : decode cX9_cutWord 5 = .ok (.getfield 50, 3) := dr9 dk9_dX9_cutWord_0_0.1 5 (5, .getfield 50, 3) rfl
theorem dX9_cutWord_8 : decode cX9_cutWord 8 = .ok (.aload_n 0, 1) := dr9 dk9_dX9_cutWord_0_0.1 6 (8, .aload_n 0, 1) rfl
theorem dX9_cutWord_9 : decode cX9_cutWord 9 = .ok (.getfield 47, 3) := dr9 dk9_dX9_cutWord_0_0.1 7 (9, .getfield 47, 3) rfl
theorem dX9_cutWord_12 : decode cX9_cutWord 12 = .ok (.if_icmp .ge 79, 3) := dr9 dk9_dX9_cutWord_0_0.1 8 (12, .if_icmp .ge 79, 3) rfl
theorem dX9_cutWord_91 : decode cX9_cutWord 91 = .ok (.aload_n 0, 1) := dr9 dk9_dX9_cutWord_0_0.1 9 (91, .aload_n 0, 1) rfl
theorem dX9_cutWord_92 : decode cX9_cutWord 92 = .ok (.getfield 19, 3) := dr9 dk9_dX9_cutWord_0_0.1 10 (92, .getfield 19, 3) rfl
theorem dX9_cutWord_95 : decode cX9_cutWord 95 = .ok (.aload_n 0, 1) := dr9 dk9_dX9_cutWord_0_0.1 11 (95, .aload_n 0, 1) rfl
theorem dX9_cutWord_96 : decode cX9_cutWord 96 = .ok (.getfield 53, 3) := dr9 dk9_dX9_cutWord_0_0.1 12 (96, .getfield 53, 3) rfl
theorem dX9_cutWord_99 : decode cX9_cutWord 99 = .ok (.iload_n 1, 1) := dr9 dk9_dX9_cutWord_0_0.1 13 (99, .iload_n 1, 1) rfl
theorem dX9_cutWord_100 : decode cX9_cutWord 100 = .ok (.bipush 12, 2) := dr9 dk9_dX9_cutWord_0_0.1 14 (100, .bipush 12, 2) rfl
theorem dX9_cutWord_102 : decode cX9_cutWord 102 = .ok (.if_icmp .le 7, 3) := dr9 dk9_dX9_cutWord_0_0.1 15 (102, .if_icmp .le 7, 3) rfl
theorem dX9_cutWord_109 : decode cX9_cutWord 109 = .ok (.aload_n 0, 1) := dr9 dk9_dX9_cutWord_0_0.1 16 (109, .aload_n 0, 1) rfl
theorem dX9_cutWord_110 : decode cX9_cutWord 110 = .ok (.lload_n 2, 1) := dr9 dk9_dX9_cutWord_0_0.1 17 (110, .lload_n 2, 1) rfl
theorem dX9_cutWord_111 : decode cX9_cutWord 111 = .ok (.invokevirtual 97, 3) := dr9 dk9_dX9_cutWord_0_0.1 18 (111, .invokevirtual 97, 3) rfl
theorem dX9_cutWord_114 : decode cX9_cutWord 114 = .ok (.iastore, 1) := dr9 dk9_dX9_cutWord_0_0.1 19 (114, .iastore, 1) rfl
theorem dX9_cutWord_115 : decode cX9_cutWord 115 = .ok (.aload_n 0, 1) := dr9 dk9_dX9_cutWord_0_0.1 20 (115, .aload_n 0, 1) rfl
theorem dX9_cutWord_116 : decode cX9_cutWord 116 = .ok (.getfield 26, 3) := dr9 dk9_dX9_cutWord_0_0.1 21 (116, .getfield 26, 3) rfl
theorem dX9_cutWord_119 : decode cX9_cutWord 119 = .ok (.aload_n 0, 1) := dr9 dk9_dX9_cutWord_0_0.1 22 (119, .aload_n 0, 1) rfl
theorem dX9_cutWord_120 : decode cX9_cutWord 120 = .ok (.getfield 53, 3) := dr9 dk9_dX9_cutWord_0_0.1 23 (120, .getfield 53, 3) rfl
theorem dX9_cutWord_123 : decode cX9_cutWord 123 = .ok (.lload_n 2, 1) := dr9 dk9_dX9_cutWord_0_0.2.1 0 (123, .lload_n 2, 1) rfl
theorem dX9_cutWord_124 : decode cX9_cutWord 124 = .ok (.lastore, 1) := dr9 dk9_dX9_cutWord_0_0.2.1 1 (124, .lastore, 1) rfl
theorem dX9_cutWord_125 : decode cX9_cutWord 125 = .ok (.return_, 1) := dr9 dk9_dX9_cutWord_0_0.2.1 2 (125, .return_, 1) rfl
theorem dX9_cutWord_105 : decode cX9_cutWord 105 = .ok (.iconst 1, 1) := dr9 dk9_dX9_cutWord_0_0.2.1 3 (105, .iconst 1, 1) rfl
theorem dX9_cutWord_106 : decode cX9_cutWord 106 = .ok (.goto 8, 3) := dr9 dk9_dX9_cutWord_0_0.2.1 4 (106, .goto 8, 3) rfl
theorem dX9_cutWord_15 : decode cX9_cutWord 15 = .ok (.aload_n 0, 1) := dr9 dk9_dX9_cutWord_0_0.2.1 5 (15, .aload_n 0, 1) rfl
theorem dX9_cutWord_16 : decode cX9_cutWord 16 = .ok (.getfield 9, 3) := dr9 dk9_dX9_cutWord_0_0.2.1 6 (16, .getfield 9, 3) rfl
theorem dX9_cutWord_19 : decode cX9_cutWord 19 = .ok (.aload_n 0, 1) := dr9 dk9_dX9_cutWord_0_0.2.1 7 (19, .aload_n 0, 1) rfl
theorem dX9_cutWord_20 : decode cX9_cutWord 20 = .ok (.getfield 50, 3) := dr9 dk9_dX9_cutWord_0_0.2.1 8 (20, .getfield 50, 3) rfl
theorem dX9_cutWord_23 : decode cX9_cutWord 23 = .ok (.baload, 1) := dr9 dk9_dX9_cutWord_0_0.2.1 9 (23, .baload, 1) rfl
theorem dX9_cutWord_24 : decode cX9_cutWord 24 = .ok (.invokestatic 82, 3) := dr9 dk9_dX9_cutWord_0_0.2.1 10 (24, .invokestatic 82, 3) rfl
theorem dX9_cutWord_27 : decode cX9_cutWord 27 = .ok (.ifCond .ne 18, 3) := dr9 dk9_dX9_cutWord_0_0.2.1 11 (27, .ifCond .ne 18, 3) rfl
theorem dX9_cutWord_45 : decode cX9_cutWord 45 = .ok (.iload_n 1, 1) := dr9 dk9_dX9_cutWord_0_0.2.1 12 (45, .iload_n 1, 1) rfl
theorem dX9_cutWord_46 : decode cX9_cutWord 46 = .ok (.bipush 12, 2) := dr9 dk9_dX9_cutWord_0_0.2.1 13 (46, .bipush 12, 2) rfl
theorem dX9_cutWord_48 : decode cX9_cutWord 48 = .ok (.if_icmp .ge 25, 3) := dr9 dk9_dX9_cutWord_0_0.2.1 14 (48, .if_icmp .ge 25, 3) rfl
theorem dX9_cutWord_73 : decode cX9_cutWord 73 = .ok (.lconst 0, 1) := dr9 dk9_dX9_cutWord_0_0.2.1 15 (73, .lconst 0, 1) rfl
theorem dX9_cutWord_74 : decode cX9_cutWord 74 = .ok (.lstore_n 2, 1) := dr9 dk9_dX9_cutWord_0_0.2.1 16 (74, .lstore_n 2, 1) rfl
theorem dX9_cutWord_75 : decode cX9_cutWord 75 = .ok (.iinc 1 1, 3) := dr9 dk9_dX9_cutWord_0_0.2.1 17 (75, .iinc 1 1, 3) rfl
theorem dX9_cutWord_78 : decode cX9_cutWord 78 = .ok (.aload_n 0, 1) := dr9 dk9_dX9_cutWord_0_0.2.1 18 (78, .aload_n 0, 1) rfl
theorem dX9_cutWord_79 : decode cX9_cutWord 79 = .ok (.dup, 1) := dr9 dk9_dX9_cutWord_0_0.2.1 19 (79, .dup, 1) rfl
theorem dX9_cutWord_80 : decode cX9_cutWord 80 = .ok (.getfield 50, 3) := dr9 dk9_dX9_cutWord_0_0.2.1 20 (80, .getfield 50, 3) rfl
theorem dX9_cutWord_83 : decode cX9_cutWord 83 = .ok (.iconst 1, 1) := dr9 dk9_dX9_cutWord_0_0.2.1 21 (83, .iconst 1, 1) rfl
theorem dX9_cutWord_84 : decode cX9_cutWord 84 = .ok (.iadd, 1) := dr9 dk9_dX9_cutWord_0_0.2.1 22 (84, .iadd, 1) rfl
theorem dX9_cutWord_85 : decode cX9_cutWord 85 = .ok (.putfield 50, 3) := dr9 dk9_dX9_cutWord_0_0.2.1 23 (85, .putfield 50, 3) rfl
theorem dX9_cutWord_88 : decode cX9_cutWord 88 = .ok (.goto (-84), 3) := dr9 dk9_dX9_cutWord_0_0.2.2 0 (88, .goto (-84), 3) rfl
theorem dX9_cutWord_51 : decode cX9_cutWord 51 = .ok (.lload_n 2, 1) := dr9 dk9_dX9_cutWord_0_0.2.2 1 (51, .lload_n 2, 1) rfl
theorem dX9_cutWord_52 : decode cX9_cutWord 52 = .ok (.ldc2_w 41, 3) := dr9 dk9_dX9_cutWord_0_0.2.2 2 (52, .ldc2_w 41, 3) rfl
theorem dX9_cutWord_55 : decode cX9_cutWord 55 = .ok (.lmul, 1) := dr9 dk9_dX9_cutWord_0_0.2.2 3 (55, .lmul, 1) rfl
theorem dX9_cutWord_56 : decode cX9_cutWord 56 = .ok (.aload_n 0, 1) := dr9 dk9_dX9_cutWord_0_0.2.2 4 (56, .aload_n 0, 1) rfl
theorem dX9_cutWord_57 : decode cX9_cutWord 57 = .ok (.getfield 9, 3) := dr9 dk9_dX9_cutWord_0_0.2.2 5 (57, .getfield 9, 3) rfl
theorem dX9_cutWord_60 : decode cX9_cutWord 60 = .ok (.aload_n 0, 1) := dr9 dk9_dX9_cutWord_0_0.2.2 6 (60, .aload_n 0, 1) rfl
theorem dX9_cutWord_61 : decode cX9_cutWord 61 = .ok (.getfield 50, 3) := dr9 dk9_dX9_cutWord_0_0.2.2 7 (61, .getfield 50, 3) rfl
theorem dX9_cutWord_64 : decode cX9_cutWord 64 = .ok (.baload, 1) := dr9 dk9_dX9_cutWord_0_0.2.2 8 (64, .baload, 1) rfl
theorem dX9_cutWord_65 : decode cX9_cutWord 65 = .ok (.invokestatic 43, 3) := dr9 dk9_dX9_cutWord_0_0.2.2 9 (65, .invokestatic 43, 3) rfl
theorem dX9_cutWord_68 : decode cX9_cutWord 68 = .ok (.i2l, 1) := dr9 dk9_dX9_cutWord_0_0.2.2 10 (68, .i2l, 1) rfl
theorem dX9_cutWord_69 : decode cX9_cutWord 69 = .ok (.ladd, 1) := dr9 dk9_dX9_cutWord_0_0.2.2 11 (69, .ladd, 1) rfl
theorem dX9_cutWord_70 : decode cX9_cutWord 70 = .ok (.goto 4, 3) := dr9 dk9_dX9_cutWord_0_0.2.2 12 (70, .goto 4, 3) rfl
theorem dX9_cutWord_30 : decode cX9_cutWord 30 = .ok (.aload_n 0, 1) := dr9 dk9_dX9_cutWord_0_0.2.2 13 (30, .aload_n 0, 1) rfl
theorem dX9_cutWord_31 : decode cX9_cutWord 31 = .ok (.getfield 9, 3) := dr9 dk9_dX9_cutWord_0_0.2.2 14 (31, .getfield 9, 3) rfl
theorem dX9_cutWord_34 : decode cX9_cutWord 34 = .ok (.aload_n 0, 1) := dr9 dk9_dX9_cutWord_0_0.2.2 15 (34, .aload_n 0, 1) rfl
theorem dX9_cutWord_35 : decode cX9_cutWord 35 = .ok (.getfield 50, 3) := dr9 dk9_dX9_cutWord_0_0.2.2 16 (35, .getfield 50, 3) rfl
theorem dX9_cutWord_38 : decode cX9_cutWord 38 = .ok (.baload, 1) := dr9 dk9_dX9_cutWord_0_0.2.2 17 (38, .baload, 1) rfl
theorem dX9_cutWord_39 : decode cX9_cutWord 39 = .ok (.invokestatic 75, 3) := dr9 dk9_dX9_cutWord_0_0.2.2 18 (39, .invokestatic 75, 3) rfl
theorem dX9_cutWord_42 : decode cX9_cutWord 42 = .ok (.ifCond .eq 49, 3) := dr9 dk9_dX9_cutWord_0_0.2.2 19 (42, .ifCond .eq 49, 3) rfl
theorem dk9_dX9_cut_0_0 : dOk cX9_cut [(0, .aload_n 0, 1), (1, .getfield 9, 3), (4, .aload_n 0, 1), (5, .getfield 50, 3), (8, .baload, 1), (9, .istore_n 1, 1), (10, .aload_n 0, 1), (11, .getfield 23, 3), (14, .aload_n 0, 1), (15, .getfield 53, 3), (18, .aload_n 0, 1), (19, .getfield 50, 3), (22, .iastore, 1), (23, .aload_n 0, 1), (24, .getfield 26, 3), (27, .aload_n 0, 1), (28, .getfield 53, 3), (31, .lconst 0, 1), (32, .lastore, 1), (33, .iload_n 1, 1), (34, .invokestatic 75, 3), (37, .ifCond .eq 10, 3), (47, .iload_n 1, 1), (48, .invokestatic 82, 3)] = true ∧ dOk cX9_cut [(51, .ifCond .eq 10, 3), (61, .aload_n 0, 1), (62, .getfield 19, 3), (65, .aload_n 0, 1), (66, .getfield 53, 3), (69, .ldc 88, 2), (71, .iload_n 1, 1), (72, .i2c, 1), (73, .invokevirtual 90, 3), (76, .ifCond .lt 7, 3), (83, .iconst 1, 1), (84, .iastore, 1), (85, .aload_n 0, 1), (86, .dup, 1), (87, .getfield 50, 3), (90, .iconst 1, 1), (91, .iadd, 1), (92, .putfield 50, 3), (95, .aload_n 0, 1), (96, .dup, 1), (97, .getfield 53, 3), (100, .iconst 1, 1), (101, .iadd, 1), (102, .putfield 53, 3)] = true ∧ dOk cX9_cut [(105, .return_, 1), (79, .iload_n 1, 1), (80, .goto 4, 3), (54, .aload_n 0, 1), (55, .invokevirtual 85, 3), (58, .goto 37, 3), (40, .aload_n 0, 1), (41, .invokevirtual 79, 3), (44, .goto 51, 3)] = true := by decide +kernel
theorem dX9_cut_0 : decode cX9_cut 0 = .ok (.aload_n 0, 1) := dr9 dk9_dX9_cut_0_0.1 0 (0, .aload_n 0, 1) rfl
theorem dX9_cut_1 : decode cX9_cut 1 = .ok (.getfield 9, 3) := dr9 dk9_dX9_cut_0_0.1 1 (1, .getfield 9, 3) rfl
theorem dX9_cut_4 : decode cX9_cut 4 = .ok (.aload_n 0, 1) := dr9 dk9_dX9_cut_0_0.1 2 (4, .aload_n 0, 1) rfl
theorem dX9_cut_5 : decode cX9_cut 5 = .ok (.getfield 50, 3) := dr9 dk9_dX9_cut_0_0.1 3 (5, .getfield 50, 3) rfl
theorem dX9_cut_8 : decode cX9_cut 8 = .ok (.baload, 1) := dr9 dk9_dX9_cut_0_0.1 4 (8, .baload, 1) rfl
theorem dX9_cut_9 : decode cX9_cut 9 = .ok (.istore_n 1, 1) := dr9 dk9_dX9_cut_0_0.1 5 (9, .istore_n 1, 1) rfl
theorem dX9_cut_10 : decode cX9_cut 10 = .ok (.aload_n 0, 1) := dr9 dk9_dX9_cut_0_0.1 6 (10, .aload_n 0, 1) rfl
theorem dX9_cut_11 : decode cX9_cut 11 = .ok (.getfield 23, 3) := dr9 dk9_dX9_cut_0_0.1 7 (11, .getfield 23, 3) rfl
theorem dX9_cut_14 : decode cX9_cut 14 = .ok (.aload_n 0, 1) := dr9 dk9_dX9_cut_0_0.1 8 (14, .aload_n 0, 1) rfl
theorem dX9_cut_15 : decode cX9_cut 15 = .ok (.getfield 53, 3) := dr9 dk9_dX9_cut_0_0.1 9 (15, .getfield 53, 3) rfl
theorem dX9_cut_18 : decode cX9_cut 18 = .ok (.aload_n 0, 1) := dr9 dk9_dX9_cut_0_0.1 10 (18, .aload_n 0, 1) rfl
theorem dX9_cut_19 : decode cX9_cut 19 = .ok (.getfield 50, 3) := dr9 dk9_dX9_cut_0_0.1 11 (19, .getfield 50, 3) rfl
theorem dX9_cut_22 : decode cX9_cut 22 = .ok (.iastore, 1) := dr9 dk9_dX9_cut_0_0.1 12 (22, .iastore, 1) rfl
theorem dX9_cut_23 : decode cX9_cut 23 = .ok (.aload_n 0, 1) := dr9 dk9_dX9_cut_0_0.1 13 (23, .aload_n 0, 1) rfl
theorem dX9_cut_24 : decode cX9_cut 24 = .ok (.getfield 26, 3) := dr9 dk9_dX9_cut_0_0.1 14 (24, .getfield 26, 3) rfl
theorem dX9_cut_27 : decode cX9_cut 27 = .ok (.aload_n 0, 1) := dr9 dk9_dX9_cut_0_0.1 15 (27, .aload_n 0, 1) rfl
theorem dX9_cut_28 : decode cX9_cut 28 = .ok (.getfield 53, 3) := dr9 dk9_dX9_cut_0_0.1 16 (28, .getfield 53, 3) rfl
theorem dX9_cut_31 : decode cX9_cut 31 = .ok (.lconst 0, 1) := dr9 dk9_dX9_cut_0_0.1 17 (31, .lconst 0, 1) rfl
theorem dX9_cut_32 : decode cX9_cut 32 = .ok (.lastore, 1) := dr9 dk9_dX9_cut_0_0.1 18 (32, .lastore, 1) rfl
theorem dX9_cut_33 : decode cX9_cut 33 = .ok (.iload_n 1, 1) := dr9 dk9_dX9_cut_0_0.1 19 (33, .iload_n 1, 1) rfl
theorem dX9_cut_34 : decode cX9_cut 34 = .ok (.invokestatic 75, 3) := dr9 dk9_dX9_cut_0_0.1 20 (34, .invokestatic 75, 3) rfl
theorem dX9_cut_37 : decode cX9_cut 37 = .ok (.ifCond .eq 10, 3) := dr9 dk9_dX9_cut_0_0.1 21 (37, .ifCond .eq 10, 3) rfl
theorem dX9_cut_47 : decode cX9_cut 47 = .ok (.iload_n 1, 1) := dr9 dk9_dX9_cut_0_0.1 22 (47, .iload_n 1, 1) rfl
theorem dX9_cut_48 : decode cX9_cut 48 = .ok (.invokestatic 82, 3) := dr9 dk9_dX9_cut_0_0.1 23 (48, .invokestatic 82, 3) rfl
theorem dX9_cut_51 : decode cX9_cut 51 = .ok (.ifCond .eq 10, 3) := dr9 dk9_dX9_cut_0_0.2.1 0 (51, .ifCond .eq 10, 3) rfl
theorem dX9_cut_61 : decode cX9_cut 61 = .ok (.aload_n 0, 1) := dr9 dk9_dX9_cut_0_0.2.1 1 (61, .aload_n 0, 1) rfl
theorem dX9_cut_62 : decode cX9_cut 62 = .ok (.getfield 19, 3) := dr9 dk9_dX9_cut_0_0.2.1 2 (62, .getfield 19, 3) rfl
theorem dX9_cut_65 : decode cX9_cut 65 = .ok (.aload_n 0, 1) := dr9 dk9_dX9_cut_0_0.2.1 3 (65, .aload_n 0, 1) rfl
theorem dX9_cut_66 : decode cX9_cut 66 = .ok (.getfield 53, 3) := dr9 dk9_dX9_cut_0_0.2.1 4 (66, .getfield 53, 3) rfl
theorem dX9_cut_69 : decode cX9_cut 69 = .ok (.ldc 88, 2) := dr9 dk9_dX9_cut_0_0.2.1 5 (69, .ldc 88, 2) rfl
theorem dX9_cut_71 : decode cX9_cut 71 = .ok (.iload_n 1, 1) := dr9 dk9_dX9_cut_0_0.2.1 6 (71, .iload_n 1, 1) rfl
theorem dX9_cut_72 : decode cX9_cut 72 = .ok (.i2c, 1) := dr9 dk9_dX9_cut_0_0.2.1 7 (72, .i2c, 1) rfl
theorem dX9_cut_73 : decode cX9_cut 73 = .ok (.invokevirtual 90, 3) := dr9 dk9_dX9_cut_0_0.2.1 8 (73, .invokevirtual 90, 3) rfl
theorem dX9_cut_76 : decode cX9_cut 76 = .ok (.ifCond .lt 7, 3) := dr9 dk9_dX9_cut_0_0.2.1 9 (76, .ifCond .lt 7, 3) rfl
theorem dX9_cut_83 : decode cX9_cut 83 = .ok (.iconst 1, 1) := dr9 dk9_dX9_cut_0_0.2.1 10 (83, .iconst 1, 1) rfl
theorem dX9_cut_84 : decode cX9_cut 84 = .ok (.iastore, 1) := dr9 dk9_dX9_cut_0_0.2.1 11 (84, .iastore, 1) rfl
theorem dX9_cut_85 : decode cX9_cut 85 = .ok (.aload_n 0, 1) := dr9 dk9_dX9_cut_0_0.2.1 12 (85, .aload_n 0, 1) rfl
theorem dX9_cut_86 : decode cX9_cut 86 = .ok (.dup, 1) := dr9 dk9_dX9_cut_0_0.2.1 13 (86, .dup, 1) rfl
theorem dX9_cut_87 : decode cX9_cut 87 = .ok (.getfield 50, 3) := dr9 dk9_dX9_cut_0_0.2.1 14 (87, .getfield 50, 3) rfl
theorem dX9_cut_90 : decode cX9_cut 90 = .ok (.iconst 1, 1) := dr9 dk9_dX9_cut_0_0.2.1 15 (90, .iconst 1, 1) rfl
theorem dX9_cut_91 : decode cX9_cut 91 = .ok (.iadd, 1) := dr9 dk9_dX9_cut_0_0.2.1 16 (91, .iadd, 1) rfl
theorem dX9_cut_92 : decode cX9_cut 92 = .ok (.putfield 50, 3) := dr9 dk9_dX9_cut_0_0.2.1 17 (92, .putfield 50, 3) rfl
theorem dX9_cut_95 : decode cX9_cut 95 = .ok (.aload_n 0, 1) := dr9 dk9_dX9_cut_0_0.2.1 18 (95, .aload_n 0, 1) rfl
theorem dX9_cut_96 : decode cX9_cut 96 = .ok (.dup, 1) := dr9 dk9_dX9_cut_0_0.2.1 19 (96, .dup, 1) rfl
theorem dX9_cut_97 : decode cX9_cut 97 = .ok (.getfield 53, 3) := dr9 dk9_dX9_cut_0_0.2.1 20 (97, .getfield 53, 3) rfl
theorem dX9_cut_100 : decode cX9_cut 100 = .ok (.iconst 1, 1) := dr9 dk9_dX9_cut_0_0.2.1 21 (100, .iconst 1, 1) rfl
theorem dX9_cut_101 : decode cX9_cut 101 = .ok (.iadd, 1) := dr9 dk9_dX9_cut_0_0.2.1 22 (101, .iadd, 1) rfl
theorem dX9_cut_102 : decode cX9_cut 102 = .ok (.putfield 53, 3) := dr9 dk9_dX9_cut_0_0.2.1 23 (102, .putfield 53, 3) rfl
theorem dX9_cut_105 : decode cX9_cut 105 = .ok (.return_, 1) := dr9 dk9_dX9_cut_0_0.2.2 0 (105, .return_, 1) rfl
theorem dX9_cut_79 : decode cX9_cut 79 = .ok (.iload_n 1, 1) := dr9 dk9_dX9_cut_0_0.2.2 1 (79, .iload_n 1, 1) rfl
theorem dX9_cut_80 : decode cX9_cut 80 = .ok (.goto 4, 3) := dr9 dk9_dX9_cut_0_0.2.2 2 (80, .goto 4, 3) rfl
theorem dX9_cut_54 : decode cX9_cut 54 = .ok (.aload_n 0, 1) := dr9 dk9_dX9_cut_0_0.2.2 3 (54, .aload_n 0, 1) rfl
theorem dX9_cut_55 : decode cX9_cut 55 = .ok (.invokevirtual 85, 3) := dr9 dk9_dX9_cut_0_0.2.2 4 (55, .invokevirtual 85, 3) rfl
theorem dX9_cut_58 : decode cX9_cut 58 = .ok (.goto 37, 3) := dr9 dk9_dX9_cut_0_0.2.2 5 (58, .goto 37, 3) rfl
theorem dX9_cut_40 : decode cX9_cut 40 = .ok (.aload_n 0, 1) := dr9 dk9_dX9_cut_0_0.2.2 6 (40, .aload_n 0, 1) rfl
theorem dX9_cut_41 : decode cX9_cut 41 = .ok (.invokevirtual 79, 3) := dr9 dk9_dX9_cut_0_0.2.2 7 (41, .invokevirtual 79, 3) rfl
theorem dX9_cut_44 : decode cX9_cut 44 = .ok (.goto 51, 3) := dr9 dk9_dX9_cut_0_0.2.2 8 (44, .goto 51, 3) rfl
theorem dk9_dX9_begin_0_0 : dOk cX9_begin [(0, .aload_n 0, 1), (1, .iconst 0, 1), (2, .putfield 50, 3), (5, .aload_n 0, 1), (6, .iconst 0, 1), (7, .putfield 53, 3), (10, .iconst 0, 1), (11, .istore_n 1, 1), (12, .iload_n 1, 1), (13, .sipush 4000, 3), (16, .if_icmp .ge 65, 3), (81, .aload_n 0, 1), (82, .getfield 19, 3), (85, .aload_n 0, 1), (86, .getfield 53, 3), (89, .iconst 0, 1), (90, .iastore, 1), (91, .aload_n 0, 1), (92, .getfield 23, 3), (95, .aload_n 0, 1), (96, .getfield 53, 3), (99, .aload_n 0, 1), (100, .getfield 47, 3), (103, .iastore, 1)] = true ∧ dOk cX9_begin [(104, .aload_n 0, 1), (105, .getfield 26, 3), (108, .aload_n 0, 1), (109, .getfield 53, 3), (112, .lconst 0, 1), (113, .lastore, 1), (114, .aload_n 0, 1), (115, .iconst 0, 1), (116, .putfield 59, 3), (119, .aload_n 0, 1), (120, .invokevirtual 62, 3), (123, .return_, 1), (19, .aload_n 0, 1), (20, .getfield 50, 3), (23, .aload_n 0, 1), (24, .getfield 47, 3), (27, .if_icmp .ge 54, 3), (30, .aload_n 0, 1), (31, .getfield 9, 3), (34, .aload_n 0, 1), (35, .getfield 50, 3), (38, .baload, 1), (39, .bipush 32, 2), (41, .if_icmp .eq 17, 3)] = true ∧ dOk cX9_begin [(58, .aload_n 0, 1), (59, .dup, 1), (60, .getfield 50, 3), (63, .iconst 1, 1), (64, .iadd, 1), (65, .putfield 50, 3), (68, .goto 7, 3), (75, .iinc 1 1, 3), (78, .goto (-66), 3), (44, .aload_n 0, 1), (45, .getfield 9, 3), (48, .aload_n 0, 1), (49, .getfield 50, 3), (52, .baload, 1), (53, .bipush 10, 2), (55, .if_icmp .ne 16, 3), (71, .aload_n 0, 1), (72, .invokevirtual 56, 3)] = true := by decide +kernel
theorem dX9_begin_0 : decode cX9_begin 0 = .ok (.aload_n 0, 1) := dr9 dk9_dX9_begin_0_0.1 0 (0, .aload_n 0, 1) rfl
theorem dX9_begin_1 : decode cX9_begin 1 = .ok (.iconst 0, 1) := dr9 dk9_dX9_begin_0_0.1 1 (1, .iconst 0, 1) rfl
theorem dX9_begin_2 : decode cX9_begin 2 = .ok (.putfield 50, 3) := dr9 dk9_dX9_begin_0_0.1 2 (2, .putfield 50, 3) rfl
theorem dX9_begin_5 : decode cX9_begin 5 = .ok (.aload_n 0, 1) := dr9 dk9_dX9_begin_0_0.1 3 (5, .aload_n 0, 1) rfl
theorem dX9_begin_6 : decode cX9_begin 6 = .ok (.iconst 0, 1) := dr9 dk9_dX9_begin_0_0.1 4 (6, .iconst 0, 1) rfl
theorem dX9_begin_7 : decode cX9_begin 7 = .ok (.putfield 53, 3) := dr9 dk9_dX9_begin_0_0.1 5 (7, .putfield 53, 3) rfl
theorem dX9_begin_10 : decode cX9_begin 10 = .ok (.iconst 0, 1) := dr9 dk9_dX9_begin_0_0.1 6 (10, .iconst 0, 1) rfl
theorem dX9_begin_11 : decode cX9_begin 11 = .ok (.istore_n 1, 1) := dr9 dk9_dX9_begin_0_0.1 7 (11, .istore_n 1, 1) rfl
theorem dX9_begin_12 : decode cX9_begin 12 = .ok (.iload_n 1, 1) := dr9 dk9_dX9_begin_0_0.1 8 (12, .iload_n 1, 1) rfl
theorem dX9_begin_13 : decode cX9_begin 13 = .ok (.sipush 4000, 3) := dr9 dk9_dX9_begin_0_0.1 9 (13, .sipush 4000, 3) rfl
theorem dX9_begin_16 : decode cX9_begin 16 = .ok (.if_icmp .ge 65, 3) := dr9 dk9_dX9_begin_0_0.1 10 (16, .if_icmp .ge 65, 3) rfl
theorem dX9_begin_81 : decode cX9_begin 81 = .ok (.aload_n 0, 1) := dr9 dk9_dX9_begin_0_0.1 11 (81, .aload_n 0, 1) rfl
theorem dX9_begin_82 : decode cX9_begin 82 = .ok (.getfield 19, 3) := dr9 dk9_dX9_begin_0_0.1 12 (82, .getfield 19, 3) rfl
theorem dX9_begin_85 : decode cX9_begin 85 = .ok (.aload_n 0, 1) := dr9 dk9_dX9_begin_0_0.1 13 (85, .aload_n 0, 1) rfl
theorem dX9_begin_86 : decode cX9_begin 86 = .ok (.getfield 53, 3) := dr9 dk9_dX9_begin_0_0.1 14 (86, .getfield 53, 3) rfl
theorem dX9_begin_89 : decode cX9_begin 89 = .ok (.iconst 0, 1) := dr9 dk9_dX9_begin_0_0.1 15 (89, .iconst 0, 1) rfl
theorem dX9_begin_90 : decode cX9_begin 90 = .ok (.iastore, 1) := dr9 dk9_dX9_begin_0_0.1 16 (90, .iastore, 1) rfl
theorem dX9_begin_91 : decode cX9_begin 91 = .ok (.aload_n 0, 1) := dr9 dk9_dX9_begin_0_0.1 17 (91, .aload_n 0, 1) rfl
theorem dX9_begin_92 : decode cX9_begin 92 = .ok (.getfield 23, 3) := dr9 dk9_dX9_begin_0_0.1 18 (92, .getfield 23, 3) rfl
theorem dX9_begin_95 : decode cX9_begin 95 = .ok (.aload_n 0, 1) := dr9 dk9_dX9_begin_0_0.1 19 (95, .aload_n 0, 1) rfl
theorem dX9_begin_96 : decode cX9_begin 96 = .ok (.getfield 53, 3) := dr9 dk9_dX9_begin_0_0.1 20 (96, .getfield 53, 3) rfl
theorem dX9_begin_99 : decode cX9_begin 99 = .ok (.aload_n 0, 1) := dr9 dk9_dX9_begin_0_0.1 21 (99, .aload_n 0, 1) rfl
theorem dX9_begin_100 : decode cX9_begin 100 = .ok (.getfield 47, 3) := dr9 dk9_dX9_begin_0_0.1 22 (100, .getfield 47, 3) rfl
theorem dX9_begin_103 : decode cX9_begin 103 = .ok (.iastore, 1) := dr9 dk9_dX9_begin_0_0.1 23 (103, .iastore, 1) rfl
theorem dX9_begin_104 : decode cX9_begin 104 = .ok (.aload_n 0, 1) := dr9 dk9_dX9_begin_0_0.2.1 0 (104, .aload_n 0, 1) rfl
theorem dX9_begin_105 : decode cX9_begin 105 = .ok (.getfield 26, 3) := dr9 dk9_dX9_begin_0_0.2.1 1 (105, .getfield 26, 3) rfl
theorem dX9_begin_108 : decode cX9_begin 108 = .ok (.aload_n 0, 1) := dr9 dk9_dX9_begin_0_0.2.1 2 (108, .aload_n 0, 1) rfl
theorem dX9_begin_109 : decode cX9_begin 109 = .ok (.getfield 53, 3) := dr9 dk9_dX9_begin_0_0.2.1 3 (109, .getfield 53, 3) rfl
theorem dX9_begin_112 : decode cX9_begin 112 = .ok (.lconst 0, 1) := dr9 dk9_dX9_begin_0_0.2.1 4 (112, .lconst 0, 1) rfl
theorem dX9_begin_113 : decode cX9_begin 113 = .ok (.lastore, 1) := dr9 dk9_dX9_begin_0_0.2.1 5 (113, .lastore, 1) rfl
theorem dX9_begin_114 : decode cX9_begin 114 = .ok (.aload_n 0, 1) := dr9 dk9_dX9_begin_0_0.2.1 6 (114, .aload_n 0, 1) rfl
theorem dX9_begin_115 : decode cX9_begin 115 = .ok (.iconst 0, 1) := dr9 dk9_dX9_begin_0_0.2.1 7 (115, .iconst 0, 1) rfl
theorem dX9_begin_116 : decode cX9_begin 116 = .ok (.putfield 59, 3) := dr9 dk9_dX9_begin_0_0.2.1 8 (116, .putfield 59, 3) rfl
theorem dX9_begin_119 : decode cX9_begin 119 = .ok (.aload_n 0, 1) := dr9 dk9_dX9_begin_0_0.2.1 9 (119, .aload_n 0, 1) rfl
theorem dX9_begin_120 : decode cX9_begin 120 = .ok (.invokevirtual 62, 3) := dr9 dk9_dX9_begin_0_0.2.1 10 (120, .invokevirtual 62, 3) rfl
theorem dX9_begin_123 : decode cX9_begin 123 = .ok (.return_, 1) := dr9 dk9_dX9_begin_0_0.2.1 11 (123, .return_, 1) rfl
theorem dX9_begin_19 : decode cX9_begin 19 = .ok (.aload_n 0, 1) := dr9 dk9_dX9_begin_0_0.2.1 12 (19, .aload_n 0, 1) rfl
theorem dX9_begin_20 : decode cX9_begin 20 = .ok (.getfield 50, 3) := dr9 dk9_dX9_begin_0_0.2.1 13 (20, .getfield 50, 3) rfl
theorem dX9_begin_23 : decode cX9_begin 23 = .ok (.aload_n 0, 1) := dr9 dk9_dX9_begin_0_0.2.1 14 (23, .aload_n 0, 1) rfl
theorem dX9_begin_24 : decode cX9_begin 24 = .ok (.getfield 47, 3) := dr9 dk9_dX9_begin_0_0.2.1 15 (24, .getfield 47, 3) rfl
theorem dX9_begin_27 : decode cX9_begin 27 = .ok (.if_icmp .ge 54, 3) := dr9 dk9_dX9_begin_0_0.2.1 16 (27, .if_icmp .ge 54, 3) rfl
theorem dX9_begin_30 : decode cX9_begin 30 = .ok (.aload_n 0, 1) := dr9 dk9_dX9_begin_0_0.2.1 17 (30, .aload_n 0, 1) rfl
theorem dX9_begin_31 : decode cX9_begin 31 = .ok (.getfield 9, 3) := dr9 dk9_dX9_begin_0_0.2.1 18 (31, .getfield 9, 3) rfl
theorem dX9_begin_34 : decode cX9_begin 34 = .ok (.aload_n 0, 1) := dr9 dk9_dX9_begin_0_0.2.1 19 (34, .aload_n 0, 1) rfl
theorem dX9_begin_35 : decode cX9_begin 35 = .ok (.getfield 50, 3) := dr9 dk9_dX9_begin_0_0.2.1 20 (35, .getfield 50, 3) rfl
theorem dX9_begin_38 : decode cX9_begin 38 = .ok (.baload, 1) := dr9 dk9_dX9_begin_0_0.2.1 21 (38, .baload, 1) rfl
theorem dX9_begin_39 : decode cX9_begin 39 = .ok (.bipush 32, 2) := dr9 dk9_dX9_begin_0_0.2.1 22 (39, .bipush 32, 2) rfl
theorem dX9_begin_41 : decode cX9_begin 41 = .ok (.if_icmp .eq 17, 3) := dr9 dk9_dX9_begin_0_0.2.1 23 (41, .if_icmp .eq 17, 3) rfl
theorem dX9_begin_58 : decode cX9_begin 58 = .ok (.aload_n 0, 1) := dr9 dk9_dX9_begin_0_0.2.2 0 (58, .aload_n 0, 1) rfl
theorem dX9_begin_59 : decode cX9_begin 59 = .ok (.dup, 1) := dr9 dk9_dX9_begin_0_0.2.2 1 (59, .dup, 1) rfl
theorem dX9_begin_60 : decode cX9_begin 60 = .ok (.getfield 50, 3) := dr9 dk9_dX9_begin_0_0.2.2 2 (60, .getfield 50, 3) rfl
theorem dX9_begin_63 : decode cX9_begin 63 = .ok (.iconst 1, 1) := dr9 dk9_dX9_begin_0_0.2.2 3 (63, .iconst 1, 1) rfl
theorem dX9_begin_64 : decode cX9_begin 64 = .ok (.iadd, 1) := dr9 dk9_dX9_begin_0_0.2.2 4 (64, .iadd, 1) rfl
theorem dX9_begin_65 : decode cX9_begin 65 = .ok (.putfield 50, 3) := dr9 dk9_dX9_begin_0_0.2.2 5 (65, .putfield 50, 3) rfl
theorem dX9_begin_68 : decode cX9_begin 68 = .ok (.goto 7, 3) := dr9 dk9_dX9_begin_0_0.2.2 6 (68, .goto 7, 3) rfl
theorem dX9_begin_75 : decode cX9_begin 75 = .ok (.iinc 1 1, 3) := dr9 dk9_dX9_begin_0_0.2.2 7 (75, .iinc 1 1, 3) rfl
theorem dX9_begin_78 : decode cX9_begin 78 = .ok (.goto (-66), 3) := dr9 dk9_dX9_begin_0_0.2.2 8 (78, .goto (-66), 3) rfl
theorem dX9_begin_44 : decode cX9_begin 44 = .ok (.aload_n 0, 1) := dr9 dk9_dX9_begin_0_0.2.2 9 (44, .aload_n 0, 1) rfl
theorem dX9_begin_45 : decode cX9_begin 45 = .ok (.getfield 9, 3) := dr9 dk9_dX9_begin_0_0.2.2 10 (45, .getfield 9, 3) rfl
theorem dX9_begin_48 : decode cX9_begin 48 = .ok (.aload_n 0, 1) := dr9 dk9_dX9_begin_0_0.2.2 11 (48, .aload_n 0, 1) rfl
theorem dX9_begin_49 : decode cX9_begin 49 = .ok (.getfield 50, 3) := dr9 dk9_dX9_begin_0_0.2.2 12 (49, .getfield 50, 3) rfl
theorem dX9_begin_52 : decode cX9_begin 52 = .ok (.baload, 1) := dr9 dk9_dX9_begin_0_0.2.2 13 (52, .baload, 1) rfl
theorem dX9_begin_53 : decode cX9_begin 53 = .ok (.bipush 10, 2) := dr9 dk9_dX9_begin_0_0.2.2 14 (53, .bipush 10, 2) rfl
theorem dX9_begin_55 : decode cX9_begin 55 = .ok (.if_icmp .ne 16, 3) := dr9 dk9_dX9_begin_0_0.2.2 15 (55, .if_icmp .ne 16, 3) rfl
theorem dX9_begin_71 : decode cX9_begin 71 = .ok (.aload_n 0, 1) := dr9 dk9_dX9_begin_0_0.2.2 16 (71, .aload_n 0, 1) rfl
theorem dX9_begin_72 : decode cX9_begin 72 = .ok (.invokevirtual 56, 3) := dr9 dk9_dX9_begin_0_0.2.2 17 (72, .invokevirtual 56, 3) rfl
abbrev r_x_cutWord : Room := { frames := 2, cells := 0, slots := 0, locals := 40 }
abbrev q_x_cutWord (D : va_G) (ks : KS) (ad : Nat → Nat) (kk : Nat → ClassId) (V : Vf) (L : Lf) (Z : XZ) (A : Nat → Prop) : Array Value → State → Outcome → State → Prop := va_Qv (fun (u : Vf × Lf) => rgd bX u.1 ∧ agr [(6, 6)] [12, 14] V u.1 ∧ agL [14] L u.2 ∧ ((u.1 6 6).toInt ≤ (V 6 5).toInt)) (fun u t => gq D A (xw ad kk u.1 u.2 Z) (xty kk Z) t) A
set_option maxHeartbeats 4000000 in
set_option maxRecDepth 100000 in
theorem x_cutWord (l : Launch) (D : va_G) (ks : KS) (sz : Nat) (ad : Nat → Nat) (kk : Nat → ClassId) (V : Vf) (L : Lf) (Z : XZ)  (hMV : rgd bX V) (y1 : (V 6 6).toInt ≤ (V 6 5).toInt) (y2 : (V 6 7).toInt ≤ 3999)  : Met l yX9_cutWord (Cond.code yX9_cutWord cX9_cutWord 4 none :: GW) r_x_cutWord (va_Pc [.ref (ad 6)] (gp D ks (xw ad kk V L Z) (xty kk Z) sz)) (q_x_cutWord D ks ad kk V L Z  (va_A (xw ad kk V L Z) sz)) 0 0 (va_A (xw ad kk V L Z) sz) := by
  refine g_met (q_x_cutWord D ks ad kk V L Z) (by decide) (Nat.le_of_ble_eq_true rfl) ?_
  intro p e s m below meth c A ls H locs hx hb hr hml hown hg hlocks hin hnw hgk hP hK hD hS hA hl
  have hown : s.vm.findClass RX9 = some m.cls := hown
  have hl : lv_has ls 4 [(0, .ref (ad 6))] := hl
  have hP : va_P D vwCl (xw ad kk V L Z) H := hP
  have hD : va_D A (xw ad kk V L Z) := hD
  have hK : va_K D vwCl (xty kk Z) s := hK
  have agV : agr [(6, 6)] [12, 14] V V := agr.rf
  have alL : agL [14] L L := agL.rf
  have r1 : 0 ≤ ((V 6 5)).toInt ∧ ((V 6 5)).toInt ≤ 4000 := hMV 6 5
  have r2 : 0 ≤ ((V 6 6)).toInt ∧ ((V 6 6)).toInt ≤ 4000 := hMV 6 6
  have r3 : 0 ≤ ((V 6 7)).toInt ∧ ((V 6 7)).toInt ≤ 4000 := hMV 6 7
  refine lv_iconst (v := 0) hx hb dX9_cutWord_0 (by decide) ?_
  refine lv_istore_n (lv' := [(1, .int 0), (0, .ref (ad 6))]) hx hb dX9_cutWord_1 rfl hl (by decide) rfl (fun ls hl => ?_)
  refine lv_lconst (v := 0) hx hb dX9_cutWord_2 (by decide) ?_
  refine lv_lstore_n (lv' := [(2, .long 0), (1, .int 0), (0, .ref (ad 6))]) hx hb dX9_cutWord_3 rfl hl (by decide) rfl (fun ls hl => ?_)
  have lp7 : ∀ (fulp7 : Nat) (y4 : Int64) (y5 : Int32) (V6 : Vf) (H : Heap) (locs : List Loc) (ls : Array Slot), 0 ≤ y5.toInt ∧ y5.toInt ≤ 4000 → (V6 6 6).toInt ≤ (V6 6 5).toInt → (V 6 6).toInt + y5.toInt = (V6 6 6).toInt → (V6 6 5).toInt - (V6 6 6).toInt < (fulp7 : Int) → agr [(6, 6)] [] V V6 → rgd bX V6 → va_P D vwCl (xw ad kk V6 L Z) H → va_D A (xw ad kk V6 L Z) → va_S A s.heap H locs → lv_has ls 4 [(2, .long y4), (1, .int y5), (0, .ref (ad 6))] → W p l e r_x_cutWord s m ([.ref (ad 6)] : List Value).toArray below meth c H locs 0 0 (MQ below (q_x_cutWord D ks ad kk V L Z  A) ([.ref (ad 6)] : List Value).toArray s 0 0 A) (F0 m 4 ls []) := by
    intro fulp7
    induction fulp7 with
    | zero =>
      intro y4 y5 V6 H locs ls klp7_0 xlp7_0 xlp7_1 hn ajV6 hMV6 hP hD hS hl
      exfalso; (first | exact om_4634b1278845 xlp7_0 hn | omega)
    | succ fulp7 ihlp7 =>
      intro y4 y5 V6 H locs ls klp7_0 xlp7_0 xlp7_1 hn ajV6 hMV6 hP hD hS hl
      have agV6 : agr [(6, 6)] [12, 14] V V6 := agV.tr ajV6 (by decide) (by decide)
      have pq8 : (V6 6 5).toInt = ((V 6 5)).toInt := congrArg Int32.toInt (ajV6 6 5 rfl)
      have r9 : 0 ≤ ((V6 6 6)).toInt ∧ ((V6 6 6)).toInt ≤ 4000 := hMV6 6 6
      refine lv_aload_n hx hb dX9_cutWord_4 rfl (lv_at hl 2 rfl) ?_
      refine va_get (D := D) (ci := 9) (v := .int (V6 6 6)) (fs := (xfTape ad V6 L Z)) (C := RX9) (T := TX9) (N := 12) hx hb hg inX9 hown hK hP 6 xgTape rfl 6 (by decide) (hg _ w259) (fun _ h9 => h9) rfl dX9_cutWord_5 ?_
      refine lv_aload_n hx hb dX9_cutWord_8 rfl (lv_at hl 2 rfl) ?_
      refine va_get (D := D) (ci := 9) (v := .int (V6 6 5)) (fs := (xfTape ad V6 L Z)) (C := RX9) (T := TX9) (N := 12) hx hb hg inX9 hown hK hP 6 xgTape rfl 5 (by decide) (hg _ w258) (fun _ h9 => h9) rfl dX9_cutWord_9 ?_
      refine g_top (v := (V 6 5)) (ajV6 6 5 rfl) ?_
      refine lv_icmp_ge (tgt := 91) hx hb dX9_cutWord_12 (by decide) (fun c10 => ?_) (fun c10 => ?_)
      · skip
        have f11 : ((V 6 5)).toInt ≤ ((V6 6 6)).toInt := b_le rfl rfl c10
        refine lv_aload_n hx hb dX9_cutWord_91 rfl (lv_at hl 2 rfl) ?_
        refine va_get (D := D) (ci := 9) (v := .ref (ad 9)) (fs := (xfTape ad V6 L Z)) (C := RX9) (T := TX9) (N := 12) hx hb hg inX9 hown hK hP 6 xgTape rfl 2 (by decide) (hg _ w254) (fun _ h9 => h9) rfl dX9_cutWord_92 ?_
        refine lv_aload_n hx hb dX9_cutWord_95 rfl (lv_at hl 2 rfl) ?_
        refine va_get (D := D) (ci := 9) (v := .int (V6 6 7)) (fs := (xfTape ad V6 L Z)) (C := RX9) (T := TX9) (N := 12) hx hb hg inX9 hown hK hP 6 xgTape rfl 7 (by decide) (hg _ w260) (fun _ h9 => h9) rfl dX9_cutWord_96 ?_
        refine g_top (v := (V 6 7)) (ajV6 6 7 rfl) ?_
        refine lv_iload_n hx hb dX9_cutWord_99 rfl (lv_at hl 1 rfl) ?_
        refine lv_bipush (v := 12) hx hb dX9_cutWord_100 (by decide) ?_
        refine lv_icmp_le (tgt := 109) hx hb dX9_cutWord_102 (by decide) (fun c12 => ?_) (fun c12 => ?_)
        · skip
          have f13 : y5.toInt ≤ 12 := b_le rfl (by decide) c12
          refine lv_aload_n hx hb dX9_cutWord_109 rfl (lv_at hl 2 rfl) ?_
          refine lv_lload_n hx hb dX9_cutWord_110 rfl (lv_at hl 0 rfl) ?_
          refine gA_int (gA_runV (As := [.long y4]) (rest := [.int (V 6 7), .ref (ad 9)]) (ci := 9) (q0 := 6) hx hb hml hown hg hP hD hK hS hA hnw hgk (x_kindOf l D ks H.size ad kk V6 L Z y4 hMV6 ) w787 w789 w3 w157 w790 rfl xgTape hdV_yX9_kindOf ⟨Nat.le_of_ble_eq_true rfl, Nat.le_of_ble_eq_true rfl⟩ rfl hl.1 rfl (Nat.le_of_ble_eq_true rfl) dX9_cutWord_111 ⟨Nat.le_of_ble_eq_true rfl, Nat.le_of_ble_eq_true rfl⟩) hP hD hK hS hA (fun z14 u15 H locs w16 hP hD hK hS => ?_)
          refine va_iast (D := D) (i := (V 6 7)) (x := z14) hx hb hK hP hD hS 9 2 rfl rfl (i_in (a := ((V 6 7)).toInt) rfl (by (first | exact om_1452076f4170 y2 r3.1 | omega))) dX9_cutWord_114 (fun H locs hP hD hS => ?_)
          obtain ⟨V17, hV17⟩ : ∃ z, z = up2 V6 12 (Int32.toNatClampNeg (V 6 7)) z14 := ⟨_, rfl⟩
          have ew18 : (xw ad kk V6 L Z).set 9 ((ad 9), .inl ((kk 9), 4001, .inl (upd (V6 12) (Int32.toNatClampNeg (V 6 7)) z14))) = xw ad kk V17 L Z := by rw [hV17]; exact xw_ss (by decide) rfl (xb_si (by decide))
          have hP : va_P D vwCl (xw ad kk V17 L Z) H := by rw [← ew18]; exact hP
          have hD : va_D A (xw ad kk V17 L Z) := by rw [← ew18]; exact hD
          have hMV17 : rgd bX V17 := hMV6.put hV17 (i_full _)
          have agV17 : agr [(6, 6)] [12, 14] V V17 := agV6.up hV17 rfl
          refine lv_aload_n hx hb dX9_cutWord_115 rfl (lv_at hl 2 rfl) ?_
          refine va_get (D := D) (ci := 9) (v := .ref (ad 11)) (fs := (xfTape ad V17 L Z)) (C := RX9) (T := TX9) (N := 12) hx hb hg inX9 hown hK hP 6 xgTape rfl 4 (by decide) (hg _ w256) (fun _ h9 => h9) rfl dX9_cutWord_116 ?_
          refine lv_aload_n hx hb dX9_cutWord_119 rfl (lv_at hl 2 rfl) ?_
          refine va_get (D := D) (ci := 9) (v := .int (V17 6 7)) (fs := (xfTape ad V17 L Z)) (C := RX9) (T := TX9) (N := 12) hx hb hg inX9 hown hK hP 6 xgTape rfl 7 (by decide) (hg _ w260) (fun _ h9 => h9) rfl dX9_cutWord_120 ?_
          refine g_top (v := (V 6 7)) ((up2_o hV17 (by decide)).trans (ajV6 6 7 rfl)) ?_
          refine lv_lload_n hx hb dX9_cutWord_123 rfl (lv_at hl 0 rfl) ?_
          refine va_last (D := D) (i := (V 6 7)) (x := y4) hx hb hK hP hD hS 11 4 rfl rfl (i_in (a := ((V 6 7)).toInt) rfl (by (first | exact om_1452076f4170 y2 r3.1 | omega))) dX9_cutWord_124 (fun H locs hP hD hS => ?_)
          obtain ⟨L19, hL19⟩ : ∃ z, z = upL L 14 (Int32.toNatClampNeg (V 6 7)) y4 := ⟨_, rfl⟩
          have ew20 : (xw ad kk V17 L Z).set 11 ((ad 11), .inl ((kk 11), 4001, .inr (.inl (vp_updL (L 14) (Int32.toNatClampNeg (V 6 7)) y4)))) = xw ad kk V17 L19 Z := by rw [hL19]; exact xw_ss (by decide) rfl (fun j => xe_L (fun a => absurd a.1 (by decide)))
          have hP : va_P D vwCl (xw ad kk V17 L19 Z) H := by rw [← ew20]; exact hP
          have hD : va_D A (xw ad kk V17 L19 Z) := by rw [← ew20]; exact hD
          have alL19 : agL [14] L L19 := agL.up alL hL19 rfl
          have pq21 : (V17 6 6).toInt = ((V6 6 6)).toInt := congrArg Int32.toInt (up2_o hV17 (by decide))
          have pq22 : (V17 6 5).toInt = ((V 6 5)).toInt := congrArg Int32.toInt ((up2_o hV17 (by decide)).trans (ajV6 6 5 rfl))
          exact W.vret hx hb hr (fun t ht hW => ⟨⟨(V17, L19), rfl, ⟨hMV17, agV17, alL19, (show (V17 6 6).toInt ≤ (V 6 5).toInt from by (first | exact om_35d7f5d544b6 xlp7_0 pq8 pq21 | omega))⟩, by rw [ht]; exact hP, va_K.moved hW.alike hK, hD⟩, hS.F ht⟩) hS.2.2 dX9_cutWord_125
        · skip
          have f23 : 12 < y5.toInt := b_nle rfl (by decide) c12
          refine lv_iconst (v := 1) hx hb dX9_cutWord_105 (by decide) ?_
          refine lv_goto (tgt := 114) hx hb dX9_cutWord_106 (by decide) ?_
          refine va_iast (D := D) (i := (V 6 7)) (x := 1) hx hb hK hP hD hS 9 2 rfl rfl (i_in (a := ((V 6 7)).toInt) rfl (by (first | exact om_1452076f4170 y2 r3.1 | omega))) dX9_cutWord_114 (fun H locs hP hD hS => ?_)
          obtain ⟨V24, hV24⟩ : ∃ z, z = up2 V6 12 (Int32.toNatClampNeg (V 6 7)) 1 := ⟨_, rfl⟩
          have ew25 : (xw ad kk V6 L Z).set 9 ((ad 9), .inl ((kk 9), 4001, .inl (upd (V6 12) (Int32.toNatClampNeg (V 6 7)) 1))) = xw ad kk V24 L Z := by rw [hV24]; exact xw_ss (by decide) rfl (xb_si (by decide))
          have hP : va_P D vwCl (xw ad kk V24 L Z) H := by rw [← ew25]; exact hP
          have hD : va_D A (xw ad kk V24 L Z) := by rw [← ew25]; exact hD
          have hMV24 : rgd bX V24 := hMV6.put hV24 (i_full _)
          have agV24 : agr [(6, 6)] [12, 14] V V24 := agV6.up hV24 rfl
          refine lv_aload_n hx hb dX9_cutWord_115 rfl (lv_at hl 2 rfl) ?_
          refine va_get (D := D) (ci := 9) (v := .ref (ad 11)) (fs := (xfTape ad V24 L Z)) (C := RX9) (T := TX9) (N := 12) hx hb hg inX9 hown hK hP 6 xgTape rfl 4 (by decide) (hg _ w256) (fun _ h9 => h9) rfl dX9_cutWord_116 ?_
          refine lv_aload_n hx hb dX9_cutWord_119 rfl (lv_at hl 2 rfl) ?_
          refine va_get (D := D) (ci := 9) (v := .int (V24 6 7)) (fs := (xfTape ad V24 L Z)) (C := RX9) (T := TX9) (N := 12) hx hb hg inX9 hown hK hP 6 xgTape rfl 7 (by decide) (hg _ w260) (fun _ h9 => h9) rfl dX9_cutWord_120 ?_
          refine g_top (v := (V 6 7)) ((up2_o hV24 (by decide)).trans (ajV6 6 7 rfl)) ?_
          refine lv_lload_n hx hb dX9_cutWord_123 rfl (lv_at hl 0 rfl) ?_
          refine va_last (D := D) (i := (V 6 7)) (x := y4) hx hb hK hP hD hS 11 4 rfl rfl (i_in (a := ((V 6 7)).toInt) rfl (by (first | exact om_1452076f4170 y2 r3.1 | omega))) dX9_cutWord_124 (fun H locs hP hD hS => ?_)
          obtain ⟨L26, hL26⟩ : ∃ z, z = upL L 14 (Int32.toNatClampNeg (V 6 7)) y4 := ⟨_, rfl⟩
          have ew27 : (xw ad kk V24 L Z).set 11 ((ad 11), .inl ((kk 11), 4001, .inr (.inl (vp_updL (L 14) (Int32.toNatClampNeg (V 6 7)) y4)))) = xw ad kk V24 L26 Z := by rw [hL26]; exact xw_ss (by decide) rfl (fun j => xe_L (fun a => absurd a.1 (by decide)))
          have hP : va_P D vwCl (xw ad kk V24 L26 Z) H := by rw [← ew27]; exact hP
          have hD : va_D A (xw ad kk V24 L26 Z) := by rw [← ew27]; exact hD
          have alL26 : agL [14] L L26 := agL.up alL hL26 rfl
          have pq28 : (V24 6 6).toInt = ((V6 6 6)).toInt := congrArg Int32.toInt (up2_o hV24 (by decide))
          have pq29 : (V24 6 5).toInt = ((V 6 5)).toInt := congrArg Int32.toInt ((up2_o hV24 (by decide)).trans (ajV6 6 5 rfl))
          exact W.vret hx hb hr (fun t ht hW => ⟨⟨(V24, L26), rfl, ⟨hMV24, agV24, alL26, (show (V24 6 6).toInt ≤ (V 6 5).toInt from by (first | exact om_35d7f5d544b6 xlp7_0 pq8 pq28 | omega))⟩, by rw [ht]; exact hP, va_K.moved hW.alike hK, hD⟩, hS.F ht⟩) hS.2.2 dX9_cutWord_125
      · skip
        have f30 : ((V6 6 6)).toInt < ((V 6 5)).toInt := b_nle rfl rfl c10
        refine lv_aload_n hx hb dX9_cutWord_15 rfl (lv_at hl 2 rfl) ?_
        refine va_get (D := D) (ci := 9) (v := .ref (ad 7)) (fs := (xfTape ad V6 L Z)) (C := RX9) (T := TX9) (N := 12) hx hb hg inX9 hown hK hP 6 xgTape rfl 0 (by decide) (hg _ w252) (fun _ h9 => h9) rfl dX9_cutWord_16 ?_
        refine lv_aload_n hx hb dX9_cutWord_19 rfl (lv_at hl 2 rfl) ?_
        refine va_get (D := D) (ci := 9) (v := .int (V6 6 6)) (fs := (xfTape ad V6 L Z)) (C := RX9) (T := TX9) (N := 12) hx hb hg inX9 hown hK hP 6 xgTape rfl 6 (by decide) (hg _ w259) (fun _ h9 => h9) rfl dX9_cutWord_20 ?_
        refine va_bald (D := D) (i := (V6 6 6)) hx hb hK hP 7 0 rfl rfl (i_in (a := ((V6 6 6)).toInt) rfl (by (first | exact om_fe2d53c3c384 r1.2 r2.1 klp7_0.1 xlp7_1 f30 | omega))) dX9_cutWord_23 ?_
        refine g_top (v := (V 10 (Int32.toNatClampNeg (V6 6 6)))) (ajV6 10 (Int32.toNatClampNeg (V6 6 6)) rfl) ?_
        refine gE_int (g_runS (As := [.int (V 10 (Int32.toNatClampNeg (V6 6 6)))]) (rest := []) (wc := []) (tc := []) hx hb hml hown hg gw_self hP hD hK hS hA hnw hgk [] [] (by decide) rfl rfl (x_isLetter l D ks H.size (V 10 (Int32.toNatClampNeg (V6 6 6))) ) w780 w781 w157 w782 hdS_yX9_isLetter ⟨Nat.le_of_ble_eq_true rfl, Nat.le_of_ble_eq_true rfl⟩ rfl hl.1 rfl (Nat.le_of_ble_eq_true rfl) dX9_cutWord_24 ⟨Nat.le_of_ble_eq_true rfl, Nat.le_of_ble_eq_true rfl⟩) hP hD hK hS hA (fun z31 u32 H locs w33 hP hD hK hS => ?_)
        have rgz31 := w33
        have rgz31 : 0 ≤ z31.toInt ∧ z31.toInt ≤ 1 := rgz31
        refine lv_if_ne (tgt := 45) hx hb dX9_cutWord_27 (by decide) (fun c34 => ?_) (fun c34 => ?_)
        · skip
          have f35 : z31.toInt ≠ 0 := b_neq rfl (by decide) c34
          refine lv_iload_n hx hb dX9_cutWord_45 rfl (lv_at hl 1 rfl) ?_
          refine lv_bipush (v := 12) hx hb dX9_cutWord_46 (by decide) ?_
          refine lv_icmp_ge (tgt := 73) hx hb dX9_cutWord_48 (by decide) (fun c36 => ?_) (fun c36 => ?_)
          · skip
            have f37 : 12 ≤ y5.toInt := b_le (by decide) rfl c36
            refine lv_lconst (v := 0) hx hb dX9_cutWord_73 (by decide) ?_
            refine lv_lstore_n (lv' := [(2, .long 0), (1, .int y5), (0, .ref (ad 6))]) hx hb dX9_cutWord_74 rfl hl (by decide) rfl (fun ls hl => ?_)
            obtain ⟨z38, ez38⟩ : ∃ y : Int32, y = y5 + 1 := ⟨_, rfl⟩
            have hz38 : z38.toInt = y5.toInt + 1 := i_add ez38 rfl (by decide) (by (first | exact om_89fadfb637be r1.2 r2.1 xlp7_1 f30 f37 | omega))
            refine lv_iinc (v := z38) (lv' := [(1, .int z38), (2, .long 0), (0, .ref (ad 6))]) hx hb dX9_cutWord_75 hl (k := 1) rfl (by rw [ez38]; rfl) (by decide) rfl (fun ls hl => ?_)
            refine lv_aload_n hx hb dX9_cutWord_78 rfl (lv_at hl 2 rfl) ?_
            refine lv_dup hx hb dX9_cutWord_79 rfl ?_
            refine va_get (D := D) (ci := 9) (v := .int (V6 6 6)) (fs := (xfTape ad V6 L Z)) (C := RX9) (T := TX9) (N := 12) hx hb hg inX9 hown hK hP 6 xgTape rfl 6 (by decide) (hg _ w259) (fun _ h9 => h9) rfl dX9_cutWord_80 ?_
            refine lv_iconst (v := 1) hx hb dX9_cutWord_83 (by decide) ?_
            refine lv_iadd hx hb dX9_cutWord_84 ?_
            refine lv_topi (fun z39 ez39 => ?_)
            have hz39 : z39.toInt = ((V6 6 6)).toInt + 1 := i_add ez39 rfl (by decide) (by (first | exact om_5c2f98f06f05 r1.2 r2.1 xlp7_1 f30 f37 | omega))
            refine va_put (D := D) (ci := 9) (v := .int z39) (ty := tyX9 6) (fs := (xfTape ad V6 L Z)) (C := RX9) (T := TX9) (N := 12) hx hb hg inX9 tyX9 tyX9_ok nmX9 hown hK hP hD hS 6 xgTape rfl 6 (by decide) (hg _ w259) (fun _ h9 => h9) rfl (tyX9_ok 6 (by decide)) rfl rfl (Nat.le_of_ble_eq_true rfl) dX9_cutWord_85 (fun H locs hP hD hS => ?_)
            obtain ⟨V40, hV40⟩ : ∃ z, z = up2 V6 6 6 z39 := ⟨_, rfl⟩
            have ew41 : (xw ad kk V6 L Z).set 6 ((ad 6), .inr (9, (xfTape ad V6 L Z).set 6 (.int z39))) = xw ad kk V40 L Z := by rw [hV40]; exact xw_ss (by decide) rfl (xb_si (by decide))
            have hP : va_P D vwCl (xw ad kk V40 L Z) H := by rw [← ew41]; exact hP
            have hD : va_D A (xw ad kk V40 L Z) := by rw [← ew41]; exact hD
            have hMV40 : rgd bX V40 := hMV6.put hV40 (show 0 ≤ z39.toInt ∧ z39.toInt ≤ 4000 from by (first | exact om_a97166e33c63 r1.2 r2.1 xlp7_1 f30 f37 hz39 | omega))
            have agV40 : agr [(6, 6)] [12, 14] V V40 := agV6.up hV40 rfl
            refine lv_goto (tgt := 4) hx hb dX9_cutWord_88 (by decide) ?_
            have pq42 : (V40 6 5).toInt = ((V 6 5)).toInt := congrArg Int32.toInt ((up2_k hV40 (by decide)).trans (ajV6 6 5 rfl))
            have pq43 : (V40 6 6).toInt = z39.toInt := congrArg Int32.toInt (up2_s hV40)
            exact ihlp7 0 z38 V40 H locs ls (by (first | exact om_177415788ef3 r1.2 r2.1 xlp7_1 f30 f37 hz38 | omega)) (show (V40 6 6).toInt ≤ (V40 6 5).toInt from by (first | exact om_1257dc0753d6 f30 hz39 pq42 pq43 | omega)) (show (V 6 6).toInt + z38.toInt = (V40 6 6).toInt from by (first | exact om_662a1892167c xlp7_1 hz38 hz39 pq43 | omega)) (by (first | exact om_91b464413286 hn pq8 hz39 pq42 pq43 | omega)) (agr.up (agr.tr agr.rf ajV6 (by decide) (by decide)) hV40 rfl) hMV40 hP hD hS (lv_sub hl [1, 0, 2] rfl)
          · skip
            have f44 : y5.toInt < 12 := b_nle (by decide) rfl c36
            refine lv_lload_n hx hb dX9_cutWord_51 rfl (lv_at hl 0 rfl) ?_
            refine lv_ldc2 (v := 37) hx hb hown (hg _ w245) dX9_cutWord_52 ?_
            refine lv_lmul hx hb dX9_cutWord_55 ?_
            refine lv_topl (fun w45 ew45 => ?_)
            refine lv_aload_n hx hb dX9_cutWord_56 rfl (lv_at hl 2 rfl) ?_
            refine va_get (D := D) (ci := 9) (v := .ref (ad 7)) (fs := (xfTape ad V6 L Z)) (C := RX9) (T := TX9) (N := 12) hx hb hg inX9 hown hK hP 6 xgTape rfl 0 (by decide) (hg _ w252) (fun _ h9 => h9) rfl dX9_cutWord_57 ?_
            refine lv_aload_n hx hb dX9_cutWord_60 rfl (lv_at hl 2 rfl) ?_
            refine va_get (D := D) (ci := 9) (v := .int (V6 6 6)) (fs := (xfTape ad V6 L Z)) (C := RX9) (T := TX9) (N := 12) hx hb hg inX9 hown hK hP 6 xgTape rfl 6 (by decide) (hg _ w259) (fun _ h9 => h9) rfl dX9_cutWord_61 ?_
            refine va_bald (D := D) (i := (V6 6 6)) hx hb hK hP 7 0 rfl rfl (i_in (a := ((V6 6 6)).toInt) rfl (by (first | exact om_fe2d53c3c384 r1.2 r2.1 klp7_0.1 xlp7_1 f30 | omega))) dX9_cutWord_64 ?_
            refine g_top (v := (V 10 (Int32.toNatClampNeg (V6 6 6)))) (ajV6 10 (Int32.toNatClampNeg (V6 6 6)) rfl) ?_
            refine gE_int (g_runS (As := [.int (V 10 (Int32.toNatClampNeg (V6 6 6)))]) (rest := [.long w45]) (wc := []) (tc := []) hx hb hml hown hg gw_self hP hD hK hS hA hnw hgk [] [] (by decide) rfl rfl (x_codeOf l D ks H.size (V 10 (Int32.toNatClampNeg (V6 6 6))) ) w246 w247 w157 w248 hdS_yX9_codeOf ⟨Nat.le_of_ble_eq_true rfl, Nat.le_of_ble_eq_true rfl⟩ rfl hl.1 rfl (Nat.le_of_ble_eq_true rfl) dX9_cutWord_65 ⟨Nat.le_of_ble_eq_true rfl, Nat.le_of_ble_eq_true rfl⟩) hP hD hK hS hA (fun z46 u47 H locs w48 hP hD hK hS => ?_)
            refine lv_i2l hx hb dX9_cutWord_68 rfl ?_
            refine lv_topl (fun w49 ew49 => ?_)
            refine lv_ladd hx hb dX9_cutWord_69 ?_
            refine lv_topl (fun w50 ew50 => ?_)
            refine lv_goto (tgt := 74) hx hb dX9_cutWord_70 (by decide) ?_
            refine lv_lstore_n (lv' := [(2, .long w50), (1, .int y5), (0, .ref (ad 6))]) hx hb dX9_cutWord_74 rfl hl (by decide) rfl (fun ls hl => ?_)
            obtain ⟨z51, ez51⟩ : ∃ y : Int32, y = y5 + 1 := ⟨_, rfl⟩
            have hz51 : z51.toInt = y5.toInt + 1 := i_add ez51 rfl (by decide) (by (first | exact om_4464765f026c klp7_0.1 f44 | omega))
            refine lv_iinc (v := z51) (lv' := [(1, .int z51), (2, .long w50), (0, .ref (ad 6))]) hx hb dX9_cutWord_75 hl (k := 1) rfl (by rw [ez51]; rfl) (by decide) rfl (fun ls hl => ?_)
            refine lv_aload_n hx hb dX9_cutWord_78 rfl (lv_at hl 2 rfl) ?_
            refine lv_dup hx hb dX9_cutWord_79 rfl ?_
            refine va_get (D := D) (ci := 9) (v := .int (V6 6 6)) (fs := (xfTape ad V6 L Z)) (C := RX9) (T := TX9) (N := 12) hx hb hg inX9 hown hK hP 6 xgTape rfl 6 (by decide) (hg _ w259) (fun _ h9 => h9) rfl dX9_cutWord_80 ?_
            refine lv_iconst (v := 1) hx hb dX9_cutWord_83 (by decide) ?_
            refine lv_iadd hx hb dX9_cutWord_84 ?_
            refine lv_topi (fun z52 ez52 => ?_)
            have hz52 : z52.toInt = ((V6 6 6)).toInt + 1 := i_add ez52 rfl (by decide) (by (first | exact om_41955fcb6566 r1.2 r2.1 klp7_0.1 xlp7_1 f30 | omega))
            refine va_put (D := D) (ci := 9) (v := .int z52) (ty := tyX9 6) (fs := (xfTape ad V6 L Z)) (C := RX9) (T := TX9) (N := 12) hx hb hg inX9 tyX9 tyX9_ok nmX9 hown hK hP hD hS 6 xgTape rfl 6 (by decide) (hg _ w259) (fun _ h9 => h9) rfl (tyX9_ok 6 (by decide)) rfl rfl (Nat.le_of_ble_eq_true rfl) dX9_cutWord_85 (fun H locs hP hD hS => ?_)
            obtain ⟨V53, hV53⟩ : ∃ z, z = up2 V6 6 6 z52 := ⟨_, rfl⟩
            have ew54 : (xw ad kk V6 L Z).set 6 ((ad 6), .inr (9, (xfTape ad V6 L Z).set 6 (.int z52))) = xw ad kk V53 L Z := by rw [hV53]; exact xw_ss (by decide) rfl (xb_si (by decide))
            have hP : va_P D vwCl (xw ad kk V53 L Z) H := by rw [← ew54]; exact hP
            have hD : va_D A (xw ad kk V53 L Z) := by rw [← ew54]; exact hD
            have hMV53 : rgd bX V53 := hMV6.put hV53 (show 0 ≤ z52.toInt ∧ z52.toInt ≤ 4000 from by (first | exact om_5bd73bff3568 r1.2 r2.1 klp7_0.1 xlp7_1 f30 hz52 | omega))
            have agV53 : agr [(6, 6)] [12, 14] V V53 := agV6.up hV53 rfl
            refine lv_goto (tgt := 4) hx hb dX9_cutWord_88 (by decide) ?_
            have pq55 : (V53 6 5).toInt = ((V 6 5)).toInt := congrArg Int32.toInt ((up2_k hV53 (by decide)).trans (ajV6 6 5 rfl))
            have pq56 : (V53 6 6).toInt = z52.toInt := congrArg Int32.toInt (up2_s hV53)
            exact ihlp7 w50 z51 V53 H locs ls (by (first | exact om_b8f281e63d9c klp7_0.1 f44 hz51 | omega)) (show (V53 6 6).toInt ≤ (V53 6 5).toInt from by (first | exact om_1257dc0753d6 f30 hz52 pq55 pq56 | omega)) (show (V 6 6).toInt + z51.toInt = (V53 6 6).toInt from by (first | exact om_662a1892167c xlp7_1 hz51 hz52 pq56 | omega)) (by (first | exact om_91b464413286 hn pq8 hz52 pq55 pq56 | omega)) (agr.up (agr.tr agr.rf ajV6 (by decide) (by decide)) hV53 rfl) hMV53 hP hD hS (lv_sub hl [1, 0, 2] rfl)
        · skip
          have f57 : z31.toInt = 0 := b_eq rfl (by decide) c34
          refine lv_aload_n hx hb dX9_cutWord_30 rfl (lv_at hl 2 rfl) ?_
          refine va_get (D := D) (ci := 9) (v := .ref (ad 7)) (fs := (xfTape ad V6 L Z)) (C := RX9) (T := TX9) (N := 12) hx hb hg inX9 hown hK hP 6 xgTape rfl 0 (by decide) (hg _ w252) (fun _ h9 => h9) rfl dX9_cutWord_31 ?_
          refine lv_aload_n hx hb dX9_cutWord_34 rfl (lv_at hl 2 rfl) ?_
          refine va_get (D := D) (ci := 9) (v := .int (V6 6 6)) (fs := (xfTape ad V6 L Z)) (C := RX9) (T := TX9) (N := 12) hx hb hg inX9 hown hK hP 6 xgTape rfl 6 (by decide) (hg _ w259) (fun _ h9 => h9) rfl dX9_cutWord_35 ?_
          refine va_bald (D := D) (i := (V6 6 6)) hx hb hK hP 7 0 rfl rfl (i_in (a := ((V6 6 6)).toInt) rfl (by (first | exact om_fe2d53c3c384 r1.2 r2.1 klp7_0.1 xlp7_1 f30 | omega))) dX9_cutWord_38 ?_
          refine g_top (v := (V 10 (Int32.toNatClampNeg (V6 6 6)))) (ajV6 10 (Int32.toNatClampNeg (V6 6 6)) rfl) ?_
          refine gE_int (g_runS (As := [.int (V 10 (Int32.toNatClampNeg (V6 6 6)))]) (rest := []) (wc := []) (tc := []) hx hb hml hown hg gw_self hP hD hK hS hA hnw hgk [] [] (by decide) rfl rfl (x_isDigit l D ks H.size (V 10 (Int32.toNatClampNeg (V6 6 6))) ) w249 w250 w157 w251 hdS_yX9_isDigit ⟨Nat.le_of_ble_eq_true rfl, Nat.le_of_ble_eq_true rfl⟩ rfl hl.1 rfl (Nat.le_of_ble_eq_true rfl) dX9_cutWord_39 ⟨Nat.le_of_ble_eq_true rfl, Nat.le_of_ble_eq_true rfl⟩) hP hD hK hS hA (fun z58 u59 H locs w60 hP hD hK hS => ?_)
          have rgz58 := w60
          have rgz58 : 0 ≤ z58.toInt ∧ z58.toInt ≤ 1 := rgz58
          refine lv_if_eq (tgt := 91) hx hb dX9_cutWord_42 (by decide) (fun c61 => ?_) (fun c61 => ?_)
          · skip
            have f62 : z58.toInt = 0 := b_eq rfl (by decide) c61
            refine lv_aload_n hx hb dX9_cutWord_91 rfl (lv_at hl 2 rfl) ?_
            refine va_get (D := D) (ci := 9) (v := .ref (ad 9)) (fs := (xfTape ad V6 L Z)) (C := RX9) (T := TX9) (N := 12) hx hb hg inX9 hown hK hP 6 xgTape rfl 2 (by decide) (hg _ w254) (fun _ h9 => h9) rfl dX9_cutWord_92 ?_
            refine lv_aload_n hx hb dX9_cutWord_95 rfl (lv_at hl 2 rfl) ?_
            refine va_get (D := D) (ci := 9) (v := .int (V6 6 7)) (fs := (xfTape ad V6 L Z)) (C := RX9) (T := TX9) (N := 12) hx hb hg inX9 hown hK hP 6 xgTape rfl 7 (by decide) (hg _ w260) (fun _ h9 => h9) rfl dX9_cutWord_96 ?_
            refine g_top (v := (V 6 7)) (ajV6 6 7 rfl) ?_
            refine lv_iload_n hx hb dX9_cutWord_99 rfl (lv_at hl 1 rfl) ?_
            refine lv_bipush (v := 12) hx hb dX9_cutWord_100 (by decide) ?_
            refine lv_icmp_le (tgt := 109) hx hb dX9_cutWord_102 (by decide) (fun c63 => ?_) (fun c63 => ?_)
            · skip
              have f64 : y5.toInt ≤ 12 := b_le rfl (by decide) c63
              refine lv_aload_n hx hb dX9_cutWord_109 rfl (lv_at hl 2 rfl) ?_
              refine lv_lload_n hx hb dX9_cutWord_110 rfl (lv_at hl 0 rfl) ?_
              refine gA_int (gA_runV (As := [.long y4]) (rest := [.int (V 6 7), .ref (ad 9)]) (ci := 9) (q0 := 6) hx hb hml hown hg hP hD hK hS hA hnw hgk (x_kindOf l D ks H.size ad kk V6 L Z y4 hMV6 ) w787 w789 w3 w157 w790 rfl xgTape hdV_yX9_kindOf ⟨Nat.le_of_ble_eq_true rfl, Nat.le_of_ble_eq_true rfl⟩ rfl hl.1 rfl (Nat.le_of_ble_eq_true rfl) dX9_cutWord_111 ⟨Nat.le_of_ble_eq_true rfl, Nat.le_of_ble_eq_true rfl⟩) hP hD hK hS hA (fun z65 u66 H locs w67 hP hD hK hS => ?_)
              refine va_iast (D := D) (i := (V 6 7)) (x := z65) hx hb hK hP hD hS 9 2 rfl rfl (i_in (a := ((V 6 7)).toInt) rfl (by (first | exact om_1452076f4170 y2 r3.1 | omega))) dX9_cutWord_114 (fun H locs hP hD hS => ?_)
              obtain ⟨V68, hV68⟩ : ∃ z, z = up2 V6 12 (Int32.toNatClampNeg (V 6 7)) z65 := ⟨_, rfl⟩
              have ew69 : (xw ad kk V6 L Z).set 9 ((ad 9), .inl ((kk 9), 4001, .inl (upd (V6 12) (Int32.toNatClampNeg (V 6 7)) z65))) = xw ad kk V68 L Z := by rw [hV68]; exact xw_ss (by decide) rfl (xb_si (by decide))
              have hP : va_P D vwCl (xw ad kk V68 L Z) H := by rw [← ew69]; exact hP
              have hD : va_D A (xw ad kk V68 L Z) := by rw [← ew69]; exact hD
              have hMV68 : rgd bX V68 := hMV6.put hV68 (i_full _)
              have agV68 : agr [(6, 6)] [12, 14] V V68 := agV6.up hV68 rfl
              refine lv_aload_n hx hb dX9_cutWord_115 rfl (lv_at hl 2 rfl) ?_
              refine va_get (D := D) (ci := 9) (v := .ref (ad 11)) (fs := (xfTape ad V68 L Z)) (C := RX9) (T := TX9) (N := 12) hx hb hg inX9 hown hK hP 6 xgTape rfl 4 (by decide) (hg _ w256) (fun _ h9 => h9) rfl dX9_cutWord_116 ?_
              refine lv_aload_n hx hb dX9_cutWord_119 rfl (lv_at hl 2 rfl) ?_
              refine va_get (D := D) (ci := 9) (v := .int (V68 6 7)) (fs := (xfTape ad V68 L Z)) (C := RX9) (T := TX9) (N := 12) hx hb hg inX9 hown hK hP 6 xgTape rfl 7 (by decide) (hg _ w260) (fun _ h9 => h9) rfl dX9_cutWord_120 ?_
              refine g_top (v := (V 6 7)) ((up2_o hV68 (by decide)).trans (ajV6 6 7 rfl)) ?_
              refine lv_lload_n hx hb dX9_cutWord_123 rfl (lv_at hl 0 rfl) ?_
              refine va_last (D := D) (i := (V 6 7)) (x := y4) hx hb hK hP hD hS 11 4 rfl rfl (i_in (a := ((V 6 7)).toInt) rfl (by (first | exact om_1452076f4170 y2 r3.1 | omega))) dX9_cutWord_124 (fun H locs hP hD hS => ?_)
              obtain ⟨L70, hL70⟩ : ∃ z, z = upL L 14 (Int32.toNatClampNeg (V 6 7)) y4 := ⟨_, rfl⟩
              have ew71 : (xw ad kk V68 L Z).set 11 ((ad 11), .inl ((kk 11), 4001, .inr (.inl (vp_updL (L 14) (Int32.toNatClampNeg (V 6 7)) y4)))) = xw ad kk V68 L70 Z := by rw [hL70]; exact xw_ss (by decide) rfl (fun j => xe_L (fun a => absurd a.1 (by decide)))
              have hP : va_P D vwCl (xw ad kk V68 L70 Z) H := by rw [← ew71]; exact hP
              have hD : va_D A (xw ad kk V68 L70 Z) := by rw [← ew71]; exact hD
              have alL70 : agL [14] L L70 := agL.up alL hL70 rfl
              have pq72 : (V68 6 6).toInt = ((V6 6 6)).toInt := congrArg Int32.toInt (up2_o hV68 (by decide))
              have pq73 : (V68 6 5).toInt = ((V 6 5)).toInt := congrArg Int32.toInt ((up2_o hV68 (by decide)).trans (ajV6 6 5 rfl))
              exact W.vret hx hb hr (fun t ht hW => ⟨⟨(V68, L70), rfl, ⟨hMV68, agV68, alL70, (show (V68 6 6).toInt ≤ (V 6 5).toInt from by (first | exact om_8bafb22e6d91 f30 pq72 | omega))⟩, by rw [ht]; exact hP, va_K.moved hW.alike hK, hD⟩, hS.F ht⟩) hS.2.2 dX9_cutWord_125
            · skip
              have f74 : 12 < y5.toInt := b_nle rfl (by decide) c63
              refine lv_iconst (v := 1) hx hb dX9_cutWord_105 (by decide) ?_
              refine lv_goto (tgt := 114) hx hb dX9_cutWord_106 (by decide) ?_
              refine va_iast (D := D) (i := (V 6 7)) (x := 1) hx hb hK hP hD hS 9 2 rfl rfl (i_in (a := ((V 6 7)).toInt) rfl (by (first | exact om_1452076f4170 y2 r3.1 | omega))) dX9_cutWord_114 (fun H locs hP hD hS => ?_)
              obtain ⟨V75, hV75⟩ : ∃ z, z = up2 V6 12 (Int32.toNatClampNeg (V 6 7)) 1 := ⟨_, rfl⟩
              have ew76 : (xw ad kk V6 L Z).set 9 ((ad 9), .inl ((kk 9), 4001, .inl (upd (V6 12) (Int32.toNatClampNeg (V 6 7)) 1))) = xw ad kk V75 L Z := by rw [hV75]; exact xw_ss (by decide) rfl (xb_si (by decide))
              have hP : va_P D vwCl (xw ad kk V75 L Z) H := by rw [← ew76]; exact hP
              have hD : va_D A (xw ad kk V75 L Z) := by rw [← ew76]; exact hD
              have hMV75 : rgd bX V75 := hMV6.put hV75 (i_full _)
              have agV75 : agr [(6, 6)] [12, 14] V V75 := agV6.up hV75 rfl
              refine lv_aload_n hx hb dX9_cutWord_115 rfl (lv_at hl 2 rfl) ?_
              refine va_get (D := D) (ci := 9) (v := .ref (ad 11)) (fs := (xfTape ad V75 L Z)) (C := RX9) (T := TX9) (N := 12) hx hb hg inX9 hown hK hP 6 xgTape rfl 4 (by decide) (hg _ w256) (fun _ h9 => h9) rfl dX9_cutWord_116 ?_
              refine lv_aload_n hx hb dX9_cutWord_119 rfl (lv_at hl 2 rfl) ?_
              refine va_get (D := D) (ci := 9) (v := .int (V75 6 7)) (fs := (xfTape ad V75 L Z)) (C := RX9) (T := TX9) (N := 12) hx hb hg inX9 hown hK hP 6 xgTape rfl 7 (by decide) (hg _ w260) (fun _ h9 => h9) rfl dX9_cutWord_120 ?_
              refine g_top (v := (V 6 7)) ((up2_o hV75 (by decide)).trans (ajV6 6 7 rfl)) ?_
              refine lv_lload_n hx hb dX9_cutWord_123 rfl (lv_at hl 0 rfl) ?_
              refine va_last (D := D) (i := (V 6 7)) (x := y4) hx hb hK hP hD hS 11 4 rfl rfl (i_in (a := ((V 6 7)).toInt) rfl (by (first | exact om_1452076f4170 y2 r3.1 | omega))) dX9_cutWord_124 (fun H locs hP hD hS => ?_)
              obtain ⟨L77, hL77⟩ : ∃ z, z = upL L 14 (Int32.toNatClampNeg (V 6 7)) y4 := ⟨_, rfl⟩
              have ew78 : (xw ad kk V75 L Z).set 11 ((ad 11), .inl ((kk 11), 4001, .inr (.inl (vp_updL (L 14) (Int32.toNatClampNeg (V 6 7)) y4)))) = xw ad kk V75 L77 Z := by rw [hL77]; exact xw_ss (by decide) rfl (fun j => xe_L (fun a => absurd a.1 (by decide)))
              have hP : va_P D vwCl (xw ad kk V75 L77 Z) H := by rw [← ew78]; exact hP
              have hD : va_D A (xw ad kk V75 L77 Z) := by rw [← ew78]; exact hD
              have alL77 : agL [14] L L77 := agL.up alL hL77 rfl
              have pq79 : (V75 6 6).toInt = ((V6 6 6)).toInt := congrArg Int32.toInt (up2_o hV75 (by decide))
              have pq80 : (V75 6 5).toInt = ((V 6 5)).toInt := congrArg Int32.toInt ((up2_o hV75 (by decide)).trans (ajV6 6 5 rfl))
              exact W.vret hx hb hr (fun t ht hW => ⟨⟨(V75, L77), rfl, ⟨hMV75, agV75, alL77, (show (V75 6 6).toInt ≤ (V 6 5).toInt from by (first | exact om_8bafb22e6d91 f30 pq79 | omega))⟩, by rw [ht]; exact hP, va_K.moved hW.alike hK, hD⟩, hS.F ht⟩) hS.2.2 dX9_cutWord_125
          · skip
            have f81 : z58.toInt ≠ 0 := b_neq rfl (by decide) c61
            refine lv_iload_n hx hb dX9_cutWord_45 rfl (lv_at hl 1 rfl) ?_
            refine lv_bipush (v := 12) hx hb dX9_cutWord_46 (by decide) ?_
            refine lv_icmp_ge (tgt := 73) hx hb dX9_cutWord_48 (by decide) (fun c82 => ?_) (fun c82 => ?_)
            · skip
              have f83 : 12 ≤ y5.toInt := b_le (by decide) rfl c82
              refine lv_lconst (v := 0) hx hb dX9_cutWord_73 (by decide) ?_
              refine lv_lstore_n (lv' := [(2, .long 0), (1, .int y5), (0, .ref (ad 6))]) hx hb dX9_cutWord_74 rfl hl (by decide) rfl (fun ls hl => ?_)
              obtain ⟨z84, ez84⟩ : ∃ y : Int32, y = y5 + 1 := ⟨_, rfl⟩
              have hz84 : z84.toInt = y5.toInt + 1 := i_add ez84 rfl (by decide) (by (first | exact om_89fadfb637be r1.2 r2.1 xlp7_1 f30 f83 | omega))
              refine lv_iinc (v := z84) (lv' := [(1, .int z84), (2, .long 0), (0, .ref (ad 6))]) hx hb dX9_cutWord_75 hl (k := 1) rfl (by rw [ez84]; rfl) (by decide) rfl (fun ls hl => ?_)
              refine lv_aload_n hx hb dX9_cutWord_78 rfl (lv_at hl 2 rfl) ?_
              refine lv_dup hx hb dX9_cutWord_79 rfl ?_
              refine va_get (D := D) (ci := 9) (v := .int (V6 6 6)) (fs := (xfTape ad V6 L Z)) (C := RX9) (T := TX9) (N := 12) hx hb hg inX9 hown hK hP 6 xgTape rfl 6 (by decide) (hg _ w259) (fun _ h9 => h9) rfl dX9_cutWord_80 ?_
              refine lv_iconst (v := 1) hx hb dX9_cutWord_83 (by decide) ?_
              refine lv_iadd hx hb dX9_cutWord_84 ?_
              refine lv_topi (fun z85 ez85 => ?_)
              have hz85 : z85.toInt = ((V6 6 6)).toInt + 1 := i_add ez85 rfl (by decide) (by (first | exact om_5c2f98f06f05 r1.2 r2.1 xlp7_1 f30 f83 | omega))
              refine va_put (D := D) (ci := 9) (v := .int z85) (ty := tyX9 6) (fs := (xfTape ad V6 L Z)) (C := RX9) (T := TX9) (N := 12) hx hb hg inX9 tyX9 tyX9_ok nmX9 hown hK hP hD hS 6 xgTape rfl 6 (by decide) (hg _ w259) (fun _ h9 => h9) rfl (tyX9_ok 6 (by decide)) rfl rfl (Nat.le_of_ble_eq_true rfl) dX9_cutWord_85 (fun H locs hP hD hS => ?_)
              obtain ⟨V86, hV86⟩ : ∃ z, z = up2 V6 6 6 z85 := ⟨_, rfl⟩
              have ew87 : (xw ad kk V6 L Z).set 6 ((ad 6), .inr (9, (xfTape ad V6 L Z).set 6 (.int z85))) = xw ad kk V86 L Z := by rw [hV86]; exact xw_ss (by decide) rfl (xb_si (by decide))
              have hP : va_P D vwCl (xw ad kk V86 L Z) H := by rw [← ew87]; exact hP
              have hD : va_D A (xw ad kk V86 L Z) := by rw [← ew87]; exact hD
              have hMV86 : rgd bX V86 := hMV6.put hV86 (show 0 ≤ z85.toInt ∧ z85.toInt ≤ 4000 from by (first | exact om_a97166e33c63 r1.2 r2.1 xlp7_1 f30 f83 hz85 | omega))
              have agV86 : agr [(6, 6)] [12, 14] V V86 := agV6.up hV86 rfl
              refine lv_goto (tgt := 4) hx hb dX9_cutWord_88 (by decide) ?_
              have pq88 : (V86 6 5).toInt = ((V 6 5)).toInt := congrArg Int32.toInt ((up2_k hV86 (by decide)).trans (ajV6 6 5 rfl))
              have pq89 : (V86 6 6).toInt = z85.toInt := congrArg Int32.toInt (up2_s hV86)
              exact ihlp7 0 z84 V86 H locs ls (by (first | exact om_177415788ef3 r1.2 r2.1 xlp7_1 f30 f83 hz84 | omega)) (show (V86 6 6).toInt ≤ (V86 6 5).toInt from by (first | exact om_1257dc0753d6 f30 hz85 pq88 pq89 | omega)) (show (V 6 6).toInt + z84.toInt = (V86 6 6).toInt from by (first | exact om_662a1892167c xlp7_1 hz84 hz85 pq89 | omega)) (by (first | exact om_91b464413286 hn pq8 hz85 pq88 pq89 | omega)) (agr.up (agr.tr agr.rf ajV6 (by decide) (by decide)) hV86 rfl) hMV86 hP hD hS (lv_sub hl [1, 0, 2] rfl)
            · skip
              have f90 : y5.toInt < 12 := b_nle (by decide) rfl c82
              refine lv_lload_n hx hb dX9_cutWord_51 rfl (lv_at hl 0 rfl) ?_
              refine lv_ldc2 (v := 37) hx hb hown (hg _ w245) dX9_cutWord_52 ?_
              refine lv_lmul hx hb dX9_cutWord_55 ?_
              refine lv_topl (fun w91 ew91 => ?_)
              refine lv_aload_n hx hb dX9_cutWord_56 rfl (lv_at hl 2 rfl) ?_
              refine va_get (D := D) (ci := 9) (v := .ref (ad 7)) (fs := (xfTape ad V6 L Z)) (C := RX9) (T := TX9) (N := 12) hx hb hg inX9 hown hK hP 6 xgTape rfl 0 (by decide) (hg _ w252) (fun _ h9 => h9) rfl dX9_cutWord_57 ?_
              refine lv_aload_n hx hb dX9_cutWord_60 rfl (lv_at hl 2 rfl) ?_
              refine va_get (D := D) (ci := 9) (v := .int (V6 6 6)) (fs := (xfTape ad V6 L Z)) (C := RX9) (T := TX9) (N := 12) hx hb hg inX9 hown hK hP 6 xgTape rfl 6 (by decide) (hg _ w259) (fun _ h9 => h9) rfl dX9_cutWord_61 ?_
              refine va_bald (D := D) (i := (V6 6 6)) hx hb hK hP 7 0 rfl rfl (i_in (a := ((V6 6 6)).toInt) rfl (by (first | exact om_fe2d53c3c384 r1.2 r2.1 klp7_0.1 xlp7_1 f30 | omega))) dX9_cutWord_64 ?_
              refine g_top (v := (V 10 (Int32.toNatClampNeg (V6 6 6)))) (ajV6 10 (Int32.toNatClampNeg (V6 6 6)) rfl) ?_
              refine gE_int (g_runS (As := [.int (V 10 (Int32.toNatClampNeg (V6 6 6)))]) (rest := [.long w91]) (wc := []) (tc := []) hx hb hml hown hg gw_self hP hD hK hS hA hnw hgk [] [] (by decide) rfl rfl (x_codeOf l D ks H.size (V 10 (Int32.toNatClampNeg (V6 6 6))) ) w246 w247 w157 w248 hdS_yX9_codeOf ⟨Nat.le_of_ble_eq_true rfl, Nat.le_of_ble_eq_true rfl⟩ rfl hl.1 rfl (Nat.le_of_ble_eq_true rfl) dX9_cutWord_65 ⟨Nat.le_of_ble_eq_true rfl, Nat.le_of_ble_eq_true rfl⟩) hP hD hK hS hA (fun z92 u93 H locs w94 hP hD hK hS => ?_)
              refine lv_i2l hx hb dX9_cutWord_68 rfl ?_
              refine lv_topl (fun w95 ew95 => ?_)
              refine lv_ladd hx hb dX9_cutWord_69 ?_
              refine lv_topl (fun w96 ew96 => ?_)
              refine lv_goto (tgt := 74) hx hb dX9_cutWord_70 (by decide) ?_
              refine lv_lstore_n (lv' := [(2, .long w96), (1, .int y5), (0, .ref (ad 6))]) hx hb dX9_cutWord_74 rfl hl (by decide) rfl (fun ls hl => ?_)
              obtain ⟨z97, ez97⟩ : ∃ y : Int32, y = y5 + 1 := ⟨_, rfl⟩
              have hz97 : z97.toInt = y5.toInt + 1 := i_add ez97 rfl (by decide) (by (first | exact om_4464765f026c klp7_0.1 f90 | omega))
              refine lv_iinc (v := z97) (lv' := [(1, .int z97), (2, .long w96), (0, .ref (ad 6))]) hx hb dX9_cutWord_75 hl (k := 1) rfl (by rw [ez97]; rfl) (by decide) rfl (fun ls hl => ?_)
              refine lv_aload_n hx hb dX9_cutWord_78 rfl (lv_at hl 2 rfl) ?_
              refine lv_dup hx hb dX9_cutWord_79 rfl ?_
              refine va_get (D := D) (ci := 9) (v := .int (V6 6 6)) (fs := (xfTape ad V6 L Z)) (C := RX9) (T := TX9) (N := 12) hx hb hg inX9 hown hK hP 6 xgTape rfl 6 (by decide) (hg _ w259) (fun _ h9 => h9) rfl dX9_cutWord_80 ?_
              refine lv_iconst (v := 1) hx hb dX9_cutWord_83 (by decide) ?_
              refine lv_iadd hx hb dX9_cutWord_84 ?_
              refine lv_topi (fun z98 ez98 => ?_)
              have hz98 : z98.toInt = ((V6 6 6)).toInt + 1 := i_add ez98 rfl (by decide) (by (first | exact om_41955fcb6566 r1.2 r2.1 klp7_0.1 xlp7_1 f30 | omega))
              refine va_put (D := D) (ci := 9) (v := .int z98) (ty := tyX9 6) (fs := (xfTape ad V6 L Z)) (C := RX9) (T := TX9) (N := 12) hx hb hg inX9 tyX9 tyX9_ok nmX9 hown hK hP hD hS 6 xgTape rfl 6 (by decide) (hg _ w259) (fun _ h9 => h9) rfl (tyX9_ok 6 (by decide)) rfl rfl (Nat.le_of_ble_eq_true rfl) dX9_cutWord_85 (fun H locs hP hD hS => ?_)
              obtain ⟨V99, hV99⟩ : ∃ z, z = up2 V6 6 6 z98 := ⟨_, rfl⟩
              have ew100 : (xw ad kk V6 L Z).set 6 ((ad 6), .inr (9, (xfTape ad V6 L Z).set 6 (.int z98))) = xw ad kk V99 L Z := by rw [hV99]; exact xw_ss (by decide) rfl (xb_si (by decide))
              have hP : va_P D vwCl (xw ad kk V99 L Z) H := by rw [← ew100]; exact hP
              have hD : va_D A (xw ad kk V99 L Z) := by rw [← ew100]; exact hD
              have hMV99 : rgd bX V99 := hMV6.put hV99 (show 0 ≤ z98.toInt ∧ z98.toInt ≤ 4000 from by (first | exact om_5bd73bff3568 r1.2 r2.1 klp7_0.1 xlp7_1 f30 hz98 | omega))
              have agV99 : agr [(6, 6)] [12, 14] V V99 := agV6.up hV99 rfl
              refine lv_goto (tgt := 4) hx hb dX9_cutWord_88 (by decide) ?_
              have pq101 : (V99 6 5).toInt = ((V 6 5)).toInt := congrArg Int32.toInt ((up2_k hV99 (by decide)).trans (ajV6 6 5 rfl))
              have pq102 : (V99 6 6).toInt = z98.toInt := congrArg Int32.toInt (up2_s hV99)
              exact ihlp7 w96 z97 V99 H locs ls (by (first | exact om_b8f281e63d9c klp7_0.1 f90 hz97 | omega)) (show (V99 6 6).toInt ≤ (V99 6 5).toInt from by (first | exact om_1257dc0753d6 f30 hz98 pq101 pq102 | omega)) (show (V 6 6).toInt + z97.toInt = (V99 6 6).toInt from by (first | exact om_662a1892167c xlp7_1 hz97 hz98 pq102 | omega)) (by (first | exact om_91b464413286 hn pq8 hz98 pq101 pq102 | omega)) (agr.up (agr.tr agr.rf ajV6 (by decide) (by decide)) hV99 rfl) hMV99 hP hD hS (lv_sub hl [1, 0, 2] rfl)
  have r103 : Int32.toInt 0 = 0 := by decide
  exact lp7 (((V 6 5).toInt - (V 6 6).toInt + 1 : Int).toNat) 0 0 V H locs ls (by decide) (show (V 6 6).toInt ≤ (V 6 5).toInt from by (first | exact om_f4906d00fa52 y1 | omega)) (show (V 6 6).toInt + (Int32.toInt 0) = (V 6 6).toInt from by (first | exact om_85baa6bcbf4d r103 | omega)) (by (first | exact om_7441a7786481 | omega)) agr.rf hMV hP hD hS (lv_sub hl [0, 1, 2] rfl)
abbrev r_x_cut : Room := { frames := 4, cells := 0, slots := 0, locals := 91 }
abbrev q_x_cut (D : va_G) (ks : KS) (ad : Nat → Nat) (kk : Nat → ClassId) (V : Vf) (L : Lf) (Z : XZ) (A : Nat → Prop) : Array Value → State → Outcome → State → Prop := va_Qv (fun (u : Vf × Lf) => rgd bX u.1 ∧ agr [(6, 6), (6, 7)] [12, 13, 14] V u.1 ∧ agL [14] L u.2 ∧ ((u.1 6 6).toInt ≤ (u.1 6 5).toInt) ∧ ((u.1 6 7).toInt = (V 6 7).toInt + 1)) (fun u t => gq D A (xw ad kk u.1 u.2 Z) (xty kk Z) t) A
set_option maxHeartbeats 4000000 in
set_option maxRecDepth 100000 in
theorem x_cut (l : Launch) (D : va_G) (ks : KS) (sz : Nat) (ad : Nat → Nat) (kk : Nat → ClassId) (V : Vf) (L : Lf) (Z : XZ)  (hMV : rgd bX V) (y1 : (V 6 6).toInt < (V 6 5).toInt) (y2 : (V 6 7).toInt ≤ 3999)  : Met l yX9_cut (Cond.code yX9_cut cX9_cut 2 none :: GW) r_x_cut (va_Pc [.ref (ad 6)] (gp D ks (xw ad kk V L Z) (xty kk Z) sz)) (q_x_cut D ks ad kk V L Z  (va_A (xw ad kk V L Z) sz)) 0 0 (va_A (xw ad kk V L Z) sz) := by
  refine g_met (q_x_cut D ks ad kk V L Z) (by decide) (Nat.le_of_ble_eq_true rfl) ?_
  intro p e s m below meth c A ls H locs hx hb hr hml hown hg hlocks hin hnw hgk hP hK hD hS hA hl
  have hown : s.vm.findClass RX9 = some m.cls := hown
  have hl : lv_has ls 2 [(0, .ref (ad 6))] := hl
  have hP : va_P D vwCl (xw ad kk V L Z) H := hP
  have hD : va_D A (xw ad kk V L Z) := hD
  have hK : va_K D vwCl (xty kk Z) s := hK
  have agV : agr [(6, 6), (6, 7)] [12, 13, 14] V V := agr.rf
  have alL : agL [14] L L := agL.rf
  have r1 : 0 ≤ ((V 6 5)).toInt ∧ ((V 6 5)).toInt ≤ 4000 := hMV 6 5
  have r2 : 0 ≤ ((V 6 6)).toInt ∧ ((V 6 6)).toInt ≤ 4000 := hMV 6 6
  have r3 : 0 ≤ ((V 6 7)).toInt ∧ ((V 6 7)).toInt ≤ 4000 := hMV 6 7
  refine lv_aload_n hx hb dX9_cut_0 rfl (lv_at hl 0 rfl) ?_
  refine va_get (D := D) (ci := 9) (v := .ref (ad 7)) (fs := (xfTape ad V L Z)) (C := RX9) (T := TX9) (N := 12) hx hb hg inX9 hown hK hP 6 xgTape rfl 0 (by decide) (hg _ w252) (fun _ h9 => h9) rfl dX9_cut_1 ?_
  refine lv_aload_n hx hb dX9_cut_4 rfl (lv_at hl 0 rfl) ?_
  refine va_get (D := D) (ci := 9) (v := .int (V 6 6)) (fs := (xfTape ad V L Z)) (C := RX9) (T := TX9) (N := 12) hx hb hg inX9 hown hK hP 6 xgTape rfl 6 (by decide) (hg _ w259) (fun _ h9 => h9) rfl dX9_cut_5 ?_
  refine va_bald (D := D) (i := (V 6 6)) hx hb hK hP 7 0 rfl rfl (i_in (a := ((V 6 6)).toInt) rfl (by (first | exact om_22b8d629e40e y1 r1.2 r2.1 | omega))) dX9_cut_8 ?_
  refine lv_istore_n (lv' := [(1, .int (V 10 (Int32.toNatClampNeg (V 6 6)))), (0, .ref (ad 6))]) hx hb dX9_cut_9 rfl hl (by decide) rfl (fun ls hl => ?_)
  refine lv_aload_n hx hb dX9_cut_10 rfl (lv_at hl 1 rfl) ?_
  refine va_get (D := D) (ci := 9) (v := .ref (ad 10)) (fs := (xfTape ad V L Z)) (C := RX9) (T := TX9) (N := 12) hx hb hg inX9 hown hK hP 6 xgTape rfl 3 (by decide) (hg _ w255) (fun _ h9 => h9) rfl dX9_cut_11 ?_
  refine lv_aload_n hx hb dX9_cut_14 rfl (lv_at hl 1 rfl) ?_
  refine va_get (D := D) (ci := 9) (v := .int (V 6 7)) (fs := (xfTape ad V L Z)) (C := RX9) (T := TX9) (N := 12) hx hb hg inX9 hown hK hP 6 xgTape rfl 7 (by decide) (hg _ w260) (fun _ h9 => h9) rfl dX9_cut_15 ?_
  refine lv_aload_n hx hb dX9_cut_18 rfl (lv_at hl 1 rfl) ?_
  refine va_get (D := D) (ci := 9) (v := .int (V 6 6)) (fs := (xfTape ad V L Z)) (C := RX9) (T := TX9) (N := 12) hx hb hg inX9 hown hK hP 6 xgTape rfl 6 (by decide) (hg _ w259) (fun _ h9 => h9) rfl dX9_cut_19 ?_
  refine va_iast (D := D) (i := (V 6 7)) (x := (V 6 6)) hx hb hK hP hD hS 10 3 rfl rfl (i_in (a := ((V 6 7)).toInt) rfl (by (first | exact om_1452076f4170 y2 r3.1 | omega))) dX9_cut_22 (fun H locs hP hD hS => ?_)
  obtain ⟨V4, hV4⟩ : ∃ z, z = up2 V 13 (Int32.toNatClampNeg (V 6 7)) (V 6 6) := ⟨_, rfl⟩
  have ew5 : (xw ad kk V L Z).set 10 ((ad 10), .inl ((kk 10), 4001, .inl (upd (V 13) (Int32.toNatClampNeg (V 6 7)) (V 6 6)))) = xw ad kk V4 L Z := by rw [hV4]; exact xw_ss (by decide) rfl (xb_si (by decide))
  have hP : va_P D vwCl (xw ad kk V4 L Z) H := by rw [← ew5]; exact hP
  have hD : va_D A (xw ad kk V4 L Z) := by rw [← ew5]; exact hD
  have hMV4 : rgd bX V4 := hMV.put hV4 (show 0 ≤ ((V 6 6)).toInt ∧ ((V 6 6)).toInt ≤ 4000 from by (first | exact om_17779d3d27a1 y1 r1.2 r2.1 | omega))
  have agV4 : agr [(6, 6), (6, 7)] [12, 13, 14] V V4 := agV.up hV4 rfl
  refine lv_aload_n hx hb dX9_cut_23 rfl (lv_at hl 1 rfl) ?_
  refine va_get (D := D) (ci := 9) (v := .ref (ad 11)) (fs := (xfTape ad V4 L Z)) (C := RX9) (T := TX9) (N := 12) hx hb hg inX9 hown hK hP 6 xgTape rfl 4 (by decide) (hg _ w256) (fun _ h9 => h9) rfl dX9_cut_24 ?_
  refine lv_aload_n hx hb dX9_cut_27 rfl (lv_at hl 1 rfl) ?_
  refine va_get (D := D) (ci := 9) (v := .int (V4 6 7)) (fs := (xfTape ad V4 L Z)) (C := RX9) (T := TX9) (N := 12) hx hb hg inX9 hown hK hP 6 xgTape rfl 7 (by decide) (hg _ w260) (fun _ h9 => h9) rfl dX9_cut_28 ?_
  refine g_top (v := (V 6 7)) (up2_o hV4 (by decide)) ?_
  refine lv_lconst (v := 0) hx hb dX9_cut_31 (by decide) ?_
  refine va_last (D := D) (i := (V 6 7)) (x := 0) hx hb hK hP hD hS 11 4 rfl rfl (i_in (a := ((V 6 7)).toInt) rfl (by (first | exact om_1452076f4170 y2 r3.1 | omega))) dX9_cut_32 (fun H locs hP hD hS => ?_)
  obtain ⟨L6, hL6⟩ : ∃ z, z = upL L 14 (Int32.toNatClampNeg (V 6 7)) 0 := ⟨_, rfl⟩
  have ew7 : (xw ad kk V4 L Z).set 11 ((ad 11), .inl ((kk 11), 4001, .inr (.inl (vp_updL (L 14) (Int32.toNatClampNeg (V 6 7)) 0)))) = xw ad kk V4 L6 Z := by rw [hL6]; exact xw_ss (by decide) rfl (fun j => xe_L (fun a => absurd a.1 (by decide)))
  have hP : va_P D vwCl (xw ad kk V4 L6 Z) H := by rw [← ew7]; exact hP
  have hD : va_D A (xw ad kk V4 L6 Z) := by rw [← ew7]; exact hD
  have alL6 : agL [14] L L6 := agL.up alL hL6 rfl
  refine lv_iload_n hx hb dX9_cut_33 rfl (lv_at hl 0 rfl) ?_
  refine gE_int (g_runS (As := [.int (V 10 (Int32.toNatClampNeg (V 6 6)))]) (rest := []) (wc := []) (tc := []) hx hb hml hown hg gw_self hP hD hK hS hA hnw hgk [] [] (by decide) rfl rfl (x_isDigit l D ks H.size (V 10 (Int32.toNatClampNeg (V 6 6))) ) w249 w250 w157 w251 hdS_yX9_isDigit ⟨Nat.le_of_ble_eq_true rfl, Nat.le_of_ble_eq_true rfl⟩ rfl hl.1 rfl (Nat.le_of_ble_eq_true rfl) dX9_cut_34 ⟨Nat.le_of_ble_eq_true rfl, Nat.le_of_ble_eq_true rfl⟩) hP hD hK hS hA (fun z8 u9 H locs w10 hP hD hK hS => ?_)
  have rgz8 := w10
  have rgz8 : 0 ≤ z8.toInt ∧ z8.toInt ≤ 1 := rgz8
  refine lv_if_eq (tgt := 47) hx hb dX9_cut_37 (by decide) (fun c11 => ?_) (fun c11 => ?_)
  · skip
    have f12 : z8.toInt = 0 := b_eq rfl (by decide) c11
    refine lv_iload_n hx hb dX9_cut_47 rfl (lv_at hl 0 rfl) ?_
    refine gE_int (g_runS (As := [.int (V 10 (Int32.toNatClampNeg (V 6 6)))]) (rest := []) (wc := []) (tc := []) hx hb hml hown hg gw_self hP hD hK hS hA hnw hgk [] [] (by decide) rfl rfl (x_isLetter l D ks H.size (V 10 (Int32.toNatClampNeg (V 6 6))) ) w780 w781 w157 w782 hdS_yX9_isLetter ⟨Nat.le_of_ble_eq_true rfl, Nat.le_of_ble_eq_true rfl⟩ rfl hl.1 rfl (Nat.le_of_ble_eq_true rfl) dX9_cut_48 ⟨Nat.le_of_ble_eq_true rfl, Nat.le_of_ble_eq_true rfl⟩) hP hD hK hS hA (fun z13 u14 H locs w15 hP hD hK hS => ?_)
    have rgz13 := w15
    have rgz13 : 0 ≤ z13.toInt ∧ z13.toInt ≤ 1 := rgz13
    refine lv_if_eq (tgt := 61) hx hb dX9_cut_51 (by decide) (fun c16 => ?_) (fun c16 => ?_)
    · skip
      have f17 : z13.toInt = 0 := b_eq rfl (by decide) c16
      refine lv_aload_n hx hb dX9_cut_61 rfl (lv_at hl 1 rfl) ?_
      refine va_get (D := D) (ci := 9) (v := .ref (ad 9)) (fs := (xfTape ad V4 L6 Z)) (C := RX9) (T := TX9) (N := 12) hx hb hg inX9 hown hK hP 6 xgTape rfl 2 (by decide) (hg _ w254) (fun _ h9 => h9) rfl dX9_cut_62 ?_
      refine lv_aload_n hx hb dX9_cut_65 rfl (lv_at hl 1 rfl) ?_
      refine va_get (D := D) (ci := 9) (v := .int (V4 6 7)) (fs := (xfTape ad V4 L6 Z)) (C := RX9) (T := TX9) (N := 12) hx hb hg inX9 hown hK hP 6 xgTape rfl 7 (by decide) (hg _ w260) (fun _ h9 => h9) rfl dX9_cut_66 ?_
      refine g_top (v := (V 6 7)) (up2_o hV4 (by decide)) ?_
      refine va_ldcS hx hb hown hgk.2.2.2.2.2.2 dX9_cut_69 ?_
      refine lv_iload_n hx hb dX9_cut_71 rfl (lv_at hl 0 rfl) ?_
      refine lv_i2c hx hb dX9_cut_72 rfl ?_
      refine lv_topi (fun z18 ez18 => ?_)
      refine gE_int (g_runW (As := [.int z18]) (rest := [.int (V 6 7), .ref (ad 9)]) (wc := []) (tc := []) (C := RJ0) hx hb hml hown hg gw_self hP hD hK hS hA hnw hgk [] [] (by decide) rfl rfl (c_sg_index l D ks H.size z18) w792 w793 w794 w158 w795 (vk_recv (i := 0) hgk.2.2.2.2.2.1 (by decide) hS) hdV_yJ0_indexOf_0f7a4 ⟨Nat.le_of_ble_eq_true rfl, Nat.le_of_ble_eq_true rfl⟩ rfl hl.1 rfl (Nat.le_of_ble_eq_true rfl) dX9_cut_73 ⟨Nat.le_of_ble_eq_true rfl, Nat.le_of_ble_eq_true rfl⟩) hP hD hK hS hA (fun z19 u20 H locs w21 hP hD hK hS => ?_)
      refine lv_if_lt (tgt := 83) hx hb dX9_cut_76 (by decide) (fun c22 => ?_) (fun c22 => ?_)
      · skip
        have f23 : z19.toInt < 0 := b_lt rfl (by decide) c22
        refine lv_iconst (v := 1) hx hb dX9_cut_83 (by decide) ?_
        refine va_iast (D := D) (i := (V 6 7)) (x := 1) hx hb hK hP hD hS 9 2 rfl rfl (i_in (a := ((V 6 7)).toInt) rfl (by (first | exact om_1452076f4170 y2 r3.1 | omega))) dX9_cut_84 (fun H locs hP hD hS => ?_)
        obtain ⟨V24, hV24⟩ : ∃ z, z = up2 V4 12 (Int32.toNatClampNeg (V 6 7)) 1 := ⟨_, rfl⟩
        have ew25 : (xw ad kk V4 L6 Z).set 9 ((ad 9), .inl ((kk 9), 4001, .inl (upd (V4 12) (Int32.toNatClampNeg (V 6 7)) 1))) = xw ad kk V24 L6 Z := by rw [hV24]; exact xw_ss (by decide) rfl (xb_si (by decide))
        have hP : va_P D vwCl (xw ad kk V24 L6 Z) H := by rw [← ew25]; exact hP
        have hD : va_D A (xw ad kk V24 L6 Z) := by rw [← ew25]; exact hD
        have hMV24 : rgd bX V24 := hMV4.put hV24 (i_full _)
        have agV24 : agr [(6, 6), (6, 7)] [12, 13, 14] V V24 := agV4.up hV24 rfl
        refine lv_aload_n hx hb dX9_cut_85 rfl (lv_at hl 1 rfl) ?_
        refine lv_dup hx hb dX9_cut_86 rfl ?_
        refine va_get (D := D) (ci := 9) (v := .int (V24 6 6)) (fs := (xfTape ad V24 L6 Z)) (C := RX9) (T := TX9) (N := 12) hx hb hg inX9 hown hK hP 6 xgTape rfl 6 (by decide) (hg _ w259) (fun _ h9 => h9) rfl dX9_cut_87 ?_
        refine g_top (v := (V 6 6)) ((up2_o hV24 (by decide)).trans (up2_o hV4 (by decide))) ?_
        refine lv_iconst (v := 1) hx hb dX9_cut_90 (by decide) ?_
        refine lv_iadd hx hb dX9_cut_91 ?_
        refine lv_topi (fun z26 ez26 => ?_)
        have hz26 : z26.toInt = ((V 6 6)).toInt + 1 := i_add ez26 rfl (by decide) (by (first | exact om_f4a62807000a y1 r1.2 r2.1 | omega))
        refine va_put (D := D) (ci := 9) (v := .int z26) (ty := tyX9 6) (fs := (xfTape ad V24 L6 Z)) (C := RX9) (T := TX9) (N := 12) hx hb hg inX9 tyX9 tyX9_ok nmX9 hown hK hP hD hS 6 xgTape rfl 6 (by decide) (hg _ w259) (fun _ h9 => h9) rfl (tyX9_ok 6 (by decide)) rfl rfl (Nat.le_of_ble_eq_true rfl) dX9_cut_92 (fun H locs hP hD hS => ?_)
        obtain ⟨V27, hV27⟩ : ∃ z, z = up2 V24 6 6 z26 := ⟨_, rfl⟩
        have ew28 : (xw ad kk V24 L6 Z).set 6 ((ad 6), .inr (9, (xfTape ad V24 L6 Z).set 6 (.int z26))) = xw ad kk V27 L6 Z := by rw [hV27]; exact xw_ss (by decide) rfl (xb_si (by decide))
        have hP : va_P D vwCl (xw ad kk V27 L6 Z) H := by rw [← ew28]; exact hP
        have hD : va_D A (xw ad kk V27 L6 Z) := by rw [← ew28]; exact hD
        have hMV27 : rgd bX V27 := hMV24.put hV27 (show 0 ≤ z26.toInt ∧ z26.toInt ≤ 4000 from by (first | exact om_79968e91715f y1 r1.2 r2.1 hz26 | omega))
        have agV27 : agr [(6, 6), (6, 7)] [12, 13, 14] V V27 := agV24.up hV27 rfl
        refine lv_aload_n hx hb dX9_cut_95 rfl (lv_at hl 1 rfl) ?_
        refine lv_dup hx hb dX9_cut_96 rfl ?_
        refine va_get (D := D) (ci := 9) (v := .int (V27 6 7)) (fs := (xfTape ad V27 L6 Z)) (C := RX9) (T := TX9) (N := 12) hx hb hg inX9 hown hK hP 6 xgTape rfl 7 (by decide) (hg _ w260) (fun _ h9 => h9) rfl dX9_cut_97 ?_
        refine g_top (v := (V 6 7)) ((up2_k hV27 (by decide)).trans ((up2_o hV24 (by decide)).trans (up2_o hV4 (by decide)))) ?_
        refine lv_iconst (v := 1) hx hb dX9_cut_100 (by decide) ?_
        refine lv_iadd hx hb dX9_cut_101 ?_
        refine lv_topi (fun z29 ez29 => ?_)
        have hz29 : z29.toInt = ((V 6 7)).toInt + 1 := i_add ez29 rfl (by decide) (by (first | exact om_8e750d289af3 y2 r3.1 | omega))
        refine va_put (D := D) (ci := 9) (v := .int z29) (ty := tyX9 7) (fs := (xfTape ad V27 L6 Z)) (C := RX9) (T := TX9) (N := 12) hx hb hg inX9 tyX9 tyX9_ok nmX9 hown hK hP hD hS 6 xgTape rfl 7 (by decide) (hg _ w260) (fun _ h9 => h9) rfl (tyX9_ok 7 (by decide)) rfl rfl (Nat.le_of_ble_eq_true rfl) dX9_cut_102 (fun H locs hP hD hS => ?_)
        obtain ⟨V30, hV30⟩ : ∃ z, z = up2 V27 6 7 z29 := ⟨_, rfl⟩
        have ew31 : (xw ad kk V27 L6 Z).set 6 ((ad 6), .inr (9, (xfTape ad V27 L6 Z).set 7 (.int z29))) = xw ad kk V30 L6 Z := by rw [hV30]; exact xw_ss (by decide) rfl (xb_si (by decide))
        have hP : va_P D vwCl (xw ad kk V30 L6 Z) H := by rw [← ew31]; exact hP
        have hD : va_D A (xw ad kk V30 L6 Z) := by rw [← ew31]; exact hD
        have hMV30 : rgd bX V30 := hMV27.put hV30 (show 0 ≤ z29.toInt ∧ z29.toInt ≤ 4000 from by (first | exact om_71db763616c9 y2 r3.1 hz29 | omega))
        have agV30 : agr [(6, 6), (6, 7)] [12, 13, 14] V V30 := agV27.up hV30 rfl
        have pq32 : (V30 6 5).toInt = ((V 6 5)).toInt := congrArg Int32.toInt ((up2_k hV30 (by decide)).trans ((up2_k hV27 (by decide)).trans ((up2_o hV24 (by decide)).trans (up2_o hV4 (by decide)))))
        have pq33 : (V30 6 6).toInt = z26.toInt := congrArg Int32.toInt ((up2_k hV30 (by decide)).trans (up2_s hV27))
        have pq34 : (V30 6 7).toInt = z29.toInt := congrArg Int32.toInt (up2_s hV30)
        exact W.vret hx hb hr (fun t ht hW => ⟨⟨(V30, L6), rfl, ⟨hMV30, agV30, alL6, (show (V30 6 6).toInt ≤ (V30 6 5).toInt from by (first | exact om_1257dc0753d6 y1 hz26 pq32 pq33 | omega)), (show (V30 6 7).toInt = (V 6 7).toInt + 1 from by (first | exact om_689eeacb6d53 hz29 pq34 | omega))⟩, by rw [ht]; exact hP, va_K.moved hW.alike hK, hD⟩, hS.F ht⟩) hS.2.2 dX9_cut_105
      · skip
        have f35 : 0 ≤ z19.toInt := b_nlt rfl (by decide) c22
        refine lv_iload_n hx hb dX9_cut_79 rfl (lv_at hl 0 rfl) ?_
        refine lv_goto (tgt := 84) hx hb dX9_cut_80 (by decide) ?_
        refine va_iast (D := D) (i := (V 6 7)) (x := (V 10 (Int32.toNatClampNeg (V 6 6)))) hx hb hK hP hD hS 9 2 rfl rfl (i_in (a := ((V 6 7)).toInt) rfl (by (first | exact om_1452076f4170 y2 r3.1 | omega))) dX9_cut_84 (fun H locs hP hD hS => ?_)
        obtain ⟨V36, hV36⟩ : ∃ z, z = up2 V4 12 (Int32.toNatClampNeg (V 6 7)) (V 10 (Int32.toNatClampNeg (V 6 6))) := ⟨_, rfl⟩
        have ew37 : (xw ad kk V4 L6 Z).set 9 ((ad 9), .inl ((kk 9), 4001, .inl (upd (V4 12) (Int32.toNatClampNeg (V 6 7)) (V 10 (Int32.toNatClampNeg (V 6 6)))))) = xw ad kk V36 L6 Z := by rw [hV36]; exact xw_ss (by decide) rfl (xb_si (by decide))
        have hP : va_P D vwCl (xw ad kk V36 L6 Z) H := by rw [← ew37]; exact hP
        have hD : va_D A (xw ad kk V36 L6 Z) := by rw [← ew37]; exact hD
        have hMV36 : rgd bX V36 := hMV4.put hV36 (i_full _)
        have agV36 : agr [(6, 6), (6, 7)] [12, 13, 14] V V36 := agV4.up hV36 rfl
        refine lv_aload_n hx hb dX9_cut_85 rfl (lv_at hl 1 rfl) ?_
        refine lv_dup hx hb dX9_cut_86 rfl ?_
        refine va_get (D := D) (ci := 9) (v := .int (V36 6 6)) (fs := (xfTape ad V36 L6 Z)) (C := RX9) (T := TX9) (N := 12) hx hb hg inX9 hown hK hP 6 xgTape rfl 6 (by decide) (hg _ w259) (fun _ h9 => h9) rfl dX9_cut_87 ?_
        refine g_top (v := (V 6 6)) ((up2_o hV36 (by decide)).trans (up2_o hV4 (by decide))) ?_
        refine lv_iconst (v := 1) hx hb dX9_cut_90 (by decide) ?_
        refine lv_iadd hx hb dX9_cut_91 ?_
        refine lv_topi (fun z38 ez38 => ?_)
        have hz38 : z38.toInt = ((V 6 6)).toInt + 1 := i_add ez38 rfl (by decide) (by (first | exact om_f4a62807000a y1 r1.2 r2.1 | omega))
        refine va_put (D := D) (ci := 9) (v := .int z38) (ty := tyX9 6) (fs := (xfTape ad V36 L6 Z)) (C := RX9) (T := TX9) (N := 12) hx hb hg inX9 tyX9 tyX9_ok nmX9 hown hK hP hD hS 6 xgTape rfl 6 (by decide) (hg _ w259) (fun _ h9 => h9) rfl (tyX9_ok 6 (by decide)) rfl rfl (Nat.le_of_ble_eq_true rfl) dX9_cut_92 (fun H locs hP hD hS => ?_)
        obtain ⟨V39, hV39⟩ : ∃ z, z = up2 V36 6 6 z38 := ⟨_, rfl⟩
        have ew40 : (xw ad kk V36 L6 Z).set 6 ((ad 6), .inr (9, (xfTape ad V36 L6 Z).set 6 (.int z38))) = xw ad kk V39 L6 Z := by rw [hV39]; exact xw_ss (by decide) rfl (xb_si (by decide))
        have hP : va_P D vwCl (xw ad kk V39 L6 Z) H := by rw [← ew40]; exact hP
        have hD : va_D A (xw ad kk V39 L6 Z) := by rw [← ew40]; exact hD
        have hMV39 : rgd bX V39 := hMV36.put hV39 (show 0 ≤ z38.toInt ∧ z38.toInt ≤ 4000 from by (first | exact om_79968e91715f y1 r1.2 r2.1 hz38 | omega))
        have agV39 : agr [(6, 6), (6, 7)] [12, 13, 14] V V39 := agV36.up hV39 rfl
        refine lv_aload_n hx hb dX9_cut_95 rfl (lv_at hl 1 rfl) ?_
        refine lv_dup hx hb dX9_cut_96 rfl ?_
        refine va_get (D := D) (ci := 9) (v := .int (V39 6 7)) (fs := (xfTape ad V39 L6 Z)) (C := RX9) (T := TX9) (N := 12) hx hb hg inX9 hown hK hP 6 xgTape rfl 7 (by decide) (hg _ w260) (fun _ h9 => h9) rfl dX9_cut_97 ?_
        refine g_top (v := (V 6 7)) ((up2_k hV39 (by decide)).trans ((up2_o hV36 (by decide)).trans (up2_o hV4 (by decide)))) ?_
        refine lv_iconst (v := 1) hx hb dX9_cut_100 (by decide) ?_
        refine lv_iadd hx hb dX9_cut_101 ?_
        refine lv_topi (fun z41 ez41 => ?_)
        have hz41 : z41.toInt = ((V 6 7)).toInt + 1 := i_add ez41 rfl (by decide) (by (first | exact om_8e750d289af3 y2 r3.1 | omega))
        refine va_put (D := D) (ci := 9) (v := .int z41) (ty := tyX9 7) (fs := (xfTape ad V39 L6 Z)) (C := RX9) (T := TX9) (N := 12) hx hb hg inX9 tyX9 tyX9_ok nmX9 hown hK hP hD hS 6 xgTape rfl 7 (by decide) (hg _ w260) (fun _ h9 => h9) rfl (tyX9_ok 7 (by decide)) rfl rfl (Nat.le_of_ble_eq_true rfl) dX9_cut_102 (fun H locs hP hD hS => ?_)
        obtain ⟨V42, hV42⟩ : ∃ z, z = up2 V39 6 7 z41 := ⟨_, rfl⟩
        have ew43 : (xw ad kk V39 L6 Z).set 6 ((ad 6), .inr (9, (xfTape ad V39 L6 Z).set 7 (.int z41))) = xw ad kk V42 L6 Z := by rw [hV42]; exact xw_ss (by decide) rfl (xb_si (by decide))
        have hP : va_P D vwCl (xw ad kk V42 L6 Z) H := by rw [← ew43]; exact hP
        have hD : va_D A (xw ad kk V42 L6 Z) := by rw [← ew43]; exact hD
        have hMV42 : rgd bX V42 := hMV39.put hV42 (show 0 ≤ z41.toInt ∧ z41.toInt ≤ 4000 from by (first | exact om_71db763616c9 y2 r3.1 hz41 | omega))
        have agV42 : agr [(6, 6), (6, 7)] [12, 13, 14] V V42 := agV39.up hV42 rfl
        have pq44 : (V42 6 5).toInt = ((V 6 5)).toInt := congrArg Int32.toInt ((up2_k hV42 (by decide)).trans ((up2_k hV39 (by decide)).trans ((up2_o hV36 (by decide)).trans (up2_o hV4 (by decide)))))
        have pq45 : (V42 6 6).toInt = z38.toInt := congrArg Int32.toInt ((up2_k hV42 (by decide)).trans (up2_s hV39))
        have pq46 : (V42 6 7).toInt = z41.toInt := congrArg Int32.toInt (up2_s hV42)
        exact W.vret hx hb hr (fun t ht hW => ⟨⟨(V42, L6), rfl, ⟨hMV42, agV42, alL6, (show (V42 6 6).toInt ≤ (V42 6 5).toInt from by (first | exact om_1257dc0753d6 y1 hz38 pq44 pq45 | omega)), (show (V42 6 7).toInt = (V 6 7).toInt + 1 from by (first | exact om_689eeacb6d53 hz41 pq46 | omega))⟩, by rw [ht]; exact hP, va_K.moved hW.alike hK, hD⟩, hS.F ht⟩) hS.2.2 dX9_cut_105
    · skip
      have f47 : z13.toInt ≠ 0 := b_neq rfl (by decide) c16
      refine lv_aload_n hx hb dX9_cut_54 rfl (lv_at hl 1 rfl) ?_
      have pq48 : (V4 6 5).toInt = ((V 6 5)).toInt := congrArg Int32.toInt (up2_o hV4 (by decide))
      have pq49 : (V4 6 6).toInt = ((V 6 6)).toInt := congrArg Int32.toInt (up2_o hV4 (by decide))
      have pq50 : (V4 6 7).toInt = ((V 6 7)).toInt := congrArg Int32.toInt (up2_o hV4 (by decide))
      refine gA_void (gA_runV (As := []) (rest := []) (ci := 9) (q0 := 6) hx hb hml hown hg hP hD hK hS hA hnw hgk (x_cutWord l D ks H.size ad kk V4 L6 Z  hMV4 (show (V4 6 6).toInt ≤ (V4 6 5).toInt from by (first | exact om_9edbb4e0d932 y1 pq48 pq49 | omega)) (show (V4 6 7).toInt ≤ 3999 from by (first | exact om_cca9797ede8c y2 pq50 | omega))) w783 w785 w2 w157 w786 rfl xgTape hdV_yX9_cutWord ⟨Nat.le_of_ble_eq_true rfl, Nat.le_of_ble_eq_true rfl⟩ rfl hl.1 rfl (Nat.le_of_ble_eq_true rfl) dX9_cut_55 ⟨Nat.le_of_ble_eq_true rfl, Nat.le_of_ble_eq_true rfl⟩) hP hD hK hS hA (fun u52 H locs w53 hP hD hK hS => ?_)
      obtain ⟨V55, L56⟩ := u52
      obtain ⟨hMV55, ajV55, axL56, t54⟩ := w53
      have alL56 : agL [14] L L56 := agL.tr alL6 axL56 (by decide)
      have hP : va_P D vwCl (xw ad kk V55 L56 Z) H := hP
      have hD : va_D A (xw ad kk V55 L56 Z) := hD
      have hMV55 : rgd bX V55 := hMV55
      have ajV55 : agr [(6, 6)] [12, 14] V4 V55 := ajV55
      have agV55 : agr [(6, 6), (6, 7)] [12, 13, 14] V V55 := agV4.tr ajV55 (by decide) (by decide)
      have t54 : (V55 6 6).toInt ≤ (V4 6 5).toInt := t54
      have r57 : 0 ≤ ((V55 6 6)).toInt ∧ ((V55 6 6)).toInt ≤ 4000 := hMV55 6 6
      refine lv_goto (tgt := 95) hx hb dX9_cut_58 (by decide) ?_
      refine lv_aload_n hx hb dX9_cut_95 rfl (lv_at hl 1 rfl) ?_
      refine lv_dup hx hb dX9_cut_96 rfl ?_
      refine va_get (D := D) (ci := 9) (v := .int (V55 6 7)) (fs := (xfTape ad V55 L56 Z)) (C := RX9) (T := TX9) (N := 12) hx hb hg inX9 hown hK hP 6 xgTape rfl 7 (by decide) (hg _ w260) (fun _ h9 => h9) rfl dX9_cut_97 ?_
      refine g_top (v := (V 6 7)) ((ajV55 6 7 rfl).trans (up2_o hV4 (by decide))) ?_
      refine lv_iconst (v := 1) hx hb dX9_cut_100 (by decide) ?_
      refine lv_iadd hx hb dX9_cut_101 ?_
      refine lv_topi (fun z58 ez58 => ?_)
      have hz58 : z58.toInt = ((V 6 7)).toInt + 1 := i_add ez58 rfl (by decide) (by (first | exact om_8e750d289af3 y2 r3.1 | omega))
      refine va_put (D := D) (ci := 9) (v := .int z58) (ty := tyX9 7) (fs := (xfTape ad V55 L56 Z)) (C := RX9) (T := TX9) (N := 12) hx hb hg inX9 tyX9 tyX9_ok nmX9 hown hK hP hD hS 6 xgTape rfl 7 (by decide) (hg _ w260) (fun _ h9 => h9) rfl (tyX9_ok 7 (by decide)) rfl rfl (Nat.le_of_ble_eq_true rfl) dX9_cut_102 (fun H locs hP hD hS => ?_)
      obtain ⟨V59, hV59⟩ : ∃ z, z = up2 V55 6 7 z58 := ⟨_, rfl⟩
      have ew60 : (xw ad kk V55 L56 Z).set 6 ((ad 6), .inr (9, (xfTape ad V55 L56 Z).set 7 (.int z58))) = xw ad kk V59 L56 Z := by rw [hV59]; exact xw_ss (by decide) rfl (xb_si (by decide))
      have hP : va_P D vwCl (xw ad kk V59 L56 Z) H := by rw [← ew60]; exact hP
      have hD : va_D A (xw ad kk V59 L56 Z) := by rw [← ew60]; exact hD
      have hMV59 : rgd bX V59 := hMV55.put hV59 (show 0 ≤ z58.toInt ∧ z58.toInt ≤ 4000 from by (first | exact om_71db763616c9 y2 r3.1 hz58 | omega))
      have agV59 : agr [(6, 6), (6, 7)] [12, 13, 14] V V59 := agV55.up hV59 rfl
      have pq61 : (V59 6 5).toInt = ((V 6 5)).toInt := congrArg Int32.toInt ((up2_k hV59 (by decide)).trans ((ajV55 6 5 rfl).trans (up2_o hV4 (by decide))))
      have pq62 : (V59 6 6).toInt = ((V55 6 6)).toInt := congrArg Int32.toInt (up2_k hV59 (by decide))
      have pq63 : (V59 6 7).toInt = z58.toInt := congrArg Int32.toInt (up2_s hV59)
      exact W.vret hx hb hr (fun t ht hW => ⟨⟨(V59, L56), rfl, ⟨hMV59, agV59, alL56, (show (V59 6 6).toInt ≤ (V59 6 5).toInt from by (first | exact om_76c50b47cb99 pq48 t54 pq61 pq62 | omega)), (show (V59 6 7).toInt = (V 6 7).toInt + 1 from by (first | exact om_689eeacb6d53 hz58 pq63 | omega))⟩, by rw [ht]; exact hP, va_K.moved hW.alike hK, hD⟩, hS.F ht⟩) hS.2.2 dX9_cut_105
  · skip
    have f64 : z8.toInt ≠ 0 := b_neq rfl (by decide) c11
    refine lv_aload_n hx hb dX9_cut_40 rfl (lv_at hl 1 rfl) ?_
    have pq65 : (V4 6 5).toInt = ((V 6 5)).toInt := congrArg Int32.toInt (up2_o hV4 (by decide))
    have pq66 : (V4 6 6).toInt = ((V 6 6)).toInt := congrArg Int32.toInt (up2_o hV4 (by decide))
    have pq67 : (V4 6 7).toInt = ((V 6 7)).toInt := congrArg Int32.toInt (up2_o hV4 (by decide))
    refine gA_void (gA_runV (As := []) (rest := []) (ci := 9) (q0 := 6) hx hb hml hown hg hP hD hK hS hA hnw hgk (x_cutNumber l D ks H.size ad kk V4 L6 Z  hMV4 (show (V4 6 6).toInt ≤ (V4 6 5).toInt from by (first | exact om_9edbb4e0d932 y1 pq65 pq66 | omega)) (show (V4 6 7).toInt < (V4 6 6).toInt ∨ (V4 6 7).toInt ≤ 3999 from by omega)) w774 w776 w1 w157 w777 rfl xgTape hdV_yX9_cutNumber ⟨Nat.le_of_ble_eq_true rfl, Nat.le_of_ble_eq_true rfl⟩ rfl hl.1 rfl (Nat.le_of_ble_eq_true rfl) dX9_cut_41 ⟨Nat.le_of_ble_eq_true rfl, Nat.le_of_ble_eq_true rfl⟩) hP hD hK hS hA (fun u69 H locs w70 hP hD hK hS => ?_)
    obtain ⟨V73, L74⟩ := u69
    obtain ⟨hMV73, ajV73, axL74, t71, t72⟩ := w70
    have alL74 : agL [14] L L74 := agL.tr alL6 axL74 (by decide)
    have hP : va_P D vwCl (xw ad kk V73 L74 Z) H := hP
    have hD : va_D A (xw ad kk V73 L74 Z) := hD
    have hMV73 : rgd bX V73 := hMV73
    have ajV73 : agr [(6, 6)] [12, 14] V4 V73 := ajV73
    have agV73 : agr [(6, 6), (6, 7)] [12, 13, 14] V V73 := agV4.tr ajV73 (by decide) (by decide)
    have t71 : (V73 6 6).toInt ≤ (V4 6 5).toInt := t71
    have t72 : (V4 6 6).toInt ≤ (V73 6 6).toInt := t72
    have r75 : 0 ≤ ((V73 6 6)).toInt ∧ ((V73 6 6)).toInt ≤ 4000 := hMV73 6 6
    refine lv_goto (tgt := 95) hx hb dX9_cut_44 (by decide) ?_
    refine lv_aload_n hx hb dX9_cut_95 rfl (lv_at hl 1 rfl) ?_
    refine lv_dup hx hb dX9_cut_96 rfl ?_
    refine va_get (D := D) (ci := 9) (v := .int (V73 6 7)) (fs := (xfTape ad V73 L74 Z)) (C := RX9) (T := TX9) (N := 12) hx hb hg inX9 hown hK hP 6 xgTape rfl 7 (by decide) (hg _ w260) (fun _ h9 => h9) rfl dX9_cut_97 ?_
    refine g_top (v := (V 6 7)) ((ajV73 6 7 rfl).trans (up2_o hV4 (by decide))) ?_
    refine lv_iconst (v := 1) hx hb dX9_cut_100 (by decide) ?_
    refine lv_iadd hx hb dX9_cut_101 ?_
    refine lv_topi (fun z76 ez76 => ?_)
    have hz76 : z76.toInt = ((V 6 7)).toInt + 1 := i_add ez76 rfl (by decide) (by (first | exact om_8e750d289af3 y2 r3.1 | omega))
    refine va_put (D := D) (ci := 9) (v := .int z76) (ty := tyX9 7) (fs := (xfTape ad V73 L74 Z)) (C := RX9) (T := TX9) (N := 12) hx hb hg inX9 tyX9 tyX9_ok nmX9 hown hK hP hD hS 6 xgTape rfl 7 (by decide) (hg _ w260) (fun _ h9 => h9) rfl (tyX9_ok 7 (by decide)) rfl rfl (Nat.le_of_ble_eq_true rfl) dX9_cut_102 (fun H locs hP hD hS => ?_)
    obtain ⟨V77, hV77⟩ : ∃ z, z = up2 V73 6 7 z76 := ⟨_, rfl⟩
    have ew78 : (xw ad kk V73 L74 Z).set 6 ((ad 6), .inr (9, (xfTape ad V73 L74 Z).set 7 (.int z76))) = xw ad kk V77 L74 Z := by rw [hV77]; exact xw_ss (by decide) rfl (xb_si (by decide))
    have hP : va_P D vwCl (xw ad kk V77 L74 Z) H := by rw [← ew78]; exact hP
    have hD : va_D A (xw ad kk V77 L74 Z) := by rw [← ew78]; exact hD
    have hMV77 : rgd bX V77 := hMV73.put hV77 (show 0 ≤ z76.toInt ∧ z76.toInt ≤ 4000 from by (first | exact om_71db763616c9 y2 r3.1 hz76 | omega))
    have agV77 : agr [(6, 6), (6, 7)] [12, 13, 14] V V77 := agV73.up hV77 rfl
    have pq79 : (V77 6 5).toInt = ((V 6 5)).toInt := congrArg Int32.toInt ((up2_k hV77 (by decide)).trans ((ajV73 6 5 rfl).trans (up2_o hV4 (by decide))))
    have pq80 : (V77 6 6).toInt = ((V73 6 6)).toInt := congrArg Int32.toInt (up2_k hV77 (by decide))
    have pq81 : (V77 6 7).toInt = z76.toInt := congrArg Int32.toInt (up2_s hV77)
    exact W.vret hx hb hr (fun t ht hW => ⟨⟨(V77, L74), rfl, ⟨hMV77, agV77, alL74, (show (V77 6 6).toInt ≤ (V77 6 5).toInt from by (first | exact om_76c50b47cb99 pq65 t71 pq79 pq80 | omega)), (show (V77 6 7).toInt = (V 6 7).toInt + 1 from by (first | exact om_689eeacb6d53 hz76 pq81 | omega))⟩, by rw [ht]; exact hP, va_K.moved hW.alike hK, hD⟩, hS.F ht⟩) hS.2.2 dX9_cut_105
abbrev r_x_begin : Room := { frames := 5, cells := 0, slots := 0, locals := 112 }
abbrev q_x_begin (D : va_G) (ks : KS) (ad : Nat → Nat) (kk : Nat → ClassId) (V : Vf) (L : Lf) (Z : XZ) (A : Nat → Prop) : Array Value → State → Outcome → State → Prop := va_Qv (fun (u : Vf × Lf) => rgd bX u.1 ∧ agr [(6, 6), (6, 7), (6, 8), (6, 9), (6, 10)] [12, 13, 14] V u.1 ∧ agL [6, 14] L u.2) (fun u t => gq D A (xw ad kk u.1 u.2 Z) (xty kk Z) t) A
set_option maxHeartbeats 4000000 in
set_option maxRecDepth 100000 in
theorem x_begin (l : Launch) (D : va_G) (ks : KS) (sz : Nat) (ad : Nat → Nat) (kk : Nat → ClassId) (V : Vf) (L : Lf) (Z : XZ)  (hMV : rgd bX V)  : Met l yX9_begin (Cond.code yX9_begin cX9_begin 2 none :: GW) r_x_begin (va_Pc [.ref (ad 6)] (gp D ks (xw ad kk V L Z) (xty kk Z) sz)) (q_x_begin D ks ad kk V L Z  (va_A (xw ad kk V L Z) sz)) 0 0 (va_A (xw ad kk V L Z) sz) := by
  refine g_met (q_x_begin D ks ad kk V L Z) (by decide) (Nat.le_of_ble_eq_true rfl) ?_
  intro p e s m below meth c A ls H locs hx hb hr hml hown hg hlocks hin hnw hgk hP hK hD hS hA hl
  have hown : s.vm.findClass RX9 = some m.cls := hown
  have hl : lv_has ls 2 [(0, .ref (ad 6))] := hl
  have hP : va_P D vwCl (xw ad kk V L Z) H := hP
  have hD : va_D A (xw ad kk V L Z) := hD
  have hK : va_K D vwCl (xty kk Z) s := hK
  have agV : agr [(6, 6), (6, 7), (6, 8), (6, 9), (6, 10)] [12, 13, 14] V V := agr.rf
  have alL : agL [6, 14] L L := agL.rf
  refine lv_aload_n hx hb dX9_begin_0 rfl (lv_at hl 0 rfl) ?_
  refine lv_iconst (v := 0) hx hb dX9_begin_1 (by decide) ?_
  refine va_put (D := D) (ci := 9) (v := .int 0) (ty := tyX9 6) (fs := (xfTape ad V L Z)) (C := RX9) (T := TX9) (N := 12) hx hb hg inX9 tyX9 tyX9_ok nmX9 hown hK hP hD hS 6 xgTape rfl 6 (by decide) (hg _ w259) (fun _ h9 => h9) rfl (tyX9_ok 6 (by decide)) rfl rfl (Nat.le_of_ble_eq_true rfl) dX9_begin_2 (fun H locs hP hD hS => ?_)
  obtain ⟨V1, hV1⟩ : ∃ z, z = up2 V 6 6 0 := ⟨_, rfl⟩
  have ew2 : (xw ad kk V L Z).set 6 ((ad 6), .inr (9, (xfTape ad V L Z).set 6 (.int 0))) = xw ad kk V1 L Z := by rw [hV1]; exact xw_ss (by decide) rfl (xb_si (by decide))
  have hP : va_P D vwCl (xw ad kk V1 L Z) H := by rw [← ew2]; exact hP
  have hD : va_D A (xw ad kk V1 L Z) := by rw [← ew2]; exact hD
  have hMV1 : rgd bX V1 := hMV.put hV1 (by decide)
  have agV1 : agr [(6, 6), (6, 7), (6, 8), (6, 9), (6, 10)] [12, 13, 14] V V1 := agV.up hV1 rfl
  refine lv_aload_n hx hb dX9_begin_5 rfl (lv_at hl 0 rfl) ?_
  refine lv_iconst (v := 0) hx hb dX9_begin_6 (by decide) ?_
  refine va_put (D := D) (ci := 9) (v := .int 0) (ty := tyX9 7) (fs := (xfTape ad V1 L Z)) (C := RX9) (T := TX9) (N := 12) hx hb hg inX9 tyX9 tyX9_ok nmX9 hown hK hP hD hS 6 xgTape rfl 7 (by decide) (hg _ w260) (fun _ h9 => h9) rfl (tyX9_ok 7 (by decide)) rfl rfl (Nat.le_of_ble_eq_true rfl) dX9_begin_7 (fun H locs hP hD hS => ?_)
  obtain ⟨V3, hV3⟩ : ∃ z, z = up2 V1 6 7 0 := ⟨_, rfl⟩
  have ew4 : (xw ad kk V1 L Z).set 6 ((ad 6), .inr (9, (xfTape ad V1 L Z).set 7 (.int 0))) = xw ad kk V3 L Z := by rw [hV3]; exact xw_ss (by decide) rfl (xb_si (by decide))
  have hP : va_P D vwCl (xw ad kk V3 L Z) H := by rw [← ew4]; exact hP
  have hD : va_D A (xw ad kk V3 L Z) := by rw [← ew4]; exact hD
  have hMV3 : rgd bX V3 := hMV1.put hV3 (by decide)
  have agV3 : agr [(6, 6), (6, 7), (6, 8), (6, 9), (6, 10)] [12, 13, 14] V V3 := agV1.up hV3 rfl
  refine lv_iconst (v := 0) hx hb dX9_begin_10 (by decide) ?_
  refine lv_istore_n (lv' := [(1, .int 0), (0, .ref (ad 6))]) hx hb dX9_begin_11 rfl hl (by decide) rfl (fun ls hl => ?_)
  have lp8 : ∀ (fulp8 : Nat) (y5 : Int32) (V6 : Vf) (L7 : Lf) (H : Heap) (locs : List Loc) (ls : Array Slot), 0 ≤ y5.toInt ∧ y5.toInt ≤ 4000 → (V6 6 6).toInt ≤ (V6 6 5).toInt → (V6 6 7).toInt ≤ y5.toInt → 4000 - y5.toInt < (fulp8 : Int) → agL [6, 14] L L7 → agr [(6, 6), (6, 7)] [12, 13, 14] V3 V6 → rgd bX V6 → va_P D vwCl (xw ad kk V6 L7 Z) H → va_D A (xw ad kk V6 L7 Z) → va_S A s.heap H locs → lv_has ls 2 [(1, .int y5), (0, .ref (ad 6))] → W p l e r_x_begin s m ([.ref (ad 6)] : List Value).toArray below meth c H locs 0 0 (MQ below (q_x_begin D ks ad kk V L Z  A) ([.ref (ad 6)] : List Value).toArray s 0 0 A) (F0 m 12 ls []) := by
    intro fulp8
    induction fulp8 with
    | zero =>
      intro y5 V6 L7 H locs ls klp8_0 xlp8_0 xlp8_1 hn alL7 ajV6 hMV6 hP hD hS hl
      exfalso; (first | exact om_03b755d7679e klp8_0.2 hn | omega)
    | succ fulp8 ihlp8 =>
      intro y5 V6 L7 H locs ls klp8_0 xlp8_0 xlp8_1 hn alL7 ajV6 hMV6 hP hD hS hl
      have agV6 : agr [(6, 6), (6, 7), (6, 8), (6, 9), (6, 10)] [12, 13, 14] V V6 := agV3.tr ajV6 (by decide) (by decide)
      have pq9 : (V6 6 5).toInt = ((V 6 5)).toInt := congrArg Int32.toInt ((ajV6 6 5 rfl).trans ((up2_k hV3 (by decide)).trans (up2_k hV1 (by decide))))
      have r10 : 0 ≤ ((V 6 5)).toInt ∧ ((V 6 5)).toInt ≤ 4000 := hMV 6 5
      have r11 : 0 ≤ ((V6 6 6)).toInt ∧ ((V6 6 6)).toInt ≤ 4000 := hMV6 6 6
      have r12 : 0 ≤ ((V6 6 7)).toInt ∧ ((V6 6 7)).toInt ≤ 4000 := hMV6 6 7
      refine lv_iload_n hx hb dX9_begin_12 rfl (lv_at hl 0 rfl) ?_
      refine lv_sipush (v := 4000) hx hb dX9_begin_13 (by decide) ?_
      refine lv_icmp_ge (tgt := 81) hx hb dX9_begin_16 (by decide) (fun c13 => ?_) (fun c13 => ?_)
      · skip
        have f14 : 4000 ≤ y5.toInt := b_le (by decide) rfl c13
        refine lv_aload_n hx hb dX9_begin_81 rfl (lv_at hl 1 rfl) ?_
        refine va_get (D := D) (ci := 9) (v := .ref (ad 9)) (fs := (xfTape ad V6 L7 Z)) (C := RX9) (T := TX9) (N := 12) hx hb hg inX9 hown hK hP 6 xgTape rfl 2 (by decide) (hg _ w254) (fun _ h9 => h9) rfl dX9_begin_82 ?_
        refine lv_aload_n hx hb dX9_begin_85 rfl (lv_at hl 1 rfl) ?_
        refine va_get (D := D) (ci := 9) (v := .int (V6 6 7)) (fs := (xfTape ad V6 L7 Z)) (C := RX9) (T := TX9) (N := 12) hx hb hg inX9 hown hK hP 6 xgTape rfl 7 (by decide) (hg _ w260) (fun _ h9 => h9) rfl dX9_begin_86 ?_
        refine lv_iconst (v := 0) hx hb dX9_begin_89 (by decide) ?_
        refine va_iast (D := D) (i := (V6 6 7)) (x := 0) hx hb hK hP hD hS 9 2 rfl rfl (i_in (a := ((V6 6 7)).toInt) rfl (by (first | exact om_d7f25fda8b0e r12.1 r12.2 | omega))) dX9_begin_90 (fun H locs hP hD hS => ?_)
        obtain ⟨V15, hV15⟩ : ∃ z, z = up2 V6 12 (Int32.toNatClampNeg (V6 6 7)) 0 := ⟨_, rfl⟩
        have ew16 : (xw ad kk V6 L7 Z).set 9 ((ad 9), .inl ((kk 9), 4001, .inl (upd (V6 12) (Int32.toNatClampNeg (V6 6 7)) 0))) = xw ad kk V15 L7 Z := by rw [hV15]; exact xw_ss (by decide) rfl (xb_si (by decide))
        have hP : va_P D vwCl (xw ad kk V15 L7 Z) H := by rw [← ew16]; exact hP
        have hD : va_D A (xw ad kk V15 L7 Z) := by rw [← ew16]; exact hD
        have hMV15 : rgd bX V15 := hMV6.put hV15 (i_full _)
        have agV15 : agr [(6, 6), (6, 7), (6, 8), (6, 9), (6, 10)] [12, 13, 14] V V15 := agV6.up hV15 rfl
        refine lv_aload_n hx hb dX9_begin_91 rfl (lv_at hl 1 rfl) ?_
        refine va_get (D := D) (ci := 9) (v := .ref (ad 10)) (fs := (xfTape ad V15 L7 Z)) (C := RX9) (T := TX9) (N := 12) hx hb hg inX9 hown hK hP 6 xgTape rfl 3 (by decide) (hg _ w255) (fun _ h9 => h9) rfl dX9_begin_92 ?_
        refine lv_aload_n hx hb dX9_begin_95 rfl (lv_at hl 1 rfl) ?_
        refine va_get (D := D) (ci := 9) (v := .int (V15 6 7)) (fs := (xfTape ad V15 L7 Z)) (C := RX9) (T := TX9) (N := 12) hx hb hg inX9 hown hK hP 6 xgTape rfl 7 (by decide) (hg _ w260) (fun _ h9 => h9) rfl dX9_begin_96 ?_
        refine g_top (v := (V6 6 7)) (up2_o hV15 (by decide)) ?_
        refine lv_aload_n hx hb dX9_begin_99 rfl (lv_at hl 1 rfl) ?_
        refine va_get (D := D) (ci := 9) (v := .int (V15 6 5)) (fs := (xfTape ad V15 L7 Z)) (C := RX9) (T := TX9) (N := 12) hx hb hg inX9 hown hK hP 6 xgTape rfl 5 (by decide) (hg _ w258) (fun _ h9 => h9) rfl dX9_begin_100 ?_
        refine g_top (v := (V 6 5)) ((up2_o hV15 (by decide)).trans ((ajV6 6 5 rfl).trans ((up2_k hV3 (by decide)).trans (up2_k hV1 (by decide))))) ?_
        refine va_iast (D := D) (i := (V6 6 7)) (x := (V 6 5)) hx hb hK hP hD hS 10 3 rfl rfl (i_in (a := ((V6 6 7)).toInt) rfl (by (first | exact om_d7f25fda8b0e r12.1 r12.2 | omega))) dX9_begin_103 (fun H locs hP hD hS => ?_)
        obtain ⟨V17, hV17⟩ : ∃ z, z = up2 V15 13 (Int32.toNatClampNeg (V6 6 7)) (V 6 5) := ⟨_, rfl⟩
        have ew18 : (xw ad kk V15 L7 Z).set 10 ((ad 10), .inl ((kk 10), 4001, .inl (upd (V15 13) (Int32.toNatClampNeg (V6 6 7)) (V 6 5)))) = xw ad kk V17 L7 Z := by rw [hV17]; exact xw_ss (by decide) rfl (xb_si (by decide))
        have hP : va_P D vwCl (xw ad kk V17 L7 Z) H := by rw [← ew18]; exact hP
        have hD : va_D A (xw ad kk V17 L7 Z) := by rw [← ew18]; exact hD
        have hMV17 : rgd bX V17 := hMV15.put hV17 (show 0 ≤ ((V 6 5)).toInt ∧ ((V 6 5)).toInt ≤ 4000 from by (first | exact om_1194ef72f15b r10.1 r10.2 | omega))
        have agV17 : agr [(6, 6), (6, 7), (6, 8), (6, 9), (6, 10)] [12, 13, 14] V V17 := agV15.up hV17 rfl
        refine lv_aload_n hx hb dX9_begin_104 rfl (lv_at hl 1 rfl) ?_
        refine va_get (D := D) (ci := 9) (v := .ref (ad 11)) (fs := (xfTape ad V17 L7 Z)) (C := RX9) (T := TX9) (N := 12) hx hb hg inX9 hown hK hP 6 xgTape rfl 4 (by decide) (hg _ w256) (fun _ h9 => h9) rfl dX9_begin_105 ?_
        refine lv_aload_n hx hb dX9_begin_108 rfl (lv_at hl 1 rfl) ?_
        refine va_get (D := D) (ci := 9) (v := .int (V17 6 7)) (fs := (xfTape ad V17 L7 Z)) (C := RX9) (T := TX9) (N := 12) hx hb hg inX9 hown hK hP 6 xgTape rfl 7 (by decide) (hg _ w260) (fun _ h9 => h9) rfl dX9_begin_109 ?_
        refine g_top (v := (V6 6 7)) ((up2_o hV17 (by decide)).trans (up2_o hV15 (by decide))) ?_
        refine lv_lconst (v := 0) hx hb dX9_begin_112 (by decide) ?_
        refine va_last (D := D) (i := (V6 6 7)) (x := 0) hx hb hK hP hD hS 11 4 rfl rfl (i_in (a := ((V6 6 7)).toInt) rfl (by (first | exact om_d7f25fda8b0e r12.1 r12.2 | omega))) dX9_begin_113 (fun H locs hP hD hS => ?_)
        obtain ⟨L19, hL19⟩ : ∃ z, z = upL L7 14 (Int32.toNatClampNeg (V6 6 7)) 0 := ⟨_, rfl⟩
        have ew20 : (xw ad kk V17 L7 Z).set 11 ((ad 11), .inl ((kk 11), 4001, .inr (.inl (vp_updL (L7 14) (Int32.toNatClampNeg (V6 6 7)) 0)))) = xw ad kk V17 L19 Z := by rw [hL19]; exact xw_ss (by decide) rfl (fun j => xe_L (fun a => absurd a.1 (by decide)))
        have hP : va_P D vwCl (xw ad kk V17 L19 Z) H := by rw [← ew20]; exact hP
        have hD : va_D A (xw ad kk V17 L19 Z) := by rw [← ew20]; exact hD
        have alL19 : agL [6, 14] L L19 := agL.up alL7 hL19 rfl
        refine lv_aload_n hx hb dX9_begin_114 rfl (lv_at hl 1 rfl) ?_
        refine lv_iconst (v := 0) hx hb dX9_begin_115 (by decide) ?_
        refine va_put (D := D) (ci := 9) (v := .int 0) (ty := tyX9 8) (fs := (xfTape ad V17 L19 Z)) (C := RX9) (T := TX9) (N := 12) hx hb hg inX9 tyX9 tyX9_ok nmX9 hown hK hP hD hS 6 xgTape rfl 8 (by decide) (hg _ w261) (fun _ h9 => h9) rfl (tyX9_ok 8 (by decide)) rfl rfl (Nat.le_of_ble_eq_true rfl) dX9_begin_116 (fun H locs hP hD hS => ?_)
        obtain ⟨V21, hV21⟩ : ∃ z, z = up2 V17 6 8 0 := ⟨_, rfl⟩
        have ew22 : (xw ad kk V17 L19 Z).set 6 ((ad 6), .inr (9, (xfTape ad V17 L19 Z).set 8 (.int 0))) = xw ad kk V21 L19 Z := by rw [hV21]; exact xw_ss (by decide) rfl (xb_si (by decide))
        have hP : va_P D vwCl (xw ad kk V21 L19 Z) H := by rw [← ew22]; exact hP
        have hD : va_D A (xw ad kk V21 L19 Z) := by rw [← ew22]; exact hD
        have hMV21 : rgd bX V21 := hMV17.put hV21 (by decide)
        have agV21 : agr [(6, 6), (6, 7), (6, 8), (6, 9), (6, 10)] [12, 13, 14] V V21 := agV17.up hV21 rfl
        refine lv_aload_n hx hb dX9_begin_119 rfl (lv_at hl 1 rfl) ?_
        refine gA_void (gA_runV (As := []) (rest := []) (ci := 9) (q0 := 6) hx hb hml hown hg hP hD hK hS hA hnw hgk (x_next l D ks H.size ad kk V21 L19 Z  hMV21 ) w851 w852 w853 w157 w854 rfl xgTape hdV_yX9_next ⟨Nat.le_of_ble_eq_true rfl, Nat.le_of_ble_eq_true rfl⟩ rfl hl.1 rfl (Nat.le_of_ble_eq_true rfl) dX9_begin_120 ⟨Nat.le_of_ble_eq_true rfl, Nat.le_of_ble_eq_true rfl⟩) hP hD hK hS hA (fun u24 H locs w25 hP hD hK hS => ?_)
        obtain ⟨V26, L27⟩ := u24
        obtain ⟨hMV26, ajV26, axL27⟩ := w25
        have alL27 : agL [6, 14] L L27 := agL.tr alL19 axL27 (by decide)
        have hP : va_P D vwCl (xw ad kk V26 L27 Z) H := hP
        have hD : va_D A (xw ad kk V26 L27 Z) := hD
        have hMV26 : rgd bX V26 := hMV26
        have ajV26 : agr [(6, 8), (6, 9), (6, 10)] [] V21 V26 := ajV26
        have agV26 : agr [(6, 6), (6, 7), (6, 8), (6, 9), (6, 10)] [12, 13, 14] V V26 := agV21.tr ajV26 (by decide) (by decide)
        exact W.vret hx hb hr (fun t ht hW => ⟨⟨(V26, L27), rfl, ⟨hMV26, agV26, alL27⟩, by rw [ht]; exact hP, va_K.moved hW.alike hK, hD⟩, hS.F ht⟩) hS.2.2 dX9_begin_123
      · skip
        have f28 : y5.toInt < 4000 := b_nle (by decide) rfl c13
        refine lv_aload_n hx hb dX9_begin_19 rfl (lv_at hl 1 rfl) ?_
        refine va_get (D := D) (ci := 9) (v := .int (V6 6 6)) (fs := (xfTape ad V6 L7 Z)) (C := RX9) (T := TX9) (N := 12) hx hb hg inX9 hown hK hP 6 xgTape rfl 6 (by decide) (hg _ w259) (fun _ h9 => h9) rfl dX9_begin_20 ?_
        refine lv_aload_n hx hb dX9_begin_23 rfl (lv_at hl 1 rfl) ?_
        refine va_get (D := D) (ci := 9) (v := .int (V6 6 5)) (fs := (xfTape ad V6 L7 Z)) (C := RX9) (T := TX9) (N := 12) hx hb hg inX9 hown hK hP 6 xgTape rfl 5 (by decide) (hg _ w258) (fun _ h9 => h9) rfl dX9_begin_24 ?_
        refine g_top (v := (V 6 5)) ((ajV6 6 5 rfl).trans ((up2_k hV3 (by decide)).trans (up2_k hV1 (by decide)))) ?_
        refine lv_icmp_ge (tgt := 81) hx hb dX9_begin_27 (by decide) (fun c29 => ?_) (fun c29 => ?_)
        · skip
          have f30 : ((V 6 5)).toInt ≤ ((V6 6 6)).toInt := b_le rfl rfl c29
          refine lv_aload_n hx hb dX9_begin_81 rfl (lv_at hl 1 rfl) ?_
          refine va_get (D := D) (ci := 9) (v := .ref (ad 9)) (fs := (xfTape ad V6 L7 Z)) (C := RX9) (T := TX9) (N := 12) hx hb hg inX9 hown hK hP 6 xgTape rfl 2 (by decide) (hg _ w254) (fun _ h9 => h9) rfl dX9_begin_82 ?_
          refine lv_aload_n hx hb dX9_begin_85 rfl (lv_at hl 1 rfl) ?_
          refine va_get (D := D) (ci := 9) (v := .int (V6 6 7)) (fs := (xfTape ad V6 L7 Z)) (C := RX9) (T := TX9) (N := 12) hx hb hg inX9 hown hK hP 6 xgTape rfl 7 (by decide) (hg _ w260) (fun _ h9 => h9) rfl dX9_begin_86 ?_
          refine lv_iconst (v := 0) hx hb dX9_begin_89 (by decide) ?_
          refine va_iast (D := D) (i := (V6 6 7)) (x := 0) hx hb hK hP hD hS 9 2 rfl rfl (i_in (a := ((V6 6 7)).toInt) rfl (by (first | exact om_fe84a465e0a9 xlp8_1 r12.1 f28 | omega))) dX9_begin_90 (fun H locs hP hD hS => ?_)
          obtain ⟨V31, hV31⟩ : ∃ z, z = up2 V6 12 (Int32.toNatClampNeg (V6 6 7)) 0 := ⟨_, rfl⟩
          have ew32 : (xw ad kk V6 L7 Z).set 9 ((ad 9), .inl ((kk 9), 4001, .inl (upd (V6 12) (Int32.toNatClampNeg (V6 6 7)) 0))) = xw ad kk V31 L7 Z := by rw [hV31]; exact xw_ss (by decide) rfl (xb_si (by decide))
          have hP : va_P D vwCl (xw ad kk V31 L7 Z) H := by rw [← ew32]; exact hP
          have hD : va_D A (xw ad kk V31 L7 Z) := by rw [← ew32]; exact hD
          have hMV31 : rgd bX V31 := hMV6.put hV31 (i_full _)
          have agV31 : agr [(6, 6), (6, 7), (6, 8), (6, 9), (6, 10)] [12, 13, 14] V V31 := agV6.up hV31 rfl
          refine lv_aload_n hx hb dX9_begin_91 rfl (lv_at hl 1 rfl) ?_
          refine va_get (D := D) (ci := 9) (v := .ref (ad 10)) (fs := (xfTape ad V31 L7 Z)) (C := RX9) (T := TX9) (N := 12) hx hb hg inX9 hown hK hP 6 xgTape rfl 3 (by decide) (hg _ w255) (fun _ h9 => h9) rfl dX9_begin_92 ?_
          refine lv_aload_n hx hb dX9_begin_95 rfl (lv_at hl 1 rfl) ?_
          refine va_get (D := D) (ci := 9) (v := .int (V31 6 7)) (fs := (xfTape ad V31 L7 Z)) (C := RX9) (T := TX9) (N := 12) hx hb hg inX9 hown hK hP 6 xgTape rfl 7 (by decide) (hg _ w260) (fun _ h9 => h9) rfl dX9_begin_96 ?_
          refine g_top (v := (V6 6 7)) (up2_o hV31 (by decide)) ?_
          refine lv_aload_n hx hb dX9_begin_99 rfl (lv_at hl 1 rfl) ?_
          refine va_get (D := D) (ci := 9) (v := .int (V31 6 5)) (fs := (xfTape ad V31 L7 Z)) (C := RX9) (T := TX9) (N := 12) hx hb hg inX9 hown hK hP 6 xgTape rfl 5 (by decide) (hg _ w258) (fun _ h9 => h9) rfl dX9_begin_100 ?_
          refine g_top (v := (V 6 5)) ((up2_o hV31 (by decide)).trans ((ajV6 6 5 rfl).trans ((up2_k hV3 (by decide)).trans (up2_k hV1 (by decide))))) ?_
          refine va_iast (D := D) (i := (V6 6 7)) (x := (V 6 5)) hx hb hK hP hD hS 10 3 rfl rfl (i_in (a := ((V6 6 7)).toInt) rfl (by (first | exact om_fe84a465e0a9 xlp8_1 r12.1 f28 | omega))) dX9_begin_103 (fun H locs hP hD hS => ?_)
          obtain ⟨V33, hV33⟩ : ∃ z, z = up2 V31 13 (Int32.toNatClampNeg (V6 6 7)) (V 6 5) := ⟨_, rfl⟩
          have ew34 : (xw ad kk V31 L7 Z).set 10 ((ad 10), .inl ((kk 10), 4001, .inl (upd (V31 13) (Int32.toNatClampNeg (V6 6 7)) (V 6 5)))) = xw ad kk V33 L7 Z := by rw [hV33]; exact xw_ss (by decide) rfl (xb_si (by decide))
          have hP : va_P D vwCl (xw ad kk V33 L7 Z) H := by rw [← ew34]; exact hP
          have hD : va_D A (xw ad kk V33 L7 Z) := by rw [← ew34]; exact hD
          have hMV33 : rgd bX V33 := hMV31.put hV33 (show 0 ≤ ((V 6 5)).toInt ∧ ((V 6 5)).toInt ≤ 4000 from by (first | exact om_d7d791e66fbf xlp8_0 pq9 r11.1 r11.2 f30 | omega))
          have agV33 : agr [(6, 6), (6, 7), (6, 8), (6, 9), (6, 10)] [12, 13, 14] V V33 := agV31.up hV33 rfl
          refine lv_aload_n hx hb dX9_begin_104 rfl (lv_at hl 1 rfl) ?_
          refine va_get (D := D) (ci := 9) (v := .ref (ad 11)) (fs := (xfTape ad V33 L7 Z)) (C := RX9) (T := TX9) (N := 12) hx hb hg inX9 hown hK hP 6 xgTape rfl 4 (by decide) (hg _ w256) (fun _ h9 => h9) rfl dX9_begin_105 ?_
          refine lv_aload_n hx hb dX9_begin_108 rfl (lv_at hl 1 rfl) ?_
          refine va_get (D := D) (ci := 9) (v := .int (V33 6 7)) (fs := (xfTape ad V33 L7 Z)) (C := RX9) (T := TX9) (N := 12) hx hb hg inX9 hown hK hP 6 xgTape rfl 7 (by decide) (hg _ w260) (fun _ h9 => h9) rfl dX9_begin_109 ?_
          refine g_top (v := (V6 6 7)) ((up2_o hV33 (by decide)).trans (up2_o hV31 (by decide))) ?_
          refine lv_lconst (v := 0) hx hb dX9_begin_112 (by decide) ?_
          refine va_last (D := D) (i := (V6 6 7)) (x := 0) hx hb hK hP hD hS 11 4 rfl rfl (i_in (a := ((V6 6 7)).toInt) rfl (by (first | exact om_fe84a465e0a9 xlp8_1 r12.1 f28 | omega))) dX9_begin_113 (fun H locs hP hD hS => ?_)
          obtain ⟨L35, hL35⟩ : ∃ z, z = upL L7 14 (Int32.toNatClampNeg (V6 6 7)) 0 := ⟨_, rfl⟩
          have ew36 : (xw ad kk V33 L7 Z).set 11 ((ad 11), .inl ((kk 11), 4001, .inr (.inl (vp_updL (L7 14) (Int32.toNatClampNeg (V6 6 7)) 0)))) = xw ad kk V33 L35 Z := by rw [hL35]; exact xw_ss (by decide) rfl (fun j => xe_L (fun a => absurd a.1 (by decide)))
          have hP : va_P D vwCl (xw ad kk V33 L35 Z) H := by rw [← ew36]; exact hP
          have hD : va_D A (xw ad kk V33 L35 Z) := by rw [← ew36]; exact hD
          have alL35 : agL [6, 14] L L35 := agL.up alL7 hL35 rfl
          refine lv_aload_n hx hb dX9_begin_114 rfl (lv_at hl 1 rfl) ?_
          refine lv_iconst (v := 0) hx hb dX9_begin_115 (by decide) ?_
          refine va_put (D := D) (ci := 9) (v := .int 0) (ty := tyX9 8) (fs := (xfTape ad V33 L35 Z)) (C := RX9) (T := TX9) (N := 12) hx hb hg inX9 tyX9 tyX9_ok nmX9 hown hK hP hD hS 6 xgTape rfl 8 (by decide) (hg _ w261) (fun _ h9 => h9) rfl (tyX9_ok 8 (by decide)) rfl rfl (Nat.le_of_ble_eq_true rfl) dX9_begin_116 (fun H locs hP hD hS => ?_)
          obtain ⟨V37, hV37⟩ : ∃ z, z = up2 V33 6 8 0 := ⟨_, rfl⟩
          have ew38 : (xw ad kk V33 L35 Z).set 6 ((ad 6), .inr (9, (xfTape ad V33 L35 Z).set 8 (.int 0))) = xw ad kk V37 L35 Z := by rw [hV37]; exact xw_ss (by decide) rfl (xb_si (by decide))
          have hP : va_P D vwCl (xw ad kk V37 L35 Z) H := by rw [← ew38]; exact hP
          have hD : va_D A (xw ad kk V37 L35 Z) := by rw [← ew38]; exact hD
          have hMV37 : rgd bX V37 := hMV33.put hV37 (by decide)
          have agV37 : agr [(6, 6), (6, 7), (6, 8), (6, 9), (6, 10)] [12, 13, 14] V V37 := agV33.up hV37 rfl
          refine lv_aload_n hx hb dX9_begin_119 rfl (lv_at hl 1 rfl) ?_
          refine gA_void (gA_runV (As := []) (rest := []) (ci := 9) (q0 := 6) hx hb hml hown hg hP hD hK hS hA hnw hgk (x_next l D ks H.size ad kk V37 L35 Z  hMV37 ) w851 w852 w853 w157 w854 rfl xgTape hdV_yX9_next ⟨Nat.le_of_ble_eq_true rfl, Nat.le_of_ble_eq_true rfl⟩ rfl hl.1 rfl (Nat.le_of_ble_eq_true rfl) dX9_begin_120 ⟨Nat.le_of_ble_eq_true rfl, Nat.le_of_ble_eq_true rfl⟩) hP hD hK hS hA (fun u40 H locs w41 hP hD hK hS => ?_)
          obtain ⟨V42, L43⟩ := u40
          obtain ⟨hMV42, ajV42, axL43⟩ := w41
          have alL43 : agL [6, 14] L L43 := agL.tr alL35 axL43 (by decide)
          have hP : va_P D vwCl (xw ad kk V42 L43 Z) H := hP
          have hD : va_D A (xw ad kk V42 L43 Z) := hD
          have hMV42 : rgd bX V42 := hMV42
          have ajV42 : agr [(6, 8), (6, 9), (6, 10)] [] V37 V42 := ajV42
          have agV42 : agr [(6, 6), (6, 7), (6, 8), (6, 9), (6, 10)] [12, 13, 14] V V42 := agV37.tr ajV42 (by decide) (by decide)
          exact W.vret hx hb hr (fun t ht hW => ⟨⟨(V42, L43), rfl, ⟨hMV42, agV42, alL43⟩, by rw [ht]; exact hP, va_K.moved hW.alike hK, hD⟩, hS.F ht⟩) hS.2.2 dX9_begin_123
        · skip
          have f44 : ((V6 6 6)).toInt < ((V 6 5)).toInt := b_nle rfl rfl c29
          refine lv_aload_n hx hb dX9_begin_30 rfl (lv_at hl 1 rfl) ?_
          refine va_get (D := D) (ci := 9) (v := .ref (ad 7)) (fs := (xfTape ad V6 L7 Z)) (C := RX9) (T := TX9) (N := 12) hx hb hg inX9 hown hK hP 6 xgTape rfl 0 (by decide) (hg _ w252) (fun _ h9 => h9) rfl dX9_begin_31 ?_
          refine lv_aload_n hx hb dX9_begin_34 rfl (lv_at hl 1 rfl) ?_
          refine va_get (D := D) (ci := 9) (v := .int (V6 6 6)) (fs := (xfTape ad V6 L7 Z)) (C := RX9) (T := TX9) (N := 12) hx hb hg inX9 hown hK hP 6 xgTape rfl 6 (by decide) (hg _ w259) (fun _ h9 => h9) rfl dX9_begin_35 ?_
          refine va_bald (D := D) (i := (V6 6 6)) hx hb hK hP 7 0 rfl rfl (i_in (a := ((V6 6 6)).toInt) rfl (by (first | exact om_ae1ad81edeff r10.2 r11.1 f44 | omega))) dX9_begin_38 ?_
          refine g_top (v := (V 10 (Int32.toNatClampNeg (V6 6 6)))) ((ajV6 10 (Int32.toNatClampNeg (V6 6 6)) rfl).trans ((up2_o hV3 (by decide)).trans (up2_o hV1 (by decide)))) ?_
          refine lv_bipush (v := 32) hx hb dX9_begin_39 (by decide) ?_
          refine lv_icmp_eq (tgt := 58) hx hb dX9_begin_41 (by decide) (fun c45 => ?_) (fun c45 => ?_)
          · skip
            have f46 : ((V 10 (Int32.toNatClampNeg (V6 6 6)))).toInt = 32 := b_eq rfl (by decide) c45
            refine lv_aload_n hx hb dX9_begin_58 rfl (lv_at hl 1 rfl) ?_
            refine lv_dup hx hb dX9_begin_59 rfl ?_
            refine va_get (D := D) (ci := 9) (v := .int (V6 6 6)) (fs := (xfTape ad V6 L7 Z)) (C := RX9) (T := TX9) (N := 12) hx hb hg inX9 hown hK hP 6 xgTape rfl 6 (by decide) (hg _ w259) (fun _ h9 => h9) rfl dX9_begin_60 ?_
            refine lv_iconst (v := 1) hx hb dX9_begin_63 (by decide) ?_
            refine lv_iadd hx hb dX9_begin_64 ?_
            refine lv_topi (fun z47 ez47 => ?_)
            have hz47 : z47.toInt = ((V6 6 6)).toInt + 1 := i_add ez47 rfl (by decide) (by (first | exact om_60388b098aab r10.2 r11.1 f44 | omega))
            refine va_put (D := D) (ci := 9) (v := .int z47) (ty := tyX9 6) (fs := (xfTape ad V6 L7 Z)) (C := RX9) (T := TX9) (N := 12) hx hb hg inX9 tyX9 tyX9_ok nmX9 hown hK hP hD hS 6 xgTape rfl 6 (by decide) (hg _ w259) (fun _ h9 => h9) rfl (tyX9_ok 6 (by decide)) rfl rfl (Nat.le_of_ble_eq_true rfl) dX9_begin_65 (fun H locs hP hD hS => ?_)
            obtain ⟨V48, hV48⟩ : ∃ z, z = up2 V6 6 6 z47 := ⟨_, rfl⟩
            have ew49 : (xw ad kk V6 L7 Z).set 6 ((ad 6), .inr (9, (xfTape ad V6 L7 Z).set 6 (.int z47))) = xw ad kk V48 L7 Z := by rw [hV48]; exact xw_ss (by decide) rfl (xb_si (by decide))
            have hP : va_P D vwCl (xw ad kk V48 L7 Z) H := by rw [← ew49]; exact hP
            have hD : va_D A (xw ad kk V48 L7 Z) := by rw [← ew49]; exact hD
            have hMV48 : rgd bX V48 := hMV6.put hV48 (show 0 ≤ z47.toInt ∧ z47.toInt ≤ 4000 from by (first | exact om_e23ddeb43246 r10.2 r11.1 f44 hz47 | omega))
            have agV48 : agr [(6, 6), (6, 7), (6, 8), (6, 9), (6, 10)] [12, 13, 14] V V48 := agV6.up hV48 rfl
            refine lv_goto (tgt := 75) hx hb dX9_begin_68 (by decide) ?_
            obtain ⟨z50, ez50⟩ : ∃ y : Int32, y = y5 + 1 := ⟨_, rfl⟩
            have hz50 : z50.toInt = y5.toInt + 1 := i_add ez50 rfl (by decide) (by (first | exact om_67c6ad613360 klp8_0.1 f28 | omega))
            refine lv_iinc (v := z50) (lv' := [(1, .int z50), (0, .ref (ad 6))]) hx hb dX9_begin_75 hl (k := 0) rfl (by rw [ez50]; rfl) (by decide) rfl (fun ls hl => ?_)
            refine lv_goto (tgt := 12) hx hb dX9_begin_78 (by decide) ?_
            have pq51 : (V48 6 5).toInt = ((V 6 5)).toInt := congrArg Int32.toInt ((up2_k hV48 (by decide)).trans ((ajV6 6 5 rfl).trans ((up2_k hV3 (by decide)).trans (up2_k hV1 (by decide)))))
            have pq52 : (V48 6 6).toInt = z47.toInt := congrArg Int32.toInt (up2_s hV48)
            have pq53 : (V48 6 7).toInt = ((V6 6 7)).toInt := congrArg Int32.toInt (up2_k hV48 (by decide))
            exact ihlp8 z50 V48 L7 H locs ls (by (first | exact om_0a6ad2809a2b xlp8_1 r12.1 f28 hz50 | omega)) (show (V48 6 6).toInt ≤ (V48 6 5).toInt from by (first | exact om_1257dc0753d6 f44 hz47 pq51 pq52 | omega)) (show (V48 6 7).toInt ≤ z50.toInt from by (first | exact om_2cb4eafcf217 xlp8_1 hz50 pq53 | omega)) (by (first | exact om_7390df9cc880 hn hz50 | omega)) alL7 (agr.up (agr.tr agr.rf ajV6 (by decide) (by decide)) hV48 rfl) hMV48 hP hD hS (lv_sub hl [0, 1] rfl)
          · skip
            have f54 : ((V 10 (Int32.toNatClampNeg (V6 6 6)))).toInt ≠ 32 := b_neq rfl (by decide) c45
            refine lv_aload_n hx hb dX9_begin_44 rfl (lv_at hl 1 rfl) ?_
            refine va_get (D := D) (ci := 9) (v := .ref (ad 7)) (fs := (xfTape ad V6 L7 Z)) (C := RX9) (T := TX9) (N := 12) hx hb hg inX9 hown hK hP 6 xgTape rfl 0 (by decide) (hg _ w252) (fun _ h9 => h9) rfl dX9_begin_45 ?_
            refine lv_aload_n hx hb dX9_begin_48 rfl (lv_at hl 1 rfl) ?_
            refine va_get (D := D) (ci := 9) (v := .int (V6 6 6)) (fs := (xfTape ad V6 L7 Z)) (C := RX9) (T := TX9) (N := 12) hx hb hg inX9 hown hK hP 6 xgTape rfl 6 (by decide) (hg _ w259) (fun _ h9 => h9) rfl dX9_begin_49 ?_
            refine va_bald (D := D) (i := (V6 6 6)) hx hb hK hP 7 0 rfl rfl (i_in (a := ((V6 6 6)).toInt) rfl (by (first | exact om_ae1ad81edeff r10.2 r11.1 f44 | omega))) dX9_begin_52 ?_
            refine g_top (v := (V 10 (Int32.toNatClampNeg (V6 6 6)))) ((ajV6 10 (Int32.toNatClampNeg (V6 6 6)) rfl).trans ((up2_o hV3 (by decide)).trans (up2_o hV1 (by decide)))) ?_
            refine lv_bipush (v := 10) hx hb dX9_begin_53 (by decide) ?_
            refine lv_icmp_ne (tgt := 71) hx hb dX9_begin_55 (by decide) (fun c55 => ?_) (fun c55 => ?_)
            · skip
              have f56 : ((V 10 (Int32.toNatClampNeg (V6 6 6)))).toInt ≠ 10 := b_neq rfl (by decide) c55
              refine lv_aload_n hx hb dX9_begin_71 rfl (lv_at hl 1 rfl) ?_
              refine gA_void (gA_runV (As := []) (rest := []) (ci := 9) (q0 := 6) hx hb hml hown hg hP hD hK hS hA hnw hgk (x_cut l D ks H.size ad kk V6 L7 Z  hMV6 (show (V6 6 6).toInt < (V6 6 5).toInt from by (first | exact om_f33e638bd498 pq9 f44 | omega)) (show (V6 6 7).toInt ≤ 3999 from by (first | exact om_43b3f9a4c39f xlp8_1 f28 | omega))) w770 w772 w0 w157 w773 rfl xgTape hdV_yX9_cut ⟨Nat.le_of_ble_eq_true rfl, Nat.le_of_ble_eq_true rfl⟩ rfl hl.1 rfl (Nat.le_of_ble_eq_true rfl) dX9_begin_72 ⟨Nat.le_of_ble_eq_true rfl, Nat.le_of_ble_eq_true rfl⟩) hP hD hK hS hA (fun u58 H locs w59 hP hD hK hS => ?_)
              obtain ⟨V62, L63⟩ := u58
              obtain ⟨hMV62, ajV62, axL63, t60, t61⟩ := w59
              have alL63 : agL [6, 14] L L63 := agL.tr alL7 axL63 (by decide)
              have hP : va_P D vwCl (xw ad kk V62 L63 Z) H := hP
              have hD : va_D A (xw ad kk V62 L63 Z) := hD
              have hMV62 : rgd bX V62 := hMV62
              have ajV62 : agr [(6, 6), (6, 7)] [12, 13, 14] V6 V62 := ajV62
              have agV62 : agr [(6, 6), (6, 7), (6, 8), (6, 9), (6, 10)] [12, 13, 14] V V62 := agV6.tr ajV62 (by decide) (by decide)
              have t60 : (V62 6 6).toInt ≤ (V62 6 5).toInt := t60
              have t61 : (V62 6 7).toInt = (V6 6 7).toInt + 1 := t61
              have pq64 : (V62 6 5).toInt = ((V 6 5)).toInt := congrArg Int32.toInt ((ajV62 6 5 rfl).trans ((ajV6 6 5 rfl).trans ((up2_k hV3 (by decide)).trans (up2_k hV1 (by decide)))))
              have r65 : 0 ≤ ((V62 6 6)).toInt ∧ ((V62 6 6)).toInt ≤ 4000 := hMV62 6 6
              have r66 : 0 ≤ ((V62 6 7)).toInt ∧ ((V62 6 7)).toInt ≤ 4000 := hMV62 6 7
              obtain ⟨z67, ez67⟩ : ∃ y : Int32, y = y5 + 1 := ⟨_, rfl⟩
              have hz67 : z67.toInt = y5.toInt + 1 := i_add ez67 rfl (by decide) (by (first | exact om_b5e2203eea92 xlp8_1 r12.1 f28 | omega))
              refine lv_iinc (v := z67) (lv' := [(1, .int z67), (0, .ref (ad 6))]) hx hb dX9_begin_75 hl (k := 0) rfl (by rw [ez67]; rfl) (by decide) rfl (fun ls hl => ?_)
              refine lv_goto (tgt := 12) hx hb dX9_begin_78 (by decide) ?_
              exact ihlp8 z67 V62 L63 H locs ls (by (first | exact om_0a6ad2809a2b xlp8_1 r12.1 f28 hz67 | omega)) (show (V62 6 6).toInt ≤ (V62 6 5).toInt from by (first | exact om_f4906d00fa52 t60 | omega)) (show (V62 6 7).toInt ≤ z67.toInt from by (first | exact om_953ed16b636a xlp8_1 t61 hz67 | omega)) (by (first | exact om_7390df9cc880 hn hz67 | omega)) alL63 (agr.tr (agr.tr agr.rf ajV6 (by decide) (by decide)) ajV62 (by decide) (by decide)) hMV62 hP hD hS (lv_sub hl [0, 1] rfl)
            · skip
              have f68 : ((V 10 (Int32.toNatClampNeg (V6 6 6)))).toInt = 10 := b_eq rfl (by decide) c55
              refine lv_aload_n hx hb dX9_begin_58 rfl (lv_at hl 1 rfl) ?_
              refine lv_dup hx hb dX9_begin_59 rfl ?_
              refine va_get (D := D) (ci := 9) (v := .int (V6 6 6)) (fs := (xfTape ad V6 L7 Z)) (C := RX9) (T := TX9) (N := 12) hx hb hg inX9 hown hK hP 6 xgTape rfl 6 (by decide) (hg _ w259) (fun _ h9 => h9) rfl dX9_begin_60 ?_
              refine lv_iconst (v := 1) hx hb dX9_begin_63 (by decide) ?_
              refine lv_iadd hx hb dX9_begin_64 ?_
              refine lv_topi (fun z69 ez69 => ?_)
              have hz69 : z69.toInt = ((V6 6 6)).toInt + 1 := i_add ez69 rfl (by decide) (by (first | exact om_60388b098aab r10.2 r11.1 f44 | omega))
              refine va_put (D := D) (ci := 9) (v := .int z69) (ty := tyX9 6) (fs := (xfTape ad V6 L7 Z)) (C := RX9) (T := TX9) (N := 12) hx hb hg inX9 tyX9 tyX9_ok nmX9 hown hK hP hD hS 6 xgTape rfl 6 (by decide) (hg _ w259) (fun _ h9 => h9) rfl (tyX9_ok 6 (by decide)) rfl rfl (Nat.le_of_ble_eq_true rfl) dX9_begin_65 (fun H locs hP hD hS => ?_)
              obtain ⟨V70, hV70⟩ : ∃ z, z = up2 V6 6 6 z69 := ⟨_, rfl⟩
              have ew71 : (xw ad kk V6 L7 Z).set 6 ((ad 6), .inr (9, (xfTape ad V6 L7 Z).set 6 (.int z69))) = xw ad kk V70 L7 Z := by rw [hV70]; exact xw_ss (by decide) rfl (xb_si (by decide))
              have hP : va_P D vwCl (xw ad kk V70 L7 Z) H := by rw [← ew71]; exact hP
              have hD : va_D A (xw ad kk V70 L7 Z) := by rw [← ew71]; exact hD
              have hMV70 : rgd bX V70 := hMV6.put hV70 (show 0 ≤ z69.toInt ∧ z69.toInt ≤ 4000 from by (first | exact om_e23ddeb43246 r10.2 r11.1 f44 hz69 | omega))
              have agV70 : agr [(6, 6), (6, 7), (6, 8), (6, 9), (6, 10)] [12, 13, 14] V V70 := agV6.up hV70 rfl
              refine lv_goto (tgt := 75) hx hb dX9_begin_68 (by decide) ?_
              obtain ⟨z72, ez72⟩ : ∃ y : Int32, y = y5 + 1 := ⟨_, rfl⟩
              have hz72 : z72.toInt = y5.toInt + 1 := i_add ez72 rfl (by decide) (by (first | exact om_67c6ad613360 klp8_0.1 f28 | omega))
              refine lv_iinc (v := z72) (lv' := [(1, .int z72), (0, .ref (ad 6))]) hx hb dX9_begin_75 hl (k := 0) rfl (by rw [ez72]; rfl) (by decide) rfl (fun ls hl => ?_)
              refine lv_goto (tgt := 12) hx hb dX9_begin_78 (by decide) ?_
              have pq73 : (V70 6 5).toInt = ((V 6 5)).toInt := congrArg Int32.toInt ((up2_k hV70 (by decide)).trans ((ajV6 6 5 rfl).trans ((up2_k hV3 (by decide)).trans (up2_k hV1 (by decide)))))
              have pq74 : (V70 6 6).toInt = z69.toInt := congrArg Int32.toInt (up2_s hV70)
              have pq75 : (V70 6 7).toInt = ((V6 6 7)).toInt := congrArg Int32.toInt (up2_k hV70 (by decide))
              exact ihlp8 z72 V70 L7 H locs ls (by (first | exact om_0a6ad2809a2b xlp8_1 r12.1 f28 hz72 | omega)) (show (V70 6 6).toInt ≤ (V70 6 5).toInt from by (first | exact om_1257dc0753d6 f44 hz69 pq73 pq74 | omega)) (show (V70 6 7).toInt ≤ z72.toInt from by (first | exact om_2cb4eafcf217 xlp8_1 hz72 pq75 | omega)) (by (first | exact om_7390df9cc880 hn hz72 | omega)) alL7 (agr.up (agr.tr agr.rf ajV6 (by decide) (by decide)) hV70 rfl) hMV70 hP hD hS (lv_sub hl [0, 1] rfl)
  have r76 : Int32.toInt 0 = 0 := by decide
  have pq77 : (V3 6 5).toInt = ((V 6 5)).toInt := congrArg Int32.toInt ((up2_k hV3 (by decide)).trans (up2_k hV1 (by decide)))
  have r78 : 0 ≤ ((V 6 5)).toInt ∧ ((V 6 5)).toInt ≤ 4000 := hMV 6 5
  have pq79 : (V3 6 6).toInt = 0 := (congrArg Int32.toInt ((up2_k hV3 (by decide)).trans (up2_s hV1))).trans (by decide)
  have pq80 : (V3 6 7).toInt = 0 := (congrArg Int32.toInt (up2_s hV3)).trans (by decide)
  exact lp8 ((4000 - (Int32.toInt 0) + 1 : Int).toNat) 0 V3 L H locs ls (by decide) (show (V3 6 6).toInt ≤ (V3 6 5).toInt from by (first | exact om_b0eb2bb83bb7 pq77 r78.1 pq79 | omega)) (show (V3 6 7).toInt ≤ (Int32.toInt 0) from by (first | exact om_0df9ae17f00b r76 pq80 | omega)) (by (first | exact om_be7e3b1de7fd | omega)) alL agr.rf hMV3 hP hD hS (lv_sub hl [0, 1] rfl)
end
section
/-! a BOOK that is empty; the other BOOK -/
theorem CD.zero {V : Vf} {b : Nat} (h : (V 42 b).toInt = 0) : CD V b := by
  refine ⟨⟨fun _ => ?_, fun p h1 _ => absurd h1 (by omega)⟩, fun p h1 _ => absurd h1 (by omega)⟩
  rw [h]
  rfl
theorem TX.zero {V : Vf} {b : Nat} (h1 : (V 43 (5 * b + 2)).toInt = 0) (h2 : (V 41 b).toInt = 0) : TX V b := ⟨fun c hc => absurd hc (by omega), fun w hw => absurd hw (by omega), fun a ha => absurd ha (by omega)⟩
theorem w765 : Cond.code yX0_clear cX0_clear 1 none ∈ GW := gw_k tk9_3 130 (rfl) rfl
theorem w762 : Cond.methodLink RX1 19 yX0_clear ∈ GW := gw_k tk9_3 127 (by decide +kernel) rfl
theorem w763 : Cond.instanceMethod yX0_clear ∈ GW := gw_k tk9_3 128 (by decide +kernel) rfl
theorem w764 : Cond.selects RX0 yX0_clear yX0_clear ∈ GW := gw_k tk9_3 129 (by decide +kernel) rfl
theorem hdV_yX0_clear : yX0_clear.cls = RX0 ∧ yX0_clear.cls ≠ "java/lang/invoke/MethodHandle" ∧ yX0_clear.cls ≠ "java/lang/invoke/VarHandle" ∧ (parseMethodDescriptor yX0_clear.desc).map (fun d => d.parameters.length) = some 0 := by decide +kernel
theorem w769 : Cond.code yX9_begin cX9_begin 2 none ∈ GW := gw_k tk9_3 134 (rfl) rfl
theorem w766 : Cond.methodLink RX1 32 yX9_begin ∈ GW := gw_k tk9_3 131 (by decide +kernel) rfl
theorem w767 : Cond.instanceMethod yX9_begin ∈ GW := gw_k tk9_3 132 (by decide +kernel) rfl
theorem w768 : Cond.selects RX9 yX9_begin yX9_begin ∈ GW := gw_k tk9_3 133 (by decide +kernel) rfl
theorem hdV_yX9_begin : yX9_begin.cls = RX9 ∧ yX9_begin.cls ≠ "java/lang/invoke/MethodHandle" ∧ yX9_begin.cls ≠ "java/lang/invoke/VarHandle" ∧ (parseMethodDescriptor yX9_begin.desc).map (fun d => d.parameters.length) = some 0 := by decide +kernel
theorem w858 : Cond.code yX1_readStatement cX1_readStatement 1 (some .boolean) ∈ GW := gw_k tk9_3 223 (rfl) rfl
theorem w855 : Cond.methodLink RX1 40 yX1_readStatement ∈ GW := gw_k tk9_3 220 (by decide +kernel) rfl
theorem w857 : Cond.instanceMethod yX1_readStatement ∈ GW := gw_k tk9_3 222 (by decide +kernel) rfl
theorem w4 : Cond.selects RX1 yX1_readStatement yX1_readStatement ∈ GW := gw_mem 4 (by decide +kernel) rfl
theorem hdV_yX1_readStatement : yX1_readStatement.cls = RX1 ∧ yX1_readStatement.cls ≠ "java/lang/invoke/MethodHandle" ∧ yX1_readStatement.cls ≠ "java/lang/invoke/VarHandle" ∧ (parseMethodDescriptor yX1_readStatement.desc).map (fun d => d.parameters.length) = some 0 := by decide +kernel
theorem w1006 : Cond.code yX1_readMember cX1_readMember 2 (some .boolean) ∈ GW := gw_k tk9_4 131 (rfl) rfl
theorem w1003 : Cond.methodLink RX1 44 yX1_readMember ∈ GW := gw_k tk9_4 128 (by decide +kernel) rfl
theorem w1005 : Cond.instanceMethod yX1_readMember ∈ GW := gw_k tk9_4 130 (by decide +kernel) rfl
theorem w31 : Cond.selects RX1 yX1_readMember yX1_readMember ∈ GW := gw_mem 31 (by decide +kernel) rfl
theorem hdV_yX1_readMember : yX1_readMember.cls = RX1 ∧ yX1_readMember.cls ≠ "java/lang/invoke/MethodHandle" ∧ yX1_readMember.cls ≠ "java/lang/invoke/VarHandle" ∧ (parseMethodDescriptor yX1_readMember.desc).map (fun d => d.parameters.length) = some 0 := by decide +kernel
theorem w1051 : Cond.methodLink RX11 96 yX9_begin ∈ GW := gw_k tk9_4 176 (by decide +kernel) rfl
theorem n263 : lw_tbl[263]? = some (Cond.fieldLinkNest RX11 99 "WiringHouse$Tape" "kind" "I" "WiringHouse") := la9 (n := 155) (i := 108) lz9 (lb9 (i := 108) (by decide +kernel))
theorem n267 : lw_tbl[267]? = some (Cond.fieldLinkNest RX11 102 "WiringHouse$Tape" "value" "J" "WiringHouse") := la9 (n := 155) (i := 112) lz9 (lb9 (i := 112) (by decide +kernel))
theorem w1052 : Cond.methodLink RX11 106 yX9_next ∈ GW := gw_k tk9_4 177 (by decide +kernel) rfl
theorem w1022 : Cond.code yX9_empty cX9_empty 1 none ∈ GW := gw_k tk9_4 147 (rfl) rfl
theorem w1019 : Cond.methodLink RX11 77 yX9_empty ∈ GW := gw_k tk9_4 144 (by decide +kernel) rfl
theorem w1020 : Cond.instanceMethod yX9_empty ∈ GW := gw_k tk9_4 145 (by decide +kernel) rfl
theorem w1021 : Cond.selects RX9 yX9_empty yX9_empty ∈ GW := gw_k tk9_4 146 (by decide +kernel) rfl
theorem hdV_yX9_empty : yX9_empty.cls = RX9 ∧ yX9_empty.cls ≠ "java/lang/invoke/MethodHandle" ∧ yX9_empty.cls ≠ "java/lang/invoke/VarHandle" ∧ (parseMethodDescriptor yX9_empty.desc).map (fun d => d.parameters.length) = some 0 := by decide +kernel
theorem w1056 : Cond.code yX0_numberOf cX0_numberOf 4 (some .int) ∈ GW := gw_k tk9_4 181 (rfl) rfl
theorem w1053 : Cond.methodLink RX11 109 yX0_numberOf ∈ GW := gw_k tk9_4 178 (by decide +kernel) rfl
theorem w1054 : Cond.instanceMethod yX0_numberOf ∈ GW := gw_k tk9_4 179 (by decide +kernel) rfl
theorem w1055 : Cond.selects RX0 yX0_numberOf yX0_numberOf ∈ GW := gw_k tk9_4 180 (by decide +kernel) rfl
theorem hdV_yX0_numberOf : yX0_numberOf.cls = RX0 ∧ yX0_numberOf.cls ≠ "java/lang/invoke/MethodHandle" ∧ yX0_numberOf.cls ≠ "java/lang/invoke/VarHandle" ∧ (parseMethodDescriptor yX0_numberOf.desc).map (fun d => d.parameters.length) = some 2 := by decide +kernel
theorem dk9_dX1_read_0_0 : dOk cX1_read [(0, .aload_n 0, 1), (1, .aload_n 1, 1), (2, .putfield 15, 3), (5, .aload_n 0, 1), (6, .getfield 15, 3), (9, .invokevirtual 19, 3), (12, .aload_n 0, 1), (13, .aconst_null, 1), (14, .putfield 24, 3), (17, .aload_n 0, 1), (18, .iconst 0, 1), (19, .putfield 28, 3), (22, .aload_n 0, 1), (23, .getfield 9, 3), (26, .invokevirtual 32, 3), (29, .iconst 0, 1), (30, .istore_n 2, 1), (31, .iload_n 2, 1), (32, .sipush 4000, 3), (35, .if_icmp .ge 47, 3), (82, .aload_n 0, 1), (83, .getfield 24, 3), (86, .ifnull 9, 3), (95, .aload_n 0, 1)] = true ∧ dOk cX1_read [(96, .getfield 28, 3), (99, .ireturn, 1), (89, .aload_n 0, 1), (90, .iconst 1, 1), (91, .invokevirtual 47, 3), (94, .pop, 1), (38, .aload_n 0, 1), (39, .getfield 9, 3), (42, .getfield 37, 3), (45, .ifCond .eq 37, 3), (48, .aload_n 0, 1), (49, .getfield 24, 3), (52, .ifnonnull 10, 3), (55, .aload_n 0, 1), (56, .invokevirtual 40, 3), (59, .goto 7, 3), (66, .istore_n 3, 1), (67, .iload_n 3, 1), (68, .ifCond .ne 8, 3), (76, .iinc 2 1, 3), (79, .goto (-48), 3), (71, .aload_n 0, 1), (72, .getfield 28, 3), (75, .ireturn, 1)] = true ∧ dOk cX1_read [(62, .aload_n 0, 1), (63, .invokevirtual 44, 3)] = true := by decide +kernel
theorem dX1_read_0 : decode cX1_read 0 = .ok (.aload_n 0, 1) := dr9 dk9_dX1_read_0_0.1 0 (0, .aload_n 0, 1) rfl
theorem dX1_read_1 : decode cX1_read 1 = .ok (.aload_n 1, 1) := dr9 dk9_dX1_read_0_0.1 1 (1, .aload_n 1, 1) rfl
theorem dX1_read_2 : decode cX1_read 2 = .ok (.putfield 15, 3) := dr9 dk9_dX1_read_0_0.1 2 (2, .putfield 15, 3) rfl
theorem dX1_read_5 : decode cX1_read 5 = .ok (.aload_n 0, 1) := dr9 dk9_dX1_read_0_0.1 3 (5, .aload_n 0, 1) rfl
theorem dX1_read_6 : decode cX1_read 6 = .ok (.getfield 15, 3) := dr9 dk9_dX1_read_0_0.1 4 (6, .getfield 15, 3) rfl
theorem dX1_read_9 : decode cX1_read 9 = .ok (.invokevirtual 19, 3) := dr9 dk9_dX1_read_0_0.1 5 (9, .invokevirtual 19, 3) rfl
theorem dX1_read_12 : decode cX1_read 12 = .ok (.aload_n 0, 1) := dr9 dk9_dX1_read_0_0.1 6 (12, .aload_n 0, 1) rfl
theorem dX1_read_13 : decode cX1_read 13 = .ok (.aconst_null, 1) := dr9 dk9_dX1_read_0_0.1 7 (13, .aconst_null, 1) rfl
theorem dX1_read_14 : decode cX1_read 14 = .ok (.putfield 24, 3) := dr9 dk9_dX1_read_0_0.1 8 (14, .putfield 24, 3) rfl
theorem dX1_read_17 : decode cX1_read 17 = .ok (.aload_n 0, 1) := dr9 dk9_dX1_read_0_0.1 9 (17, .aload_n 0, 1) rfl
theorem dX1_read_18 : decode cX1_read 18 = .ok (.iconst 0, 1) := dr9 dk9_dX1_read_0_0.1 10 (18, .iconst 0, 1) rfl
theorem dX1_read_19 : decode cX1_read 19 = .ok (.putfield 28, 3) := dr9 dk9_dX1_read_0_0.1 11 (19, .putfield 28, 3) rfl
theorem dX1_read_22 : decode cX1_read 22 = .ok (.aload_n 0, 1) := dr9 dk9_dX1_read_0_0.1 12 (22, .aload_n 0, 1) rfl
theorem dX1_read_23 : decode cX1_read 23 = .ok (.getfield 9, 3) := dr9 dk9_dX1_read_0_0.1 13 (23, .getfield 9, 3) rfl
theorem dX1_read_26 : decode cX1_read 26 = .ok (.invokevirtual 32, 3) := dr9 dk9_dX1_read_0_0.1 14 (26, .invokevirtual 32, 3) rfl
theorem dX1_read_29 : decode cX1_read 29 = .ok (.iconst 0, 1) := dr9 dk9_dX1_read_0_0.1 15 (29, .iconst 0, 1) rfl
theorem dX1_read_30 : decode cX1_read 30 = .ok (.istore_n 2, 1) := dr9 dk9_dX1_read_0_0.1 16 (30, .istore_n 2, 1) rfl
theorem dX1_read_31 : decode cX1_read 31 = .ok (.iload_n 2, 1) := dr9 dk9_dX1_read_0_0.1 17 (31, .iload_n 2, 1) rfl
theorem dX1_read_32 : decode cX1_read 32 = .ok (.sipush 4000, 3) := dr9 dk9_dX1_read_0_0.1 18 (32, .sipush 4000, 3) rfl
theorem dX1_read_35 : decode cX1_read 35 = .ok (.if_icmp .ge 47, 3) := dr9 dk9_dX1_read_0_0.1 19 (35, .if_icmp .ge 47, 3) rfl
theorem dX1_read_82 : decode cX1_read 82 = .ok (.aload_n 0, 1) := dr9 dk9_dX1_read_0_0.1 20 (82, .aload_n 0, 1) rfl
theorem dX1_read_83 : decode cX1_read 83 = .ok (.getfield 24, 3) := dr9 dk9_dX1_read_0_0.1 21 (83, .getfield 24, 3) rfl
theorem dX1_read_86 : decode cX1_read 86 = .ok (.ifnull 9, 3) := dr9 dk9_dX1_read_0_0.1 22 (86, .ifnull 9, 3) rfl
theorem dX1_read_95 : decode cX1_read 95 = .ok (.aload_n 0, 1) := dr9 dk9_dX1_read_0_0.1 23 (95, .aload_n 0, 1) rfl
theorem dX1_read_96 : decode cX1_read 96 = .ok (.getfield 28, 3) := dr9 dk9_dX1_read_0_0.2.1 0 (96, .getfield 28, 3) rfl
theorem dX1_read_99 : decode cX1_read 99 = .ok (.ireturn, 1) := dr9 dk9_dX1_read_0_0.2.1 1 (99, .ireturn, 1) rfl
theorem dX1_read_89 : decode cX1_read 89 = .ok (.aload_n 0, 1) := dr9 dk9_dX1_read_0_0.2.1 2 (89, .aload_n 0, 1) rfl
theorem dX1_read_90 : decode cX1_read 90 = .ok (.iconst 1, 1) := dr9 dk9_dX1_read_0_0.2.1 3 (90, .iconst 1, 1) rfl
theorem dX1_read_91 : decode cX1_read 91 = .ok (.invokevirtual 47, 3) := dr9 dk9_dX1_read_0_0.2.1 4 (91, .invokevirtual 47, 3) rfl
theorem dX1_read_94 : decode cX1_read 94 = .ok (.pop, 1) := dr9 dk9_dX1_read_0_0.2.1 5 (94, .pop, 1) rfl
theorem dX1_read_38 : decode cX1_read 38 = .ok (.aload_n 0, 1) := dr9 dk9_dX1_read_0_0.2.1 6 (38, .aload_n 0, 1) rfl
theorem dX1_read_39 : decode cX1_read 39 = .ok (.getfield 9, 3) := dr9 dk9_dX1_read_0_0.2.1 7 (39, .getfield 9, 3) rfl
theorem dX1_read_42 : decode cX1_read 42 = .ok (.getfield 37, 3) := dr9 dk9_dX1_read_0_0.2.1 8 (42, .getfield 37, 3) rfl
theorem dX1_read_45 : decode cX1_read 45 = .ok (.ifCond .eq 37, 3) := dr9 dk9_dX1_read_0_0.2.1 9 (45, .ifCond .eq 37, 3) rfl
theorem dX1_read_48 : decode cX1_read 48 = .ok (.aload_n 0, 1) := dr9 dk9_dX1_read_0_0.2.1 10 (48, .aload_n 0, 1) rfl
theorem dX1_read_49 : decode cX1_read 49 = .ok (.getfield 24, 3) := dr9 dk9_dX1_read_0_0.2.1 11 (49, .getfield 24, 3) rfl
theorem dX1_read_52 : decode cX1_read 52 = .ok (.ifnonnull 10, 3) := dr9 dk9_dX1_read_0_0.2.1 12 (52, .ifnonnull 10, 3) rfl
theorem dX1_read_55 : decode cX1_read 55 = .ok (.aload_n 0, 1) := dr9 dk9_dX1_read_0_0.2.1 13 (55, .aload_n 0, 1) rfl
theorem dX1_read_56 : decode cX1_read 56 = .ok (.invokevirtual 40, 3) := dr9 dk9_dX1_read_0_0.2.1 14 (56, .invokevirtual 40, 3) rfl
theorem dX1_read_59 : decode cX1_read 59 = .ok (.goto 7, 3) := dr9 dk9_dX1_read_0_0.2.1 15 (59, .goto 7, 3) rfl
theorem dX1_read_66 : decode cX1_read 66 = .ok (.istore_n 3, 1) := dr9 dk9_dX1_read_0_0.2.1 16 (66, .istore_n 3, 1) rfl
theorem dX1_read_67 : decode cX1_read 67 = .ok (.iload_n 3, 1) := dr9 dk9_dX1_read_0_0.2.1 17 (67, .iload_n 3, 1) rfl
theorem dX1_read_68 : decode cX1_read 68 = .ok (.ifCond .ne 8, 3) := dr9 dk9_dX1_read_0_0.2.1 18 (68, .ifCond .ne 8, 3) rfl
theorem dX1_read_76 : decode cX1_read 76 = .ok (.iinc 2 1, 3) := dr9 dk9_dX1_read_0_0.2.1 19 (76, .iinc 2 1, 3) rfl
theorem dX1_read_79 : decode cX1_read 79 = .ok (.goto (-48), 3) := dr9 dk9_dX1_read_0_0.2.1 20 (79, .goto (-48), 3) rfl
theorem dX1_read_71 : decode cX1_read 71 = .ok (.aload_n 0, 1) := dr9 dk9_dX1_read_0_0.2.1 21 (71, .aload_n 0, 1) rfl
theorem dX1_read_72 : decode cX1_read 72 = .ok (.getfield 28, 3) := dr9 dk9_dX1_read_0_0.2.1 22 (72, .getfield 28, 3) rfl
theorem dX1_read_75 : decode cX1_read 75 = .ok (.ireturn, 1) := dr9 dk9_dX1_read_0_0.2.1 23 (75, .ireturn, 1) rfl
theorem dX1_read_62 : decode cX1_read 62 = .ok (.aload_n 0, 1) := dr9 dk9_dX1_read_0_0.2.2 0 (62, .aload_n 0, 1) rfl
theorem dX1_read_63 : decode cX1_read 63 = .ok (.invokevirtual 44, 3) := dr9 dk9_dX1_read_0_0.2.2 1 (63, .invokevirtual 44, 3) rfl
theorem dk9_dX11_named_0_0 : dOk cX11_named [(0, .aload_n 0, 1), (1, .getfield 10, 3), (4, .invokevirtual 96, 3), (7, .aload_n 0, 1), (8, .getfield 10, 3), (11, .getfield 99, 3), (14, .iconst 3, 1), (15, .if_icmp .ne 7, 3), (22, .iconst 0, 1), (23, .istore_n 2, 1), (24, .aload_n 0, 1), (25, .getfield 10, 3), (28, .getfield 102, 3), (31, .lstore_n 3, 1), (32, .aload_n 0, 1), (33, .getfield 10, 3), (36, .invokevirtual 106, 3), (39, .aload_n 0, 1), (40, .getfield 10, 3), (43, .getfield 99, 3), (46, .ifCond .ne 7, 3), (53, .iconst 0, 1), (54, .istore 5, 2), (56, .aload_n 0, 1)] = true ∧ dOk cX11_named [(57, .getfield 10, 3), (60, .invokevirtual 77, 3), (63, .iload_n 2, 1), (64, .ifCond .eq 20, 3), (84, .iconst (-1), 1), (85, .ireturn, 1), (49, .iconst 1, 1), (50, .goto 4, 3), (18, .iconst 1, 1), (19, .goto 4, 3), (67, .iload 5, 2), (69, .ifCond .eq 15, 3), (72, .aload_n 0, 1), (73, .getfield 49, 3), (76, .lload_n 3, 1), (77, .iload_n 1, 1), (78, .invokevirtual 109, 3), (81, .goto 4, 3)] = true := by decide +kernel
theorem dX11_named_0 : decode cX11_named 0 = .ok (.aload_n 0, 1) := dr9 dk9_dX11_named_0_0.1 0 (0, .aload_n 0, 1) rfl
theorem dX11_named_1 : decode cX11_named 1 = .ok (.getfield 10, 3) := dr9 dk9_dX11_named_0_0.1 1 (1, .getfield 10, 3) rfl
theorem dX11_named_4 : decode cX11_named 4 = .ok (.invokevirtual 96, 3) := dr9 dk9_dX11_named_0_0.1 2 (4, .invokevirtual 96, 3) rfl
theorem dX11_named_7 : decode cX11_named 7 = .ok (.aload_n 0, 1) := dr9 dk9_dX11_named_0_0.1 3 (7, .aload_n 0, 1) rfl
theorem dX11_named_8 : decode cX11_named 8 = .ok (.getfield 10, 3) := dr9 dk9_dX11_named_0_0.1 4 (8, .getfield 10, 3) rfl
theorem dX11_named_11 : decode cX11_named 11 = .ok (.getfield 99, 3) := dr9 dk9_dX11_named_0_0.1 5 (11, .getfield 99, 3) rfl
theorem dX11_named_14 : decode cX11_named 14 = .ok (.iconst 3, 1) := dr9 dk9_dX11_named_0_0.1 6 (14, .iconst 3, 1) rfl
theorem dX11_named_15 : decode cX11_named 15 = .ok (.if_icmp .ne 7, 3) := dr9 dk9_dX11_named_0_0.1 7 (15, .if_icmp .ne 7, 3) rfl
theorem dX11_named_22 : decode cX11_named 22 = .ok (.iconst 0, 1) := dr9 dk9_dX11_named_0_0.1 8 (22, .iconst 0, 1) rfl
theorem dX11_named_23 : decode cX11_named 23 = .ok (.istore_n 2, 1) := dr9 dk9_dX11_named_0_0.1 9 (23, .istore_n 2, 1) rfl
theorem dX11_named_24 : decode cX11_named 24 = .ok (.aload_n 0, 1) := dr9 dk9_dX11_named_0_0.1 10 (24, .aload_n 0, 1) rfl
theorem dX11_named_25 : decode cX11_named 25 = .ok (.getfield 10, 3) := dr9 dk9_dX11_named_0_0.1 11 (25, .getfield 10, 3) rfl
theorem dX11_named_28 : decode cX11_named 28 = .ok (.getfield 102, 3) := dr9 dk9_dX11_named_0_0.1 12 (28, .getfield 102, 3) rfl
theorem dX11_named_31 : decode cX11_named 31 = .ok (.lstore_n 3, 1) := dr9 dk9_dX11_named_0_0.1 13 (31, .lstore_n 3, 1) rfl
theorem dX11_named_32 : decode cX11_named 32 = .ok (.aload_n 0, 1) := dr9 dk9_dX11_named_0_0.1 14 (32, .aload_n 0, 1) rfl
theorem dX11_named_33 : decode cX11_named 33 = .ok (.getfield 10, 3) := dr9 dk9_dX11_named_0_0.1 15 (33, .getfield 10, 3) rfl
theorem dX11_named_36 : decode cX11_named 36 = .ok (.invokevirtual 106, 3) := dr9 dk9_dX11_named_0_0.1 16 (36, .invokevirtual 106, 3) rfl
theorem dX11_named_39 : decode cX11_named 39 = .ok (.aload_n 0, 1) := dr9 dk9_dX11_named_0_0.1 17 (39, .aload_n 0, 1) rfl
theorem dX11_named_40 : decode cX11_named 40 = .ok (.getfield 10, 3) := dr9 dk9_dX11_named_0_0.1 18 (40, .getfield 10, 3) rfl
theorem dX11_named_43 : decode cX11_named 43 = .ok (.getfield 99, 3) := dr9 dk9_dX11_named_0_0.1 19 (43, .getfield 99, 3) rfl
theorem dX11_named_46 : decode cX11_named 46 = .ok (.ifCond .ne 7, 3) := dr9 dk9_dX11_named_0_0.1 20 (46, .ifCond .ne 7, 3) rfl
theorem dX11_named_53 : decode cX11_named 53 = .ok (.iconst 0, 1) := dr9 dk9_dX11_named_0_0.1 21 (53, .iconst 0, 1) rfl
theorem dX11_named_54 : decode cX11_named 54 = .ok (.istore 5, 2) := dr9 dk9_dX11_named_0_0.1 22 (54, .istore 5, 2) rfl
theorem dX11_named_56 : decode cX11_named 56 = .ok (.aload_n 0, 1) := dr9 dk9_dX11_named_0_0.1 23 (56, .aload_n 0, 1) rfl
theorem dX11_named_57 : decode cX11_named 57 = .ok (.getfield 10, 3) := dr9 dk9_dX11_named_0_0.2 0 (57, .getfield 10, 3) rfl
theorem dX11_named_60 : decode cX11_named 60 = .ok (.invokevirtual 77, 3) := dr9 dk9_dX11_named_0_0.2 1 (60, .invokevirtual 77, 3) rfl
theorem dX11_named_63 : decode cX11_named 63 = .ok (.iload_n 2, 1) := dr9 dk9_dX11_named_0_0.2 2 (63, .iload_n 2, 1) rfl
theorem dX11_named_64 : decode cX11_named 64 = .ok (.ifCond .eq 20, 3) := dr9 dk9_dX11_named_0_0.2 3 (64, .ifCond .eq 20, 3) rfl
theorem dX11_named_84 : decode cX11_named 84 = .ok (.iconst (-1), 1) := dr9 dk9_dX11_named_0_0.2 4 (84, .iconst (-1), 1) rfl
theorem dX11_named_85 : decode cX11_named 85 = .ok (.ireturn, 1) := dr9 dk9_dX11_named_0_0.2 5 (85, .ireturn, 1) rfl
theorem dX11_named_49 : decode cX11_named 49 = .ok (.iconst 1, 1) := dr9 dk9_dX11_named_0_0.2 6 (49, .iconst 1, 1) rfl
theorem dX11_named_50 : decode cX11_named 50 = .ok (.goto 4, 3) := dr9 dk9_dX11_named_0_0.2 7 (50, .goto 4, 3) rfl
theorem dX11_named_18 : decode cX11_named 18 = .ok (.iconst 1, 1) := dr9 dk9_dX11_named_0_0.2 8 (18, .iconst 1, 1) rfl
theorem dX11_named_19 : decode cX11_named 19 = .ok (.goto 4, 3) := dr9 dk9_dX11_named_0_0.2 9 (19, .goto 4, 3) rfl
theorem dX11_named_67 : decode cX11_named 67 = .ok (.iload 5, 2) := dr9 dk9_dX11_named_0_0.2 10 (67, .iload 5, 2) rfl
theorem dX11_named_69 : decode cX11_named 69 = .ok (.ifCond .eq 15, 3) := dr9 dk9_dX11_named_0_0.2 11 (69, .ifCond .eq 15, 3) rfl
theorem dX11_named_72 : decode cX11_named 72 = .ok (.aload_n 0, 1) := dr9 dk9_dX11_named_0_0.2 12 (72, .aload_n 0, 1) rfl
theorem dX11_named_73 : decode cX11_named 73 = .ok (.getfield 49, 3) := dr9 dk9_dX11_named_0_0.2 13 (73, .getfield 49, 3) rfl
theorem dX11_named_76 : decode cX11_named 76 = .ok (.lload_n 3, 1) := dr9 dk9_dX11_named_0_0.2 14 (76, .lload_n 3, 1) rfl
theorem dX11_named_77 : decode cX11_named 77 = .ok (.iload_n 1, 1) := dr9 dk9_dX11_named_0_0.2 15 (77, .iload_n 1, 1) rfl
theorem dX11_named_78 : decode cX11_named 78 = .ok (.invokevirtual 109, 3) := dr9 dk9_dX11_named_0_0.2 16 (78, .invokevirtual 109, 3) rfl
theorem dX11_named_81 : decode cX11_named 81 = .ok (.goto 4, 3) := dr9 dk9_dX11_named_0_0.2 17 (81, .goto 4, 3) rfl
abbrev r_x_read : Room := { frames := 93, cells := 0, slots := 0, locals := 2728 }
abbrev q_x_read (D : va_G) (ks : KS) (ad : Nat → Nat) (kk : Nat → ClassId) (V : Vf) (L : Lf) (Z : XZ) (b : Nat) (A : Nat → Prop) : Array Value → State → Outcome → State → Prop := va_Qi (fun (r : Int32) (u : Vf × Lf) => rgd bX u.1 ∧ agr [(1, 1), (1, 2), (1, 3), (1, 4), (1, 6), (1, 7), (1, 8), (6, 6), (6, 7), (6, 8), (6, 9), (6, 10)] [12, 13, 14, 41, 42, 43, 44, 45, 46, 47, 48, 49, 50, 51, 52, 53, 54, 55, 56, 57, 58, 59, 60, 61, 62, 63, 64, 65, 66] V u.1 ∧ agL [1, 6, 14, 44] L u.2 ∧ frX (xR b) V u.1 ∧ (Imp (r.toInt = 0) (CD u.1 b ∧ TX u.1 b))) (fun u t => gq D A (xw ad kk u.1 u.2 Z) (xty kk Z) t) A
set_option maxHeartbeats 4000000 in
set_option maxRecDepth 100000 in
theorem x_read (l : Launch) (D : va_G) (ks : KS) (sz : Nat) (ad : Nat → Nat) (kk : Nat → ClassId) (V : Vf) (L : Lf) (Z : XZ) (b : Nat) (hMV : rgd bX V) (hb2 : b < 2)  : Met l yX1_read (Cond.code yX1_read cX1_read 4 (some .int) :: GW) r_x_read (va_Pc [.ref (ad 1), .ref (ad (38 + b))] (gp D ks (xw ad kk V L Z) (xty kk Z) sz)) (q_x_read D ks ad kk V L Z  b (va_A (xw ad kk V L Z) sz)) 0 0 (va_A (xw ad kk V L Z) sz) := by
  refine g_met (q_x_read D ks ad kk V L Z  b) (by decide) (Nat.le_of_ble_eq_true rfl) ?_
  intro p e s m below meth c A ls H locs hx hb hr hml hown hg hlocks hin hnw hgk hP hK hD hS hA hl
  have hown : s.vm.findClass RX1 = some m.cls := hown
  have hl : lv_has ls 4 [(0, .ref (ad 1)), (1, .ref (ad (38 + b)))] := hl
  have hP : va_P D vwCl (xw ad kk V L Z) H := hP
  have hD : va_D A (xw ad kk V L Z) := hD
  have hK : va_K D vwCl (xty kk Z) s := hK
  have agV : agr [(1, 1), (1, 2), (1, 3), (1, 4), (1, 6), (1, 7), (1, 8), (6, 6), (6, 7), (6, 8), (6, 9), (6, 10)] [12, 13, 14, 41, 42, 43, 44, 45, 46, 47, 48, 49, 50, 51, 52, 53, 54, 55, 56, 57, 58, 59, 60, 61, 62, 63, 64, 65, 66] V V := agr.rf
  have alL : agL [1, 6, 14, 44] L L := agL.rf
  have fwV : frX (xR b) V V := frX.rf
  refine lv_aload_n hx hb dX1_read_0 rfl (lv_at hl 0 rfl) ?_
  refine lv_aload_n hx hb dX1_read_1 rfl (lv_at hl 1 rfl) ?_
  refine va_put (D := D) (ci := 1) (v := .ref (ad (38 + b))) (ty := tyX1 1) (fs := (xfReader ad V L Z)) (C := RX1) (T := TX1) (N := 9) hx hb hg inX1 tyX1 tyX1_ok nmX1 hown hK hP hD hS 1 xgReader rfl 1 (by decide) (hg _ w305) (fun _ h9 => h9) rfl (tyX1_ok 1 (by decide)) rfl rfl (Nat.le_of_ble_eq_true rfl) dX1_read_2 (fun H locs hP hD hS => ?_)
  have r1 : (nI b).toInt = ((b : Nat) : Int) := nI_toInt (by omega)
  obtain ⟨V2, hV2⟩ : ∃ z, z = up2 V 1 1 (nI b) := ⟨_, rfl⟩
  have ew3 : (xw ad kk V L Z).set 1 ((ad 1), .inr (1, (xfReader ad V L Z).set 1 (.ref (ad (38 + b))))) = xw ad kk V2 L Z := by rw [hV2]; exact xr_rbook hb2
  have hP : va_P D vwCl (xw ad kk V2 L Z) H := by rw [← ew3]; exact hP
  have hD : va_D A (xw ad kk V2 L Z) := by rw [← ew3]; exact hD
  have hMV2 : rgd bX V2 := hMV.put hV2 (show (-1) ≤ ((nI b)).toInt ∧ ((nI b)).toInt ≤ 1 from by (first | exact om_42efdf012c14 hb2 r1 | omega))
  have agV2 : agr [(1, 1), (1, 2), (1, 3), (1, 4), (1, 6), (1, 7), (1, 8), (6, 6), (6, 7), (6, 8), (6, 9), (6, 10)] [12, 13, 14, 41, 42, 43, 44, 45, 46, 47, 48, 49, 50, 51, 52, 53, 54, 55, 56, 57, 58, 59, 60, 61, 62, 63, 64, 65, 66] V V2 := agV.up hV2 rfl
  have fwV2 : frX (xR b) V V2 := frX.up fwV hV2 (Or.inl (by decide))
  refine lv_aload_n hx hb dX1_read_5 rfl (lv_at hl 0 rfl) ?_
  refine va_get (D := D) (ci := 1) (v := rfN ad 38 (V2 1 1)) (fs := (xfReader ad V2 L Z)) (C := RX1) (T := TX1) (N := 9) hx hb hg inX1 hown hK hP 1 xgReader rfl 1 (by decide) (hg _ w305) (fun _ h9 => h9) rfl dX1_read_6 ?_
  have pq4 : (V2 1 1).toInt = ((nI b)).toInt := congrArg Int32.toInt (up2_s hV2)
  refine g_topv (v := .ref (ad (38 + b))) (rfN_r (by omega)) ?_
  refine gA_void (gA_runV (As := []) (rest := []) (ci := 0) (q0 := (38 + b)) hx hb hml hown hg hP hD hK hS hA hnw hgk (x_bclear l D ks H.size ad kk V2 L Z (b) hMV2 (show b < 2 from by (first | exact om_f940a4667dd6 hb2 | omega))) w762 w763 w764 w167 w765 rfl (xgBook hb2) hdV_yX0_clear ⟨Nat.le_of_ble_eq_true rfl, Nat.le_of_ble_eq_true rfl⟩ rfl hl.1 rfl (Nat.le_of_ble_eq_true rfl) dX1_read_9 ⟨Nat.le_of_ble_eq_true rfl, Nat.le_of_ble_eq_true rfl⟩) hP hD hK hS hA (fun u6 H locs w7 hP hD hK hS => ?_)
  obtain ⟨V11, L12⟩ := u6
  obtain ⟨hMV11, ajV11, axL12, fyV11, t8, t9, t10⟩ := w7
  have axL12 : L = L12 := Eq.symm axL12
  subst axL12
  have hP : va_P D vwCl (xw ad kk V11 L Z) H := hP
  have hD : va_D A (xw ad kk V11 L Z) := hD
  have hMV11 : rgd bX V11 := hMV11
  have ajV11 : agr [] [41, 42, 43] V2 V11 := ajV11
  have agV11 : agr [(1, 1), (1, 2), (1, 3), (1, 4), (1, 6), (1, 7), (1, 8), (6, 6), (6, 7), (6, 8), (6, 9), (6, 10)] [12, 13, 14, 41, 42, 43, 44, 45, 46, 47, 48, 49, 50, 51, 52, 53, 54, 55, 56, 57, 58, 59, 60, 61, 62, 63, 64, 65, 66] V V11 := agV2.tr ajV11 (by decide) (by decide)
  have fwV11 : frX (xR b) V V11 := frX.tr fwV2 (fyV11)
  have t8 : (V11 42 b).toInt = 0 := t8
  have t9 : (V11 41 b).toInt = 0 := t9
  have t10 : (V11 43 (5 * b + 2)).toInt = 0 := t10
  have cd13 : CD V11 b := CD.zero t8
  have tx14 : TX V11 b := TX.zero t10 t9
  refine lv_aload_n hx hb dX1_read_12 rfl (lv_at hl 0 rfl) ?_
  refine lv_null hx hb dX1_read_13 ?_
  refine va_put (D := D) (ci := 1) (v := .null) (ty := tyX1 2) (fs := (xfReader ad V11 L Z)) (C := RX1) (T := TX1) (N := 9) hx hb hg inX1 tyX1 tyX1_ok nmX1 hown hK hP hD hS 1 xgReader rfl 2 (by decide) (hg _ w306) (fun _ h9 => h9) rfl (tyX1_ok 2 (by decide)) rfl rfl (Nat.le_of_ble_eq_true rfl) dX1_read_14 (fun H locs hP hD hS => ?_)
  obtain ⟨V15, hV15⟩ : ∃ z, z = up2 V11 1 2 (-1) := ⟨_, rfl⟩
  have ew16 : (xw ad kk V11 L Z).set 1 ((ad 1), .inr (1, (xfReader ad V11 L Z).set 2 (.null))) = xw ad kk V15 L Z := by rw [hV15]; exact xr_owner_n
  have hP : va_P D vwCl (xw ad kk V15 L Z) H := by rw [← ew16]; exact hP
  have hD : va_D A (xw ad kk V15 L Z) := by rw [← ew16]; exact hD
  have hMV15 : rgd bX V15 := hMV11.put hV15 (by decide)
  have agV15 : agr [(1, 1), (1, 2), (1, 3), (1, 4), (1, 6), (1, 7), (1, 8), (6, 6), (6, 7), (6, 8), (6, 9), (6, 10)] [12, 13, 14, 41, 42, 43, 44, 45, 46, 47, 48, 49, 50, 51, 52, 53, 54, 55, 56, 57, 58, 59, 60, 61, 62, 63, 64, 65, 66] V V15 := agV11.up hV15 rfl
  have fwV15 : frX (xR b) V V15 := frX.up fwV11 hV15 (Or.inl (by decide))
  refine lv_aload_n hx hb dX1_read_17 rfl (lv_at hl 0 rfl) ?_
  refine lv_iconst (v := 0) hx hb dX1_read_18 (by decide) ?_
  refine va_put (D := D) (ci := 1) (v := .int 0) (ty := tyX1 3) (fs := (xfReader ad V15 L Z)) (C := RX1) (T := TX1) (N := 9) hx hb hg inX1 tyX1 tyX1_ok nmX1 hown hK hP hD hS 1 xgReader rfl 3 (by decide) (hg _ w307) (fun _ h9 => h9) rfl (tyX1_ok 3 (by decide)) rfl rfl (Nat.le_of_ble_eq_true rfl) dX1_read_19 (fun H locs hP hD hS => ?_)
  obtain ⟨V17, hV17⟩ : ∃ z, z = up2 V15 1 3 0 := ⟨_, rfl⟩
  have ew18 : (xw ad kk V15 L Z).set 1 ((ad 1), .inr (1, (xfReader ad V15 L Z).set 3 (.int 0))) = xw ad kk V17 L Z := by rw [hV17]; exact xw_ss (by decide) rfl (xb_si (by decide))
  have hP : va_P D vwCl (xw ad kk V17 L Z) H := by rw [← ew18]; exact hP
  have hD : va_D A (xw ad kk V17 L Z) := by rw [← ew18]; exact hD
  have hMV17 : rgd bX V17 := hMV15.put hV17 (i_full _)
  have agV17 : agr [(1, 1), (1, 2), (1, 3), (1, 4), (1, 6), (1, 7), (1, 8), (6, 6), (6, 7), (6, 8), (6, 9), (6, 10)] [12, 13, 14, 41, 42, 43, 44, 45, 46, 47, 48, 49, 50, 51, 52, 53, 54, 55, 56, 57, 58, 59, 60, 61, 62, 63, 64, 65, 66] V V17 := agV15.up hV17 rfl
  have fwV17 : frX (xR b) V V17 := frX.up fwV15 hV17 (Or.inl (by decide))
  refine lv_aload_n hx hb dX1_read_22 rfl (lv_at hl 0 rfl) ?_
  refine va_get (D := D) (ci := 1) (v := .ref (ad 6)) (fs := (xfReader ad V17 L Z)) (C := RX1) (T := TX1) (N := 9) hx hb hg inX1 hown hK hP 1 xgReader rfl 0 (by decide) (hg _ w304) (fun _ h9 => h9) rfl dX1_read_23 ?_
  refine gA_void (gA_runV (As := []) (rest := []) (ci := 9) (q0 := 6) hx hb hml hown hg hP hD hK hS hA hnw hgk (x_begin l D ks H.size ad kk V17 L Z  hMV17 ) w766 w767 w768 w157 w769 rfl xgTape hdV_yX9_begin ⟨Nat.le_of_ble_eq_true rfl, Nat.le_of_ble_eq_true rfl⟩ rfl hl.1 rfl (Nat.le_of_ble_eq_true rfl) dX1_read_26 ⟨Nat.le_of_ble_eq_true rfl, Nat.le_of_ble_eq_true rfl⟩) hP hD hK hS hA (fun u20 H locs w21 hP hD hK hS => ?_)
  obtain ⟨V22, L23⟩ := u20
  obtain ⟨hMV22, ajV22, axL23⟩ := w21
  have alL23 : agL [1, 6, 14, 44] L L23 := agL.tr alL axL23 (by decide)
  have hP : va_P D vwCl (xw ad kk V22 L23 Z) H := hP
  have hD : va_D A (xw ad kk V22 L23 Z) := hD
  have hMV22 : rgd bX V22 := hMV22
  have ajV22 : agr [(6, 6), (6, 7), (6, 8), (6, 9), (6, 10)] [12, 13, 14] V17 V22 := ajV22
  have agV22 : agr [(1, 1), (1, 2), (1, 3), (1, 4), (1, 6), (1, 7), (1, 8), (6, 6), (6, 7), (6, 8), (6, 9), (6, 10)] [12, 13, 14, 41, 42, 43, 44, 45, 46, 47, 48, 49, 50, 51, 52, 53, 54, 55, 56, 57, 58, 59, 60, 61, 62, 63, 64, 65, 66] V V22 := agV17.tr ajV22 (by decide) (by decide)
  have fwV22 : frX (xR b) V V22 := frX.tr fwV17 (frX.ag ajV22 (by decide) (by decide))
  refine lv_iconst (v := 0) hx hb dX1_read_29 (by decide) ?_
  refine lv_istore_n (lv' := [(2, .int 0), (0, .ref (ad 1)), (1, .ref (ad (38 + b)))]) hx hb dX1_read_30 rfl hl (by decide) rfl (fun ls hl => ?_)
  have lp27 : ∀ (fulp27 : Nat) (y24 : Int32) (V25 : Vf) (L26 : Lf) (H : Heap) (locs : List Loc) (ls : Array Slot), 0 ≤ y24.toInt ∧ y24.toInt ≤ 4000 → CD V25 b → TX V25 b → (V25 1 2).toInt = -1 ∨ (24 * (b : Int) ≤ (V25 1 2).toInt ∧ (V25 1 2).toInt < 24 * (b : Int) + 24) → (V25 1 1).toInt = (b : Int) → 4000 - y24.toInt < (fulp27 : Int) → agL [1, 6, 14, 44] L L26 → agr [(1, 2), (1, 3), (1, 4), (1, 6), (1, 7), (1, 8), (6, 8), (6, 9), (6, 10)] [41, 42, 43, 44, 45, 46, 47, 48, 49, 50, 51, 52, 53, 54, 55, 56, 57, 58, 59, 60, 61, 62, 63, 64, 65, 66] V22 V25 → rgd bX V25 → frX (xR b) V V25 → va_P D vwCl (xw ad kk V25 L26 Z) H → va_D A (xw ad kk V25 L26 Z) → va_S A s.heap H locs → lv_has ls 4 [(2, .int y24), (0, .ref (ad 1)), (1, .ref (ad (38 + b)))] → W p l e r_x_read s m ([.ref (ad 1), .ref (ad (38 + b))] : List Value).toArray below meth c H locs 0 0 (MQ below (q_x_read D ks ad kk V L Z  b A) ([.ref (ad 1), .ref (ad (38 + b))] : List Value).toArray s 0 0 A) (F0 m 31 ls []) := by
    intro fulp27
    induction fulp27 with
    | zero =>
      intro y24 V25 L26 H locs ls klp27_0 xlp27_0 xlp27_1 xlp27_2 xlp27_3 hn alL26 ajV25 hMV25 fwV25 hP hD hS hl
      exfalso; (first | exact om_03b755d7679e klp27_0.2 hn | omega)
    | succ fulp27 ihlp27 =>
      intro y24 V25 L26 H locs ls klp27_0 xlp27_0 xlp27_1 xlp27_2 xlp27_3 hn alL26 ajV25 hMV25 fwV25 hP hD hS hl
      have agV25 : agr [(1, 1), (1, 2), (1, 3), (1, 4), (1, 6), (1, 7), (1, 8), (6, 6), (6, 7), (6, 8), (6, 9), (6, 10)] [12, 13, 14, 41, 42, 43, 44, 45, 46, 47, 48, 49, 50, 51, 52, 53, 54, 55, 56, 57, 58, 59, 60, 61, 62, 63, 64, 65, 66] V V25 := agV22.tr ajV25 (by decide) (by decide)
      have r28 : (-1) ≤ ((V25 1 2)).toInt ∧ ((V25 1 2)).toInt ≤ 47 := hMV25 1 2
      have pq29 : (V25 1 1).toInt = ((nI b)).toInt := congrArg Int32.toInt ((ajV25 1 1 rfl).trans ((ajV22 1 1 rfl).trans ((up2_k hV17 (by decide)).trans ((up2_k hV15 (by decide)).trans ((ajV11 1 1 rfl).trans (up2_s hV2))))))
      refine lv_iload_n hx hb dX1_read_31 rfl (lv_at hl 0 rfl) ?_
      refine lv_sipush (v := 4000) hx hb dX1_read_32 (by decide) ?_
      refine lv_icmp_ge (tgt := 82) hx hb dX1_read_35 (by decide) (fun c30 => ?_) (fun c30 => ?_)
      · skip
        have f31 : 4000 ≤ y24.toInt := b_le (by decide) rfl c30
        by_cases hon : (V25 1 2).toInt < 0
        · skip
          have ow1 : (V25 1 2).toInt = -1 := by omega
          refine lv_aload_n hx hb dX1_read_82 rfl (lv_at hl 1 rfl) ?_
          refine va_get (D := D) (ci := 1) (v := rfN ad 72 (V25 1 2)) (fs := (xfReader ad V25 L26 Z)) (C := RX1) (T := TX1) (N := 9) hx hb hg inX1 hown hK hP 1 xgReader rfl 2 (by decide) (hg _ w306) (fun _ h9 => h9) rfl dX1_read_83 ?_
          refine g_topv (v := .null) (rfN_n (by omega)) ?_
          refine lv_ifnullN (tgt := 95) hx hb dX1_read_86 (by decide) ?_
          refine lv_aload_n hx hb dX1_read_95 rfl (lv_at hl 1 rfl) ?_
          refine va_get (D := D) (ci := 1) (v := .int (V25 1 3)) (fs := (xfReader ad V25 L26 Z)) (C := RX1) (T := TX1) (N := 9) hx hb hg inX1 hown hK hP 1 xgReader rfl 3 (by decide) (hg _ w307) (fun _ h9 => h9) rfl dX1_read_96 ?_
          exact W.iret (v := (V25 1 3)) hx hb hr (fun t ht hW => ⟨⟨(V25 1 3), (V25, L26), rfl, ⟨hMV25, agV25, alL26, fwV25, (Imp.mk (fun _ => ⟨xlp27_0, xlp27_1⟩))⟩, by rw [ht]; exact hP, va_K.moved hW.alike hK, hD⟩, hS.F ht⟩) hS.2.2 dX1_read_99
        · skip
          have ko := i_clamp (x := V25 1 2) rfl (by omega)
          refine lv_aload_n hx hb dX1_read_82 rfl (lv_at hl 1 rfl) ?_
          refine va_get (D := D) (ci := 1) (v := rfN ad 72 (V25 1 2)) (fs := (xfReader ad V25 L26 Z)) (C := RX1) (T := TX1) (N := 9) hx hb hg inX1 hown hK hP 1 xgReader rfl 2 (by decide) (hg _ w306) (fun _ h9 => h9) rfl dX1_read_83 ?_
          refine g_topv (v := .ref (ad (72 + (Int32.toNatClampNeg (V25 1 2))))) (rfN_r (by omega)) ?_
          refine lv_ifnull hx hb dX1_read_86 ?_
          refine lv_aload_n hx hb dX1_read_89 rfl (lv_at hl 1 rfl) ?_
          refine lv_iconst (v := 1) hx hb dX1_read_90 (by decide) ?_
          have r32 : Int32.toInt 1 = 1 := by decide
          refine gA_int (gA_runV (As := [.int 1]) (rest := []) (ci := 1) (q0 := 1) hx hb hml hown hg hP hD hK hS hA hnw hgk (x_wrong l D ks H.size ad kk V25 L26 Z 1 hMV25 (by decide)) w867 w869 w6 w162 w870 rfl xgReader hdV_yX1_wrong ⟨Nat.le_of_ble_eq_true rfl, Nat.le_of_ble_eq_true rfl⟩ rfl hl.1 rfl (Nat.le_of_ble_eq_true rfl) dX1_read_91 ⟨Nat.le_of_ble_eq_true rfl, Nat.le_of_ble_eq_true rfl⟩) hP hD hK hS hA (fun z33 u34 H locs w35 hP hD hK hS => ?_)
          obtain ⟨V37, L38⟩ := u34
          obtain ⟨hMV37, ajV37, axL38, rgz33, t36⟩ := w35
          have axL38 : L26 = L38 := Eq.symm axL38
          subst axL38
          have hP : va_P D vwCl (xw ad kk V37 L26 Z) H := hP
          have hD : va_D A (xw ad kk V37 L26 Z) := hD
          have hMV37 : rgd bX V37 := hMV37
          have ajV37 : agr [(1, 3)] [] V25 V37 := ajV37
          have agV37 : agr [(1, 1), (1, 2), (1, 3), (1, 4), (1, 6), (1, 7), (1, 8), (6, 6), (6, 7), (6, 8), (6, 9), (6, 10)] [12, 13, 14, 41, 42, 43, 44, 45, 46, 47, 48, 49, 50, 51, 52, 53, 54, 55, 56, 57, 58, 59, 60, 61, 62, 63, 64, 65, 66] V V37 := agV25.tr ajV37 (by decide) (by decide)
          have fwV37 : frX (xR b) V V37 := frX.tr fwV25 (frX.ag ajV37 (by decide) (by decide))
          have rgz33 : 0 ≤ z33.toInt ∧ z33.toInt ≤ 0 := rgz33
          have t36 : 1 ≤ (V37 1 3).toInt := t36
          refine lv_pop hx hb dX1_read_94 rfl ?_
          refine lv_aload_n hx hb dX1_read_95 rfl (lv_at hl 1 rfl) ?_
          refine va_get (D := D) (ci := 1) (v := .int (V37 1 3)) (fs := (xfReader ad V37 L26 Z)) (C := RX1) (T := TX1) (N := 9) hx hb hg inX1 hown hK hP 1 xgReader rfl 3 (by decide) (hg _ w307) (fun _ h9 => h9) rfl dX1_read_96 ?_
          exact W.iret (v := (V37 1 3)) hx hb hr (fun t ht hW => ⟨⟨(V37 1 3), (V37, L26), rfl, ⟨hMV37, agV37, alL26, fwV37, (Imp.mk (fun hp => by exfalso; omega))⟩, by rw [ht]; exact hP, va_K.moved hW.alike hK, hD⟩, hS.F ht⟩) hS.2.2 dX1_read_99
      · skip
        have f39 : y24.toInt < 4000 := b_nle (by decide) rfl c30
        refine lv_aload_n hx hb dX1_read_38 rfl (lv_at hl 1 rfl) ?_
        refine va_get (D := D) (ci := 1) (v := .ref (ad 6)) (fs := (xfReader ad V25 L26 Z)) (C := RX1) (T := TX1) (N := 9) hx hb hg inX1 hown hK hP 1 xgReader rfl 0 (by decide) (hg _ w304) (fun _ h9 => h9) rfl dX1_read_39 ?_
        refine va_getN (D := D) (ci := 9) (v := .int (V25 6 9)) (fs := (xfTape ad V25 L26 Z)) (C := RX9) (T := TX9) (N := 12) hx hb hg inX9 hown hK hP 6 xgTape rfl 9 (by decide) (hnw.use 262 n262 rfl) (fun _ h9 => h9) rfl dX1_read_42 ?_
        refine lv_if_eq (tgt := 82) hx hb dX1_read_45 (by decide) (fun c40 => ?_) (fun c40 => ?_)
        · skip
          have f41 : ((V25 6 9)).toInt = 0 := b_eq rfl (by decide) c40
          by_cases hon : (V25 1 2).toInt < 0
          · skip
            have ow1 : (V25 1 2).toInt = -1 := by omega
            refine lv_aload_n hx hb dX1_read_82 rfl (lv_at hl 1 rfl) ?_
            refine va_get (D := D) (ci := 1) (v := rfN ad 72 (V25 1 2)) (fs := (xfReader ad V25 L26 Z)) (C := RX1) (T := TX1) (N := 9) hx hb hg inX1 hown hK hP 1 xgReader rfl 2 (by decide) (hg _ w306) (fun _ h9 => h9) rfl dX1_read_83 ?_
            refine g_topv (v := .null) (rfN_n (by omega)) ?_
            refine lv_ifnullN (tgt := 95) hx hb dX1_read_86 (by decide) ?_
            refine lv_aload_n hx hb dX1_read_95 rfl (lv_at hl 1 rfl) ?_
            refine va_get (D := D) (ci := 1) (v := .int (V25 1 3)) (fs := (xfReader ad V25 L26 Z)) (C := RX1) (T := TX1) (N := 9) hx hb hg inX1 hown hK hP 1 xgReader rfl 3 (by decide) (hg _ w307) (fun _ h9 => h9) rfl dX1_read_96 ?_
            exact W.iret (v := (V25 1 3)) hx hb hr (fun t ht hW => ⟨⟨(V25 1 3), (V25, L26), rfl, ⟨hMV25, agV25, alL26, fwV25, (Imp.mk (fun _ => ⟨xlp27_0, xlp27_1⟩))⟩, by rw [ht]; exact hP, va_K.moved hW.alike hK, hD⟩, hS.F ht⟩) hS.2.2 dX1_read_99
          · skip
            have ko := i_clamp (x := V25 1 2) rfl (by omega)
            refine lv_aload_n hx hb dX1_read_82 rfl (lv_at hl 1 rfl) ?_
            refine va_get (D := D) (ci := 1) (v := rfN ad 72 (V25 1 2)) (fs := (xfReader ad V25 L26 Z)) (C := RX1) (T := TX1) (N := 9) hx hb hg inX1 hown hK hP 1 xgReader rfl 2 (by decide) (hg _ w306) (fun _ h9 => h9) rfl dX1_read_83 ?_
            refine g_topv (v := .ref (ad (72 + (Int32.toNatClampNeg (V25 1 2))))) (rfN_r (by omega)) ?_
            refine lv_ifnull hx hb dX1_read_86 ?_
            refine lv_aload_n hx hb dX1_read_89 rfl (lv_at hl 1 rfl) ?_
            refine lv_iconst (v := 1) hx hb dX1_read_90 (by decide) ?_
            have r42 : Int32.toInt 1 = 1 := by decide
            refine gA_int (gA_runV (As := [.int 1]) (rest := []) (ci := 1) (q0 := 1) hx hb hml hown hg hP hD hK hS hA hnw hgk (x_wrong l D ks H.size ad kk V25 L26 Z 1 hMV25 (by decide)) w867 w869 w6 w162 w870 rfl xgReader hdV_yX1_wrong ⟨Nat.le_of_ble_eq_true rfl, Nat.le_of_ble_eq_true rfl⟩ rfl hl.1 rfl (Nat.le_of_ble_eq_true rfl) dX1_read_91 ⟨Nat.le_of_ble_eq_true rfl, Nat.le_of_ble_eq_true rfl⟩) hP hD hK hS hA (fun z43 u44 H locs w45 hP hD hK hS => ?_)
            obtain ⟨V47, L48⟩ := u44
            obtain ⟨hMV47, ajV47, axL48, rgz43, t46⟩ := w45
            have axL48 : L26 = L48 := Eq.symm axL48
            subst axL48
            have hP : va_P D vwCl (xw ad kk V47 L26 Z) H := hP
            have hD : va_D A (xw ad kk V47 L26 Z) := hD
            have hMV47 : rgd bX V47 := hMV47
            have ajV47 : agr [(1, 3)] [] V25 V47 := ajV47
            have agV47 : agr [(1, 1), (1, 2), (1, 3), (1, 4), (1, 6), (1, 7), (1, 8), (6, 6), (6, 7), (6, 8), (6, 9), (6, 10)] [12, 13, 14, 41, 42, 43, 44, 45, 46, 47, 48, 49, 50, 51, 52, 53, 54, 55, 56, 57, 58, 59, 60, 61, 62, 63, 64, 65, 66] V V47 := agV25.tr ajV47 (by decide) (by decide)
            have fwV47 : frX (xR b) V V47 := frX.tr fwV25 (frX.ag ajV47 (by decide) (by decide))
            have rgz43 : 0 ≤ z43.toInt ∧ z43.toInt ≤ 0 := rgz43
            have t46 : 1 ≤ (V47 1 3).toInt := t46
            refine lv_pop hx hb dX1_read_94 rfl ?_
            refine lv_aload_n hx hb dX1_read_95 rfl (lv_at hl 1 rfl) ?_
            refine va_get (D := D) (ci := 1) (v := .int (V47 1 3)) (fs := (xfReader ad V47 L26 Z)) (C := RX1) (T := TX1) (N := 9) hx hb hg inX1 hown hK hP 1 xgReader rfl 3 (by decide) (hg _ w307) (fun _ h9 => h9) rfl dX1_read_96 ?_
            exact W.iret (v := (V47 1 3)) hx hb hr (fun t ht hW => ⟨⟨(V47 1 3), (V47, L26), rfl, ⟨hMV47, agV47, alL26, fwV47, (Imp.mk (fun hp => by exfalso; omega))⟩, by rw [ht]; exact hP, va_K.moved hW.alike hK, hD⟩, hS.F ht⟩) hS.2.2 dX1_read_99
        · skip
          have f49 : ((V25 6 9)).toInt ≠ 0 := b_neq rfl (by decide) c40
          by_cases hon : (V25 1 2).toInt < 0
          · skip
            have ow1 : (V25 1 2).toInt = -1 := by omega
            refine lv_aload_n hx hb dX1_read_48 rfl (lv_at hl 1 rfl) ?_
            refine va_get (D := D) (ci := 1) (v := rfN ad 72 (V25 1 2)) (fs := (xfReader ad V25 L26 Z)) (C := RX1) (T := TX1) (N := 9) hx hb hg inX1 hown hK hP 1 xgReader rfl 2 (by decide) (hg _ w306) (fun _ h9 => h9) rfl dX1_read_49 ?_
            refine g_topv (v := .null) (rfN_n (by omega)) ?_
            refine lv_ifnonnullN hx hb dX1_read_52 ?_
            refine lv_aload_n hx hb dX1_read_55 rfl (lv_at hl 1 rfl) ?_
            refine gA_int (gA_runV (As := []) (rest := []) (ci := 1) (q0 := 1) hx hb hml hown hg hP hD hK hS hA hnw hgk (x_readStatement l D ks H.size ad kk V25 L26 Z (b) hMV25 (show b < 2 from by (first | exact om_f940a4667dd6 hb2 | omega)) (show (V25 1 1).toInt = (b : Int) from by (first | exact om_adf531c77a0d r1 pq29 | omega)) (show (V25 1 2).toInt = -1 from by (first | exact om_8809abba85b8 r28.1 ow1 | omega)) xlp27_0 xlp27_1) w855 w857 w4 w162 w858 rfl xgReader hdV_yX1_readStatement ⟨Nat.le_of_ble_eq_true rfl, Nat.le_of_ble_eq_true rfl⟩ rfl hl.1 rfl (Nat.le_of_ble_eq_true rfl) dX1_read_56 ⟨Nat.le_of_ble_eq_true rfl, Nat.le_of_ble_eq_true rfl⟩) hP hD hK hS hA (fun z50 u51 H locs w52 hP hD hK hS => ?_)
            obtain ⟨V58, L59⟩ := u51
            obtain ⟨hMV58, ajV58, axL59, fyV58, rgz50, t53, t54, t55, t56, t57⟩ := w52
            have alL59 : agL [1, 6, 14, 44] L L59 := agL.tr alL26 axL59 (by decide)
            have hP : va_P D vwCl (xw ad kk V58 L59 Z) H := hP
            have hD : va_D A (xw ad kk V58 L59 Z) := hD
            have hMV58 : rgd bX V58 := hMV58
            have ajV58 : agr [(1, 2), (1, 3), (1, 4), (1, 6), (1, 7), (1, 8), (6, 8), (6, 9), (6, 10)] [41, 42, 43, 44, 45, 46, 47, 48, 49, 50, 51, 52, 53, 54, 55, 56, 57, 61, 62, 63, 64, 65, 66] V25 V58 := ajV58
            have agV58 : agr [(1, 1), (1, 2), (1, 3), (1, 4), (1, 6), (1, 7), (1, 8), (6, 6), (6, 7), (6, 8), (6, 9), (6, 10)] [12, 13, 14, 41, 42, 43, 44, 45, 46, 47, 48, 49, 50, 51, 52, 53, 54, 55, 56, 57, 58, 59, 60, 61, 62, 63, 64, 65, 66] V V58 := agV25.tr ajV58 (by decide) (by decide)
            have fwV58 : frX (xR b) V V58 := frX.tr fwV25 (fyV58)
            have rgz50 : 0 ≤ z50.toInt ∧ z50.toInt ≤ 1 := rgz50
            have t53 : Imp (z50.toInt = 1) (TX V58 b) := t53
            have t54 : CD V58 b := t54
            have t55 : p0x V25 V58 b := t55
            have t56 : (V58 1 2).toInt = (V25 1 2).toInt ∨ (24 * (b : Int) ≤ (V58 1 2).toInt ∧ (V58 1 2).toInt < 24 * (b : Int) + 24) := t56
            have t57 : Imp (z50.toInt = 0) (1 ≤ (V58 1 3).toInt) := t57
            have r60 : (-1) ≤ ((V58 1 2)).toInt ∧ ((V58 1 2)).toInt ≤ 47 := hMV58 1 2
            refine lv_goto (tgt := 66) hx hb dX1_read_59 (by decide) ?_
            refine lv_istore_n (lv' := [(3, .int z50), (2, .int y24), (0, .ref (ad 1)), (1, .ref (ad (38 + b)))]) hx hb dX1_read_66 rfl hl (by decide) rfl (fun ls hl => ?_)
            refine lv_iload_n hx hb dX1_read_67 rfl (lv_at hl 0 rfl) ?_
            refine lv_if_ne (tgt := 76) hx hb dX1_read_68 (by decide) (fun c61 => ?_) (fun c61 => ?_)
            · skip
              have f62 : z50.toInt ≠ 0 := b_neq rfl (by decide) c61
              obtain ⟨z63, ez63⟩ : ∃ y : Int32, y = y24 + 1 := ⟨_, rfl⟩
              have hz63 : z63.toInt = y24.toInt + 1 := i_add ez63 rfl (by decide) (by (first | exact om_67c6ad613360 klp27_0.1 f39 | omega))
              refine lv_iinc (v := z63) (lv' := [(2, .int z63), (3, .int z50), (0, .ref (ad 1)), (1, .ref (ad (38 + b)))]) hx hb dX1_read_76 hl (k := 1) rfl (by rw [ez63]; rfl) (by decide) rfl (fun ls hl => ?_)
              refine lv_goto (tgt := 31) hx hb dX1_read_79 (by decide) ?_
              have pq64 : (V58 1 1).toInt = ((nI b)).toInt := congrArg Int32.toInt ((ajV58 1 1 rfl).trans ((ajV25 1 1 rfl).trans ((ajV22 1 1 rfl).trans ((up2_k hV17 (by decide)).trans ((up2_k hV15 (by decide)).trans ((ajV11 1 1 rfl).trans (up2_s hV2)))))))
              exact ihlp27 z63 V58 L59 H locs ls (by first | exact om_44a0a3faffcf klp27_0.1 f39 hz63 | first | omega | ((try (have i_t57 := Imp.go t57 (by omega))); omega)) t54 (Imp.go t53 (by (first | exact om_2ebe32d50835 rgz50.1 rgz50.2 f62 | omega))) (show (V58 1 2).toInt = -1 ∨ (24 * (b : Int) ≤ (V58 1 2).toInt ∧ (V58 1 2).toInt < 24 * (b : Int) + 24) from by first | omega | ((try (have i_t57 := Imp.go t57 (by omega))); omega)) (show (V58 1 1).toInt = (b : Int) from by first | exact om_adf531c77a0d r1 pq64 | first | omega | ((try (have i_t57 := Imp.go t57 (by omega))); omega)) (by first | exact om_7390df9cc880 hn hz63 | first | omega | ((try (have i_t57 := Imp.go t57 (by omega))); omega)) alL59 (agr.tr (agr.tr agr.rf ajV25 (by decide) (by decide)) ajV58 (by decide) (by decide)) hMV58 fwV58 hP hD hS (lv_sub hl [0, 2, 3] rfl)
            · skip
              have f65 : z50.toInt = 0 := b_eq rfl (by decide) c61
              refine lv_aload_n hx hb dX1_read_71 rfl (lv_at hl 2 rfl) ?_
              refine va_get (D := D) (ci := 1) (v := .int (V58 1 3)) (fs := (xfReader ad V58 L59 Z)) (C := RX1) (T := TX1) (N := 9) hx hb hg inX1 hown hK hP 1 xgReader rfl 3 (by decide) (hg _ w307) (fun _ h9 => h9) rfl dX1_read_72 ?_
              exact W.iret (v := (V58 1 3)) hx hb hr (fun t ht hW => ⟨⟨(V58 1 3), (V58, L59), rfl, ⟨hMV58, agV58, alL59, fwV58, (Imp.mk (fun hp => by exfalso; first | omega | ((try (have i_t57 := Imp.go t57 (by omega))); omega)))⟩, by rw [ht]; exact hP, va_K.moved hW.alike hK, hD⟩, hS.F ht⟩) hS.2.2 dX1_read_75
          · skip
            have ko := i_clamp (x := V25 1 2) rfl (by omega)
            refine lv_aload_n hx hb dX1_read_48 rfl (lv_at hl 1 rfl) ?_
            refine va_get (D := D) (ci := 1) (v := rfN ad 72 (V25 1 2)) (fs := (xfReader ad V25 L26 Z)) (C := RX1) (T := TX1) (N := 9) hx hb hg inX1 hown hK hP 1 xgReader rfl 2 (by decide) (hg _ w306) (fun _ h9 => h9) rfl dX1_read_49 ?_
            refine g_topv (v := .ref (ad (72 + (Int32.toNatClampNeg (V25 1 2))))) (rfN_r (by omega)) ?_
            refine lv_ifnonnull (tgt := 62) hx hb dX1_read_52 (by decide) ?_
            refine lv_aload_n hx hb dX1_read_62 rfl (lv_at hl 1 rfl) ?_
            refine gA_int (gA_runV (As := []) (rest := []) (ci := 1) (q0 := 1) hx hb hml hown hg hP hD hK hS hA hnw hgk (x_readMember l D ks H.size ad kk V25 L26 Z (b) ((Int32.toNatClampNeg (V25 1 2))) hMV25 (show b < 2 from by (first | exact om_f940a4667dd6 hb2 | omega)) (show (V25 1 1).toInt = (b : Int) from by (first | exact om_adf531c77a0d r1 pq29 | omega)) (show (V25 1 2).toInt = ((Int32.toNatClampNeg (V25 1 2)) : Int) from by (first | exact om_dadc9969542e ko | omega)) (show (Int32.toNatClampNeg (V25 1 2)) < 48 from by (first | exact om_755bf3536861 r28.2 ko | omega)) (show 24 * b ≤ (Int32.toNatClampNeg (V25 1 2)) from by omega) (show (Int32.toNatClampNeg (V25 1 2)) < 24 * b + 24 from by omega) xlp27_0 xlp27_1) w1003 w1005 w31 w162 w1006 rfl xgReader hdV_yX1_readMember ⟨Nat.le_of_ble_eq_true rfl, Nat.le_of_ble_eq_true rfl⟩ rfl hl.1 rfl (Nat.le_of_ble_eq_true rfl) dX1_read_63 ⟨Nat.le_of_ble_eq_true rfl, Nat.le_of_ble_eq_true rfl⟩) hP hD hK hS hA (fun z66 u67 H locs w68 hP hD hK hS => ?_)
            obtain ⟨V74, L75⟩ := u67
            obtain ⟨hMV74, ajV74, axL75, fyV74, rgz66, t69, t70, t71, t72, t73⟩ := w68
            have alL75 : agL [1, 6, 14, 44] L L75 := agL.tr alL26 axL75 (by decide)
            have hP : va_P D vwCl (xw ad kk V74 L75 Z) H := hP
            have hD : va_D A (xw ad kk V74 L75 Z) := hD
            have hMV74 : rgd bX V74 := hMV74
            have ajV74 : agr [(1, 2), (1, 3), (1, 4), (1, 6), (1, 8), (6, 8), (6, 9), (6, 10)] [42, 43, 44, 48, 49, 56, 57, 58, 59, 60, 61] V25 V74 := ajV74
            have agV74 : agr [(1, 1), (1, 2), (1, 3), (1, 4), (1, 6), (1, 7), (1, 8), (6, 6), (6, 7), (6, 8), (6, 9), (6, 10)] [12, 13, 14, 41, 42, 43, 44, 45, 46, 47, 48, 49, 50, 51, 52, 53, 54, 55, 56, 57, 58, 59, 60, 61, 62, 63, 64, 65, 66] V V74 := agV25.tr ajV74 (by decide) (by decide)
            have fwV74 : frX (xR b) V V74 := frX.tr fwV25 (fyV74)
            have rgz66 : 0 ≤ z66.toInt ∧ z66.toInt ≤ 1 := rgz66
            have t69 : TX V74 b := t69
            have t70 : (V74 1 2).toInt = (V25 1 2).toInt ∨ (V74 1 2).toInt = -1 := t70
            have t71 : CD V74 b := t71
            have t72 : px V25 V74 b := t72
            have t73 : Imp (z66.toInt = 0) (1 ≤ (V74 1 3).toInt) := t73
            have r76 : (-1) ≤ ((V74 1 2)).toInt ∧ ((V74 1 2)).toInt ≤ 47 := hMV74 1 2
            refine lv_istore_n (lv' := [(3, .int z66), (2, .int y24), (0, .ref (ad 1)), (1, .ref (ad (38 + b)))]) hx hb dX1_read_66 rfl hl (by decide) rfl (fun ls hl => ?_)
            refine lv_iload_n hx hb dX1_read_67 rfl (lv_at hl 0 rfl) ?_
            refine lv_if_ne (tgt := 76) hx hb dX1_read_68 (by decide) (fun c77 => ?_) (fun c77 => ?_)
            · skip
              have f78 : z66.toInt ≠ 0 := b_neq rfl (by decide) c77
              obtain ⟨z79, ez79⟩ : ∃ y : Int32, y = y24 + 1 := ⟨_, rfl⟩
              have hz79 : z79.toInt = y24.toInt + 1 := i_add ez79 rfl (by decide) (by (first | exact om_67c6ad613360 klp27_0.1 f39 | omega))
              refine lv_iinc (v := z79) (lv' := [(2, .int z79), (3, .int z66), (0, .ref (ad 1)), (1, .ref (ad (38 + b)))]) hx hb dX1_read_76 hl (k := 1) rfl (by rw [ez79]; rfl) (by decide) rfl (fun ls hl => ?_)
              refine lv_goto (tgt := 31) hx hb dX1_read_79 (by decide) ?_
              have pq80 : (V74 1 1).toInt = ((nI b)).toInt := congrArg Int32.toInt ((ajV74 1 1 rfl).trans ((ajV25 1 1 rfl).trans ((ajV22 1 1 rfl).trans ((up2_k hV17 (by decide)).trans ((up2_k hV15 (by decide)).trans ((ajV11 1 1 rfl).trans (up2_s hV2)))))))
              exact ihlp27 z79 V74 L75 H locs ls (by first | exact om_44a0a3faffcf klp27_0.1 f39 hz79 | first | omega | ((try (have i_t73 := Imp.go t73 (by omega))); omega)) t71 t69 (show (V74 1 2).toInt = -1 ∨ (24 * (b : Int) ≤ (V74 1 2).toInt ∧ (V74 1 2).toInt < 24 * (b : Int) + 24) from by first | omega | ((try (have i_t73 := Imp.go t73 (by omega))); omega)) (show (V74 1 1).toInt = (b : Int) from by first | exact om_adf531c77a0d r1 pq80 | first | omega | ((try (have i_t73 := Imp.go t73 (by omega))); omega)) (by first | exact om_7390df9cc880 hn hz79 | first | omega | ((try (have i_t73 := Imp.go t73 (by omega))); omega)) alL75 (agr.tr (agr.tr agr.rf ajV25 (by decide) (by decide)) ajV74 (by decide) (by decide)) hMV74 fwV74 hP hD hS (lv_sub hl [0, 2, 3] rfl)
            · skip
              have f81 : z66.toInt = 0 := b_eq rfl (by decide) c77
              refine lv_aload_n hx hb dX1_read_71 rfl (lv_at hl 2 rfl) ?_
              refine va_get (D := D) (ci := 1) (v := .int (V74 1 3)) (fs := (xfReader ad V74 L75 Z)) (C := RX1) (T := TX1) (N := 9) hx hb hg inX1 hown hK hP 1 xgReader rfl 3 (by decide) (hg _ w307) (fun _ h9 => h9) rfl dX1_read_72 ?_
              exact W.iret (v := (V74 1 3)) hx hb hr (fun t ht hW => ⟨⟨(V74 1 3), (V74, L75), rfl, ⟨hMV74, agV74, alL75, fwV74, (Imp.mk (fun hp => by exfalso; first | omega | ((try (have i_t73 := Imp.go t73 (by omega))); omega)))⟩, by rw [ht]; exact hP, va_K.moved hW.alike hK, hD⟩, hS.F ht⟩) hS.2.2 dX1_read_75
  have r82 : Int32.toInt 0 = 0 := by decide
  have pq83 : (V22 1 2).toInt = (-1) := (congrArg Int32.toInt ((ajV22 1 2 rfl).trans ((up2_k hV17 (by decide)).trans (up2_s hV15)))).trans (by decide)
  have pq84 : (V22 1 1).toInt = ((nI b)).toInt := congrArg Int32.toInt ((ajV22 1 1 rfl).trans ((up2_k hV17 (by decide)).trans ((up2_k hV15 (by decide)).trans ((ajV11 1 1 rfl).trans (up2_s hV2)))))
  have cd85 : CD V22 b := ⟨CB.ag cd13.1 (show agr [(1, 2), (1, 3), (6, 6), (6, 7), (6, 8), (6, 9), (6, 10)] [12, 13, 14] V11 V22 from (agr.tr (agr.up (agr.up agr.rf hV15 rfl) hV17 rfl) ajV22 (by decide) (by decide))) (fun _ => rfl) (fun _ => rfl), CO.ag cd13.2 (show agr [(1, 2), (1, 3), (6, 6), (6, 7), (6, 8), (6, 9), (6, 10)] [12, 13, 14] V11 V22 from (agr.tr (agr.up (agr.up agr.rf hV15 rfl) hV17 rfl) ajV22 (by decide) (by decide))) (fun _ => rfl) (fun _ => rfl)⟩
  have px86 : px V11 V22 b := px.tr (px.rf : px V11 V11 b) (px.ag (show agr [(1, 2), (1, 3), (6, 6), (6, 7), (6, 8), (6, 9), (6, 10)] [12, 13, 14] V11 V22 from (agr.tr (agr.up (agr.up agr.rf hV15 rfl) hV17 rfl) ajV22 (by decide) (by decide))) (fun _ => rfl) (fun _ => rfl) (fun _ => rfl))
  have tx87 : TX V22 b := TX.ag tx14 (show agr [(1, 2), (1, 3), (6, 6), (6, 7), (6, 8), (6, 9), (6, 10)] [12, 13, 14] V11 V22 from (agr.tr (agr.up (agr.up agr.rf hV15 rfl) hV17 rfl) ajV22 (by decide) (by decide))) px86 (fun _ => rfl) (fun _ => rfl) (fun _ => rfl) (fun _ => rfl) (fun _ => rfl) (fun _ => rfl)
  exact lp27 ((4000 - (Int32.toInt 0) + 1 : Int).toNat) 0 V22 L23 H locs ls (by decide) cd85 tx87 (show (V22 1 2).toInt = -1 ∨ (24 * (b : Int) ≤ (V22 1 2).toInt ∧ (V22 1 2).toInt < 24 * (b : Int) + 24) from by omega) (show (V22 1 1).toInt = (b : Int) from by (first | exact om_adf531c77a0d r1 pq84 | omega)) (by (first | exact om_be7e3b1de7fd | omega)) alL23 agr.rf hMV22 fwV22 hP hD hS (lv_sub hl [0, 1, 2] rfl)
abbrev r_x_h_named : Room := { frames := 6, cells := 0, slots := 0, locals := 133 }
abbrev q_x_h_named (D : va_G) (ks : KS) (ad : Nat → Nat) (kk : Nat → ClassId) (V : Vf) (L : Lf) (Z : XZ) (p0 : Int32) (b : Nat) (A : Nat → Prop) : Array Value → State → Outcome → State → Prop := va_Qi (fun (r : Int32) (u : Vf × Lf) => rgd bX u.1 ∧ agr [(6, 5), (6, 6), (6, 7), (6, 8), (6, 9), (6, 10)] [12, 13, 14] V u.1 ∧ agL [6, 14] L u.2) (fun u t => gq D A (xw ad kk u.1 u.2 Z) (xty kk Z) t) A
end
section
/-! calls that make cells: what they leave says by how much the heap has grown -/
section GZ
variable {p : Program} {l : Launch} {e : Env} {R : Room} {s : State} {m : MethodId} {args : Array Value} {below : List Frame} {meth : Method} {c : Code} {H : Heap} {locs : List Loc} {cells slots : Nat} {Q : State → Prop}
variable {pc : Nat} {ls : Array Slot} {st0 rest : List Value} {D : va_G} {A : Nat → Prop} {ws : va_W}
def qZv {S : Type} (D : va_G) (post : S → Prop) (wq : S → va_W) (tq : S → List (ClassId × FieldType)) (zc zs : S → Nat) (A : Nat → Prop) : Array Value → State → Outcome → State → Prop := fun _ st oc t => (∃ u : S, oc = .returned none ∧ post u ∧ gq D A (wq u) (tq u) t ∧ t.heap.size ≤ st.heap.size + zc u ∧ tot t.heap ≤ tot st.heap + zs u) ∧ va_F A st t
def qZi {S : Type} (D : va_G) (post : Int32 → S → Prop) (wq : S → va_W) (tq : S → List (ClassId × FieldType)) (zc zs : S → Nat) (A : Nat → Prop) : Array Value → State → Outcome → State → Prop := fun _ st oc t => (∃ (r : Int32) (u : S), oc = .returned (some (.int r)) ∧ post r u ∧ gq D A (wq u) (tq u) t ∧ t.heap.size ≤ st.heap.size + zc u ∧ tot t.heap ≤ tot st.heap + zs u) ∧ va_F A st t
def qZr {S : Type} (D : va_G) (post : S → Prop) (ra : S → Nat) (wq : S → va_W) (tq : S → List (ClassId × FieldType)) (zc zs : S → Nat) (A : Nat → Prop) : Array Value → State → Outcome → State → Prop := fun _ st oc t => (∃ u : S, oc = .returned (some (.ref (ra u))) ∧ post u ∧ gq D A (wq u) (tq u) t ∧ t.heap.size ≤ st.heap.size + zc u ∧ tot t.heap ≤ tot st.heap + zs u) ∧ va_F A st t
theorem gZ_void {S : Type} {post : S → Prop} {wq : S → va_W} {tq : S → List (ClassId × FieldType)} {zc zs : S → Nat} {mc ms : Nat} {av : Array Value} (hr : va_Run p l e R s m args below meth c H locs cells slots mc ms (F0 m pc ls st0) rest (qZv D post wq tq zc zs (va_A ws H.size) av) (va_A ws H.size))
    (hD : va_D A ws) (hS : va_S A s.heap H locs) (hA : ∀ q, s.heap.size ≤ q → A q)
    (kk : ∀ (u : S) (H1 : Heap) (locs1 : List Loc), post u → va_P D vwCl (wq u) H1 → va_D A (wq u) → va_K D vwCl (tq u) s → va_S A s.heap H1 locs1 → H1.size ≤ H.size + zc u → tot H1 ≤ tot H + zs u → W p l e R s m args below meth c H1 locs1 (cells + mc) (slots + ms) Q (F0 m (pc + 3) ls rest)) : W p l e R s m args below meth c H locs cells slots Q (F0 m pc ls st0) := by
  have hF := gA_free hD hS hA
  intro T hT X
  obtain ⟨v, st₀, t, T', L, h0, X', hL, e1, e2, ⟨⟨u, hv, hp, hb, y1, y2⟩, hz, hk⟩, st⟩ := hr T hT X
  cases hv
  rw [h0] at hz hk y1 y2
  obtain ⟨hP1, hK1, hD1⟩ := hb
  have hvm : s.vm.Alike t.vm := by rw [← e2]; exact X'.warmed.alike
  obtain ⟨t2, a1, b1⟩ := kk u T'.heap (locs ++ L) hp (by rw [e1]; exact hP1) (hD1.weaken (fun _ _ _ h => hF _ h)) (va_K.moved hvm.symm hK1)
    ⟨Nat.le_trans hS.1 (by rw [e1]; exact hz), fun q h1 h2 => by rw [e1, hk q (Nat.lt_of_lt_of_le h1 hS.1) (fun z => h2 (hF q z))]; exact hS.2.1 q h1 h2, fun q hq => by
      rcases List.mem_append.mp hq with h | h
      · exact hS.2.2 q h
      · exact hF _ (hL q h)⟩ (by rw [e1]; exact y1) (by rw [e1]; exact y2) T' rfl X'
  exact ⟨t2, st t2 a1, b1⟩
theorem gZ_int {S : Type} {post : Int32 → S → Prop} {wq : S → va_W} {tq : S → List (ClassId × FieldType)} {zc zs : S → Nat} {mc ms : Nat} {av : Array Value} (hr : va_Run p l e R s m args below meth c H locs cells slots mc ms (F0 m pc ls st0) rest (qZi D post wq tq zc zs (va_A ws H.size) av) (va_A ws H.size))
    (hD : va_D A ws) (hS : va_S A s.heap H locs) (hA : ∀ q, s.heap.size ≤ q → A q)
    (kk : ∀ (r : Int32) (u : S) (H1 : Heap) (locs1 : List Loc), post r u → va_P D vwCl (wq u) H1 → va_D A (wq u) → va_K D vwCl (tq u) s → va_S A s.heap H1 locs1 → H1.size ≤ H.size + zc u → tot H1 ≤ tot H + zs u → W p l e R s m args below meth c H1 locs1 (cells + mc) (slots + ms) Q (F0 m (pc + 3) ls (.int r :: rest))) : W p l e R s m args below meth c H locs cells slots Q (F0 m pc ls st0) := by
  have hF := gA_free hD hS hA
  intro T hT X
  obtain ⟨v, st₀, t, T', L, h0, X', hL, e1, e2, ⟨⟨r, u, hv, hp, hb, y1, y2⟩, hz, hk⟩, st⟩ := hr T hT X
  cases hv
  rw [h0] at hz hk y1 y2
  obtain ⟨hP1, hK1, hD1⟩ := hb
  have hvm : s.vm.Alike t.vm := by rw [← e2]; exact X'.warmed.alike
  obtain ⟨t2, a1, b1⟩ := kk r u T'.heap (locs ++ L) hp (by rw [e1]; exact hP1) (hD1.weaken (fun _ _ _ h => hF _ h)) (va_K.moved hvm.symm hK1)
    ⟨Nat.le_trans hS.1 (by rw [e1]; exact hz), fun q h1 h2 => by rw [e1, hk q (Nat.lt_of_lt_of_le h1 hS.1) (fun z => h2 (hF q z))]; exact hS.2.1 q h1 h2, fun q hq => by
      rcases List.mem_append.mp hq with h | h
      · exact hS.2.2 q h
      · exact hF _ (hL q h)⟩ (by rw [e1]; exact y1) (by rw [e1]; exact y2) T' rfl X'
  exact ⟨t2, st t2 a1, b1⟩
theorem gZ_ref {S : Type} {post : S → Prop} {ra : S → Nat} {wq : S → va_W} {tq : S → List (ClassId × FieldType)} {zc zs : S → Nat} {mc ms : Nat} {av : Array Value} (hr : va_Run p l e R s m args below meth c H locs cells slots mc ms (F0 m pc ls st0) rest (qZr D post ra wq tq zc zs (va_A ws H.size) av) (va_A ws H.size))
    (hD : va_D A ws) (hS : va_S A s.heap H locs) (hA : ∀ q, s.heap.size ≤ q → A q)
    (kk : ∀ (u : S) (H1 : Heap) (locs1 : List Loc), post u → va_P D vwCl (wq u) H1 → va_D A (wq u) → va_K D vwCl (tq u) s → va_S A s.heap H1 locs1 → H1.size ≤ H.size + zc u → tot H1 ≤ tot H + zs u → W p l e R s m args below meth c H1 locs1 (cells + mc) (slots + ms) Q (F0 m (pc + 3) ls (.ref (ra u) :: rest))) : W p l e R s m args below meth c H locs cells slots Q (F0 m pc ls st0) := by
  have hF := gA_free hD hS hA
  intro T hT X
  obtain ⟨v, st₀, t, T', L, h0, X', hL, e1, e2, ⟨⟨u, hv, hp, hb, y1, y2⟩, hz, hk⟩, st⟩ := hr T hT X
  cases hv
  rw [h0] at hz hk y1 y2
  obtain ⟨hP1, hK1, hD1⟩ := hb
  have hvm : s.vm.Alike t.vm := by rw [← e2]; exact X'.warmed.alike
  obtain ⟨t2, a1, b1⟩ := kk u T'.heap (locs ++ L) hp (by rw [e1]; exact hP1) (hD1.weaken (fun _ _ _ h => hF _ h)) (va_K.moved hvm.symm hK1)
    ⟨Nat.le_trans hS.1 (by rw [e1]; exact hz), fun q h1 h2 => by rw [e1, hk q (Nat.lt_of_lt_of_le h1 hS.1) (fun z => h2 (hF q z))]; exact hS.2.1 q h1 h2, fun q hq => by
      rcases List.mem_append.mp hq with h | h
      · exact hS.2.2 q h
      · exact hF _ (hL q h)⟩ (by rw [e1]; exact y1) (by rw [e1]; exact y2) T' rfl X'
  exact ⟨t2, st t2 a1, b1⟩
end GZ
theorem more_fa {Z : XZ} {q i : Nat} (h : ¬ i = Z.nf) : (Z.more q).fa i = Z.fa i := if_neg h
theorem xb_frz {ad : Nat → Nat} {kk : Nat → ClassId} {V : Vf} {L : Lf} {Z : XZ} {q : Nat} {j : Nat} (h : j < 298 + Z.nf) : xb ad kk (frz V Z.nf) L (Z.more q) j = xb ad kk V L Z j := by
  unfold xb
  by_cases h0 : j < 2
  · rw [if_pos h0, if_pos h0]
    show xeBook ad kk (frz V Z.nf) L (Z.more q) _ = xeBook ad kk V L Z _
    unfold xeBook xfBook
    rw [frz_lo (V := V) (n := Z.nf) (c := 41) (by decide), frz_lo (V := V) (n := Z.nf) (c := 42) (by decide)]
  rw [if_neg h0, if_neg h0]
  by_cases h2 : j < 12
  · rw [if_pos h2, if_pos h2]
    show xeNames ad kk (frz V Z.nf) L (Z.more q) _ = xeNames ad kk V L Z _
    unfold xeNames xfNames
    rw [frz_lo (V := V) (n := Z.nf) (c := 43) (by decide)]
  rw [if_neg h2, if_neg h2]
  by_cases h12 : j < 22
  · rw [if_pos h12, if_pos h12]
    rfl
  rw [if_neg h12, if_neg h12]
  by_cases h22 : j < 24
  · rw [if_pos h22, if_pos h22]
    show xetypeUnder ad kk (frz V Z.nf) L (Z.more q) _ = xetypeUnder ad kk V L Z _
    unfold xetypeUnder
    rw [frz_lo (V := V) (n := Z.nf) (c := 45) (by decide)]
  rw [if_neg h22, if_neg h22]
  by_cases h24 : j < 26
  · rw [if_pos h24, if_pos h24]
    show xesettingValues ad kk (frz V Z.nf) L (Z.more q) _ = xesettingValues ad kk V L Z _
    unfold xesettingValues
    rw [frz_lo (V := V) (n := Z.nf) (c := 46) (by decide)]
  rw [if_neg h24, if_neg h24]
  by_cases h26 : j < 28
  · rw [if_pos h26, if_pos h26]
    rfl
  rw [if_neg h26, if_neg h26]
  by_cases h28 : j < 30
  · rw [if_pos h28, if_pos h28]
    rfl
  rw [if_neg h28, if_neg h28]
  by_cases h30 : j < 32
  · rw [if_pos h30, if_pos h30]
    show xewrapOrder ad kk (frz V Z.nf) L (Z.more q) _ = xewrapOrder ad kk V L Z _
    unfold xewrapOrder
    rw [frz_lo (V := V) (n := Z.nf) (c := 47) (by decide)]
  rw [if_neg h30, if_neg h30]
  by_cases h32 : j < 34
  · rw [if_pos h32, if_pos h32]
    show xecode ad kk (frz V Z.nf) L (Z.more q) _ = xecode ad kk V L Z _
    unfold xecode
    rw [frz_lo (V := V) (n := Z.nf) (c := 48) (by decide)]
  rw [if_neg h32, if_neg h32]
  by_cases h34 : j < 82
  · rw [if_pos h34, if_pos h34]
    show xeComp ad kk (frz V Z.nf) L (Z.more q) _ = xeComp ad kk V L Z _
    unfold xeComp xfComp
    rw [frz_lo (V := V) (n := Z.nf) (c := 49) (by decide), frz_lo (V := V) (n := Z.nf) (c := 50) (by decide), frz_lo (V := V) (n := Z.nf) (c := 51) (by decide), frz_lo (V := V) (n := Z.nf) (c := 52) (by decide), frz_lo (V := V) (n := Z.nf) (c := 53) (by decide), frz_lo (V := V) (n := Z.nf) (c := 54) (by decide), frz_lo (V := V) (n := Z.nf) (c := 55) (by decide), frz_lo (V := V) (n := Z.nf) (c := 56) (by decide), frz_lo (V := V) (n := Z.nf) (c := 57) (by decide)]
  rw [if_neg h34, if_neg h34]
  by_cases h82 : j < 130
  · rw [if_pos h82, if_pos h82]
    show xeneedTypes ad kk (frz V Z.nf) L (Z.more q) _ = xeneedTypes ad kk V L Z _
    unfold xeneedTypes
    rw [frz_lo (V := V) (n := Z.nf) (c := 58) (by decide)]
  rw [if_neg h82, if_neg h82]
  by_cases h130 : j < 178
  · rw [if_pos h130, if_pos h130]
    show xeneedWords ad kk (frz V Z.nf) L (Z.more q) _ = xeneedWords ad kk V L Z _
    unfold xeneedWords
    rw [frz_lo (V := V) (n := Z.nf) (c := 59) (by decide)]
  rw [if_neg h130, if_neg h130]
  by_cases h178 : j < 226
  · rw [if_pos h178, if_pos h178]
    show xeneedKinds ad kk (frz V Z.nf) L (Z.more q) _ = xeneedKinds ad kk V L Z _
    unfold xeneedKinds
    rw [frz_lo (V := V) (n := Z.nf) (c := 60) (by decide)]
  rw [if_neg h178, if_neg h178]
  by_cases h226 : j < 274
  · rw [if_pos h226, if_pos h226]
    show xemethodStarts ad kk (frz V Z.nf) L (Z.more q) _ = xemethodStarts ad kk V L Z _
    unfold xemethodStarts
    rw [frz_lo (V := V) (n := Z.nf) (c := 61) (by decide)]
  rw [if_neg h226, if_neg h226]
  by_cases h274 : j < 298
  · rw [if_pos h274, if_pos h274]
    show xeWrap ad kk (frz V Z.nf) L (Z.more q) _ = xeWrap ad kk V L Z _
    unfold xeWrap xfWrap
    rw [frz_lo (V := V) (n := Z.nf) (c := 62) (by decide), frz_lo (V := V) (n := Z.nf) (c := 63) (by decide), frz_lo (V := V) (n := Z.nf) (c := 64) (by decide), frz_lo (V := V) (n := Z.nf) (c := 65) (by decide), frz_lo (V := V) (n := Z.nf) (c := 66) (by decide)]
  rw [if_neg h274, if_neg h274]
  show xeFrame ad kk (frz V Z.nf) L (Z.more q) _ = xeFrame ad kk V L Z _
  unfold xeFrame xfFrame
  have e : ∀ c, frz V Z.nf c (j - 298) = V c (j - 298) := fun c => frz_k (by omega)
  have hne : ¬ (j - 298 = Z.nf) := by omega
  have ef : (Z.more q).fa (j - 298) = Z.fa (j - 298) := more_fa hne
  rw [ef, e 67, e 68, e 69, e 70, e 71, e 72, e 73, e 74, e 75, e 76, e 77, e 78, e 79, e 80, e 81, e 82, e 83, e 84, e 85]
theorem xs_frz {ad : Nat → Nat} {kk : Nat → ClassId} {V : Vf} {L : Lf} {Z : XZ} {q : Nat} : xs ad kk (frz V Z.nf) L (Z.more q) = (xs ad kk V L Z).set 35 (ad 35, .inl (kk 35, 400, .inr (.inr (.inr (.inr (va_up (fun j => if j < Z.nf then some (Z.fa j) else none) Z.nf (some q))))))) := by
  have ef : (fun j => if j < (Z.more q).nf then some ((Z.more q).fa j) else none) = va_up (fun j => if j < Z.nf then some (Z.fa j) else none) Z.nf (some q) := by
    funext j
    show (if j < Z.nf + 1 then some (if j = Z.nf then q else Z.fa j) else none) = if j = Z.nf then some q else if j < Z.nf then some (Z.fa j) else none
    by_cases h : j = Z.nf
    · rw [if_pos h, if_pos (by omega), if_pos h]
    · rw [if_neg h]
      by_cases h2 : j < Z.nf
      · rw [if_pos h2, if_pos (by omega), if_neg h]
      · have h3 : ¬ (j < Z.nf + 1) := by omega
        rw [if_neg h2, if_neg h3, if_neg h]
  unfold xs xfHouse xfReader xfChecker xfStock xfNotes xfMachine xfTape
  rw [frz_lo (V := V) (n := Z.nf) (c := 0) (by decide), frz_lo (V := V) (n := Z.nf) (c := 1) (by decide), frz_lo (V := V) (n := Z.nf) (c := 2) (by decide), frz_lo (V := V) (n := Z.nf) (c := 3) (by decide), frz_lo (V := V) (n := Z.nf) (c := 4) (by decide), frz_lo (V := V) (n := Z.nf) (c := 5) (by decide), frz_lo (V := V) (n := Z.nf) (c := 6) (by decide), frz_lo (V := V) (n := Z.nf) (c := 10) (by decide), frz_lo (V := V) (n := Z.nf) (c := 12) (by decide), frz_lo (V := V) (n := Z.nf) (c := 13) (by decide), frz_lo (V := V) (n := Z.nf) (c := 15) (by decide), frz_lo (V := V) (n := Z.nf) (c := 16) (by decide), frz_lo (V := V) (n := Z.nf) (c := 17) (by decide), frz_lo (V := V) (n := Z.nf) (c := 18) (by decide), frz_lo (V := V) (n := Z.nf) (c := 19) (by decide), frz_lo (V := V) (n := Z.nf) (c := 20) (by decide), frz_lo (V := V) (n := Z.nf) (c := 21) (by decide), frz_lo (V := V) (n := Z.nf) (c := 22) (by decide), frz_lo (V := V) (n := Z.nf) (c := 23) (by decide), frz_lo (V := V) (n := Z.nf) (c := 24) (by decide), frz_lo (V := V) (n := Z.nf) (c := 25) (by decide), frz_lo (V := V) (n := Z.nf) (c := 26) (by decide), frz_lo (V := V) (n := Z.nf) (c := 27) (by decide), frz_lo (V := V) (n := Z.nf) (c := 28) (by decide), frz_lo (V := V) (n := Z.nf) (c := 29) (by decide), frz_lo (V := V) (n := Z.nf) (c := 30) (by decide), frz_lo (V := V) (n := Z.nf) (c := 31) (by decide), frz_lo (V := V) (n := Z.nf) (c := 32) (by decide), frz_lo (V := V) (n := Z.nf) (c := 33) (by decide), frz_lo (V := V) (n := Z.nf) (c := 34) (by decide), frz_lo (V := V) (n := Z.nf) (c := 35) (by decide), frz_lo (V := V) (n := Z.nf) (c := 36) (by decide), frz_lo (V := V) (n := Z.nf) (c := 37) (by decide), frz_lo (V := V) (n := Z.nf) (c := 39) (by decide), frz_lo (V := V) (n := Z.nf) (c := 40) (by decide), ef]
  rfl
theorem xw_frz {ad : Nat → Nat} {kk : Nat → ClassId} {V : Vf} {L : Lf} {Z : XZ} {q : Nat} : (xw ad kk V L Z ++ ([(q, Sum.inr (4, xfFrame (frz V Z.nf) Z.nf))] : va_W)).set 35 (ad 35, .inl (kk 35, 400, .inr (.inr (.inr (.inr (va_up (fun j => if j < Z.nf then some (Z.fa j) else none) Z.nf (some q))))))) = xw ad kk (frz V Z.nf) L (Z.more q) := by
  unfold xw
  rw [show 298 + (Z.more q).nf = (298 + Z.nf) + 1 from rfl, List.range_succ, List.map_append, List.append_assoc, List.set_append_left _ _ (show 35 < (xs ad kk V L Z).length from by show 35 < 38; omega), xs_frz]
  have e1 : (List.range (298 + Z.nf)).map (xb ad kk (frz V Z.nf) L (Z.more q)) = (List.range (298 + Z.nf)).map (xb ad kk V L Z) := List.map_congr_left (fun j hj => xb_frz (List.mem_range.mp hj))
  have e2 : xb ad kk (frz V Z.nf) L (Z.more q) (298 + Z.nf) = (q, Sum.inr (4, xfFrame (frz V Z.nf) Z.nf)) := by
    rw [xjFrame (Z := Z.more q) (show Z.nf < (Z.more q).nf from Nat.lt_succ_self _)]
    unfold xeFrame
    rw [show (Z.more q).fa Z.nf = q from if_pos rfl]
  rw [e1, List.map_cons, List.map_nil, e2]
/-! how much may still be made -/
def zcc (Z : XZ) : Nat := (400 - Z.nf) + (262144 - Z.ln) / 256
def zss (Z : XZ) : Nat := 19 * (400 - Z.nf) + 4 * (262144 - Z.ln)
def ZL (Z Z' : XZ) : Prop := zcc Z' ≤ zcc Z ∧ zss Z' ≤ zss Z ∧ Z.nf ≤ Z'.nf ∧ Z.ln ≤ Z'.ln ∧ ∀ i, i < Z.nf → Z'.fa i = Z.fa i
theorem ZL.rf {Z : XZ} : ZL Z Z := ⟨Nat.le_refl _, Nat.le_refl _, Nat.le_refl _, Nat.le_refl _, fun _ _ => rfl⟩
theorem ZL.tr {Z Z' Y : XZ} (h : ZL Z Z') (k : ZL Z' Y) : ZL Z Y := ⟨Nat.le_trans k.1 h.1, Nat.le_trans k.2.1 h.2.1, Nat.le_trans h.2.2.1 k.2.2.1, Nat.le_trans h.2.2.2.1 k.2.2.2.1, fun i hi => (k.2.2.2.2 i (Nat.lt_of_lt_of_le hi h.2.2.1)).trans (h.2.2.2.2 i hi)⟩
theorem zc_more {Z : XZ} (h : Z.nf < 400) (q : Nat) : zcc (Z.more q) + 1 = zcc Z ∧ zss (Z.more q) + 19 = zss Z := by
  unfold zcc zss
  have e1 : (Z.more q).nf = Z.nf + 1 := rfl
  have e2 : (Z.more q).ln = Z.ln := rfl
  rw [e1, e2]
  constructor <;> omega
theorem ZL.more {Z : XZ} {q : Nat} (h : Z.nf < 400) : ZL Z (Z.more q) := ⟨by have := zc_more h q; omega, by have := zc_more h q; omega, Nat.le_succ _, Nat.le_refl _, fun i hi => more_fa (by omega)⟩
theorem z0 {a b : Nat} : a - b + 0 ≤ a := Nat.sub_le _ _
theorem z1 {a b : Nat} (h : b ≤ a) : a - b + b ≤ a := by omega
theorem frz_z {V : Vf} {n c : Nat} (h : 67 ≤ c ∧ c ≤ 85) : frz V n c n = 0 := if_pos ⟨h, rfl⟩
theorem xf_frz {V : Vf} {n : Nat} : xfFrame (frz V n) n = [.int 0, .int 0, .int 0, .int 0, .int 0, .int 0, .int 0, .int 0, .int 0, .int 0, .int 0, .int 0, .int 0, .int 0, .int 0, .int 0, .int 0, .int 0, .int 0] := by
  unfold xfFrame
  rw [frz_z (V := V) (n := n) (c := 67) (by decide), frz_z (V := V) (n := n) (c := 68) (by decide), frz_z (V := V) (n := n) (c := 69) (by decide), frz_z (V := V) (n := n) (c := 70) (by decide), frz_z (V := V) (n := n) (c := 71) (by decide), frz_z (V := V) (n := n) (c := 72) (by decide), frz_z (V := V) (n := n) (c := 73) (by decide), frz_z (V := V) (n := n) (c := 74) (by decide), frz_z (V := V) (n := n) (c := 75) (by decide), frz_z (V := V) (n := n) (c := 76) (by decide), frz_z (V := V) (n := n) (c := 77) (by decide), frz_z (V := V) (n := n) (c := 78) (by decide), frz_z (V := V) (n := n) (c := 79) (by decide), frz_z (V := V) (n := n) (c := 80) (by decide), frz_z (V := V) (n := n) (c := 81) (by decide), frz_z (V := V) (n := n) (c := 82) (by decide), frz_z (V := V) (n := n) (c := 83) (by decide), frz_z (V := V) (n := n) (c := 84) (by decide), frz_z (V := V) (n := n) (c := 85) (by decide)]
theorem rgd_frz {V : Vf} {n : Nat} (h : rgd bX V) : rgd bX (frz V n) := by
  intro c k
  by_cases q : (67 ≤ c ∧ c ≤ 85) ∧ k = n
  · have e : frz V n c k = 0 := if_pos q
    rw [e]
    have hc : c = 67 ∨ c = 68 ∨ c = 69 ∨ c = 70 ∨ c = 71 ∨ c = 72 ∨ c = 73 ∨ c = 74 ∨ c = 75 ∨ c = 76 ∨ c = 77 ∨ c = 78 ∨ c = 79 ∨ c = 80 ∨ c = 81 ∨ c = 82 ∨ c = 83 ∨ c = 84 ∨ c = 85 := by omega
    rcases hc with rfl | rfl | rfl | rfl | rfl | rfl | rfl | rfl | rfl | rfl | rfl | rfl | rfl | rfl | rfl | rfl | rfl | rfl | rfl
    · exact ⟨(show ((-2147483648) : Int) ≤ Int32.toInt 0 from by decide), (show Int32.toInt 0 ≤ (2147483647 : Int) from by decide)⟩
    · exact ⟨(show ((-2147483648) : Int) ≤ Int32.toInt 0 from by decide), (show Int32.toInt 0 ≤ (2147483647 : Int) from by decide)⟩
    · exact ⟨(show ((-2147483648) : Int) ≤ Int32.toInt 0 from by decide), (show Int32.toInt 0 ≤ (2147483647 : Int) from by decide)⟩
    · exact ⟨(show ((-2147483648) : Int) ≤ Int32.toInt 0 from by decide), (show Int32.toInt 0 ≤ (2147483647 : Int) from by decide)⟩
    · exact ⟨(show ((-1) : Int) ≤ Int32.toInt 0 from by decide), (show Int32.toInt 0 ≤ (23 : Int) from by decide)⟩
    · exact ⟨(show (0 : Int) ≤ Int32.toInt 0 from by decide), (show Int32.toInt 0 ≤ (39 : Int) from by decide)⟩
    · exact ⟨(show (0 : Int) ≤ Int32.toInt 0 from by decide), (show Int32.toInt 0 ≤ (19 : Int) from by decide)⟩
    · exact ⟨(show ((-2147483648) : Int) ≤ Int32.toInt 0 from by decide), (show Int32.toInt 0 ≤ (2147483647 : Int) from by decide)⟩
    · exact ⟨(show (0 : Int) ≤ Int32.toInt 0 from by decide), (show Int32.toInt 0 ≤ (12 : Int) from by decide)⟩
    · exact ⟨(show ((-2147483648) : Int) ≤ Int32.toInt 0 from by decide), (show Int32.toInt 0 ≤ (2147483647 : Int) from by decide)⟩
    · exact ⟨(show (0 : Int) ≤ Int32.toInt 0 from by decide), (show Int32.toInt 0 ≤ (19 : Int) from by decide)⟩
    · exact ⟨(show ((-2147483648) : Int) ≤ Int32.toInt 0 from by decide), (show Int32.toInt 0 ≤ (2147483647 : Int) from by decide)⟩
    · exact ⟨(show ((-2147483648) : Int) ≤ Int32.toInt 0 from by decide), (show Int32.toInt 0 ≤ (2147483647 : Int) from by decide)⟩
    · exact ⟨(show (0 : Int) ≤ Int32.toInt 0 from by decide), (show Int32.toInt 0 ≤ (300 : Int) from by decide)⟩
    · exact ⟨(show ((-2147483648) : Int) ≤ Int32.toInt 0 from by decide), (show Int32.toInt 0 ≤ (2147483647 : Int) from by decide)⟩
    · exact ⟨(show ((-2147483648) : Int) ≤ Int32.toInt 0 from by decide), (show Int32.toInt 0 ≤ (2147483647 : Int) from by decide)⟩
    · exact ⟨(show (0 : Int) ≤ Int32.toInt 0 from by decide), (show Int32.toInt 0 ≤ (1 : Int) from by decide)⟩
    · exact ⟨(show (0 : Int) ≤ Int32.toInt 0 from by decide), (show Int32.toInt 0 ≤ (2147483647 : Int) from by decide)⟩
    · exact ⟨(show (0 : Int) ≤ Int32.toInt 0 from by decide), (show Int32.toInt 0 ≤ (2048 : Int) from by decide)⟩
  · have e : frz V n c k = V c k := if_neg q
    rw [e]
    exact h c k
theorem frz_ag {V : Vf} {n : Nat} : agr [] [67, 68, 69, 70, 71, 72, 73, 74, 75, 76, 77, 78, 79, 80, 81, 82, 83, 84, 85] V (frz V n) := by
  intro c k h
  by_cases q : 67 ≤ c ∧ c ≤ 85
  · exfalso
    have hc : c = 67 ∨ c = 68 ∨ c = 69 ∨ c = 70 ∨ c = 71 ∨ c = 72 ∨ c = 73 ∨ c = 74 ∨ c = 75 ∨ c = 76 ∨ c = 77 ∨ c = 78 ∨ c = 79 ∨ c = 80 ∨ c = 81 ∨ c = 82 ∨ c = 83 ∨ c = 84 ∨ c = 85 := by omega
    rcases hc with rfl | rfl | rfl | rfl | rfl | rfl | rfl | rfl | rfl | rfl | rfl | rfl | rfl | rfl | rfl | rfl | rfl | rfl | rfl <;> exact Bool.noConfusion (show true = false from h)
  · unfold frz
    rw [if_neg (fun a => q a.1)]
theorem xw_len {ad : Nat → Nat} {kk : Nat → ClassId} {V : Vf} {L : Lf} {Z : XZ} : (xw ad kk V L Z).length = 336 + Z.nf := by
  unfold xw
  rw [List.length_append, List.length_map, List.length_range, show (xs ad kk V L Z).length = 38 from rfl]
  omega
theorem xw_new {ad : Nat → Nat} {kk : Nat → ClassId} {V : Vf} {L : Lf} {Z : XZ} {e : Nat × va_E} : (xw ad kk V L Z ++ [e])[336 + Z.nf]? = some e := by
  rw [List.getElem?_append_right (by rw [xw_len]; exact Nat.le_refl _), xw_len, Nat.sub_self]
  rfl
theorem xw_frz2 {ad : Nat → Nat} {kk : Nat → ClassId} {V : Vf} {L : Lf} {Z : XZ} {q i : Nat} (h : i = Z.nf) : (xw ad kk V L Z ++ ([(q, Sum.inr (4, [.int 0, .int 0, .int 0, .int 0, .int 0, .int 0, .int 0, .int 0, .int 0, .int 0, .int 0, .int 0, .int 0, .int 0, .int 0, .int 0, .int 0, .int 0, .int 0]))] : va_W)).set 35 (ad 35, .inl (kk 35, 400, .inr (.inr (.inr (.inr (va_up (fun j => if j < Z.nf then some (Z.fa j) else none) i (some q))))))) = xw ad kk (frz V Z.nf) L (Z.more q) := by
  rw [h, ← xf_frz (V := V) (n := Z.nf)]
  exact xw_frz

theorem w1188 : Cond.methodLink RX4 1 objectInit ∈ GW := gw_k tk9_5 73 (by decide +kernel) rfl
theorem dk9_dX4_init_0_0 : dOk cX4_init [(0, .aload_n 0, 1), (1, .invokespecial 1, 3), (4, .return_, 1)] = true := by decide +kernel
theorem dX4_init_0 : decode cX4_init 0 = .ok (.aload_n 0, 1) := dr9 dk9_dX4_init_0_0 0 (0, .aload_n 0, 1) rfl
theorem dX4_init_1 : decode cX4_init 1 = .ok (.invokespecial 1, 3) := dr9 dk9_dX4_init_0_0 1 (1, .invokespecial 1, 3) rfl
theorem dX4_init_4 : decode cX4_init 4 = .ok (.return_, 1) := dr9 dk9_dX4_init_0_0 2 (4, .return_, 1) rfl
abbrev r_c_Frame_init : Room := { frames := 1, cells := 0, slots := 0, locals := 20 }
abbrev q_c_Frame_init (D : va_G) (h0 : Nat) (A : Nat → Prop) : Array Value → State → Outcome → State → Prop := va_Qv (fun (_ : Unit) => True) (fun u t => gq D A ((fun (_ : Unit) => []) u) ((fun (_ : Unit) => ([] : List (ClassId × FieldType))) u) t) A
set_option maxHeartbeats 4000000 in
set_option maxRecDepth 100000 in
theorem c_Frame_init (l : Launch) (D : va_G) (ks : KS) (sz : Nat) (h0 : Nat) : Met l yX4_init (Cond.code yX4_init cX4_init 1 none :: GW) r_c_Frame_init (va_Pc [.ref h0] (gp D ks [] [] sz)) (q_c_Frame_init D h0 (va_A [] sz)) 0 0 (va_A [] sz) := by
  refine g_met (q_c_Frame_init D h0) (by decide) (Nat.le_of_ble_eq_true rfl) ?_
  intro p e s m below meth c A ls H locs hx hb hr hml hown hg hlocks hin hnw hgk hP hK hD hS hA hl
  have hown : s.vm.findClass RX4 = some m.cls := hown
  have hin : meth.name = "<init>" := hin
  have hl : lv_has ls 1 [(0, .ref h0)] := hl
  refine lv_aload_n hx hb dX4_init_0 rfl (lv_at hl 0 rfl) ?_
  refine W.objInit hx hb hown (hg _ w1188) (hg _ w188) (hg _ wobj) rfl (by rw [hml]; exact hl.1) rfl dX4_init_1 (Nat.le_of_ble_eq_true rfl) (Nat.le_of_ble_eq_true rfl) ?_
  refine W.eq (g2 := F0 m 4 ls []) rfl ?_
  refine W.widen (k := 0) (n := 0) (Nat.le_of_ble_eq_true rfl) (Nat.le_of_ble_eq_true rfl) ?_
  have hP9 := hP.sub (ws' := []) [] rfl
  have hD9 := hD.sub (ws' := []) [] (by decide) rfl
  have hK9 := hK.sub (tys' := []) [] rfl
  exact W.vret hx hb hr (fun t ht hW => ⟨⟨(), rfl, (by first | rfl | trivial | assumption | decide), by rw [ht]; exact hP9, va_K.moved hW.alike hK9, hD9⟩, hS.F ht⟩) hS.2.2 dX4_init_4
end
section
/-! the Machine: what a run keeps -/
def BE (V W : Vf) : Prop := ∀ c k : Nat, 41 ≤ c → c ≤ 66 → W c k = V c k
theorem BE.p0 {V W : Vf} {b : Nat} (h : BE V W) : p0x V W b := ⟨by rw [h 42 b (by decide) (by decide)]; exact Int.le_refl _, fun k _ => h 48 _ (by decide) (by decide)⟩
theorem BE.bd {V W : Vf} {b : Nat} (h : BE V W) (p : Nat) : bdp W b p = bdp V b p := bd_ext p (fun k _ => h 48 _ (by decide) (by decide))
theorem TX.be {V W : Vf} {b : Nat} (h : TX V b) (e : BE V W) : TX W b := by
  refine ⟨fun c hc => ?_, fun w hw => ?_, fun x hx => ?_⟩
  · rw [e 43 _ (by decide) (by decide)] at hc
    have z := h.1 c hc
    rw [e 56 _ (by decide) (by decide), e 57 _ (by decide) (by decide)]
    refine ⟨z.1.up e.p0, z.2.1.up e.p0, fun m hm => ?_⟩
    rw [e 61 _ (by decide) (by decide)]
    exact (z.2.2 m hm).up e.p0
  · rw [e 41 _ (by decide) (by decide)] at hw
    rw [e 66 _ (by decide) (by decide)]
    exact (h.2.1 w hw).up e.p0
  · rw [e 41 _ (by decide) (by decide)] at hx ⊢
    rw [e 47 _ (by decide) (by decide)]
    exact h.2.2 x hx
theorem CD.be {V W : Vf} {b : Nat} (h : CD V b) (e : BE V W) : CD W b := by
  have e42 := e 42 b (by decide) (by decide)
  have e48 : ∀ k, W 48 k = V 48 k := fun k => e 48 k (by decide) (by decide)
  have eo : ∀ x y, okO V b x y → okO W b x y := fun x y z => by
    unfold okO at z ⊢
    rw [e42]
    first | exact z | (simp only [e.bd]; exact z)
  refine ⟨⟨?_, ?_⟩, ?_⟩
  · rw [e42, e.bd]
    exact h.1.1
  · intro p hp hb
    rw [e42] at hp
    rw [e.bd] at hb
    rw [e48, e48]
    exact eo _ _ (h.1.2 p hp hb)
  · intro p hp hb
    rw [e42] at hp
    rw [e.bd] at hb
    rw [e48]
    exact h.2 p hp hb
def sm (g : Nat → Nat) : Nat → Nat
  | 0 => 0
  | n + 1 => sm g n + g n
theorem sm_ext {g f : Nat → Nat} : ∀ n, (∀ k, k < n → f k = g k) → sm f n = sm g n
  | 0, _ => rfl
  | n + 1, h => by
    show sm f n + f n = sm g n + g n
    rw [sm_ext n (fun k hk => h k (by omega)), h n (by omega)]
/-- a late need that waits; the answer is an object whose component is not made anew -/
def W7 (V : Vf) (i : Nat) : Prop := (V 67 i).toInt = 4 ∧ (V 68 i).toInt = 7
def NN (V : Vf) (b : Nat) : Prop := ∃ o : Nat, (V 5 10).toInt = (o : Int) ∧ (o : Int) < (V 3 13).toInt ∧ (V 51 (24 * b + Int32.toNatClampNeg (V 26 o))).toInt ≠ 3
def QN (V : Vf) (b : Nat) : Prop := (V 5 9).toInt = 1 ∧ ¬ NN V b
def PT (V : Vf) : Prop := ∀ k : Nat, k < 960 → (V 25 k).toInt < (V 3 13).toInt ∧ ∀ o : Nat, (V 25 k).toInt = (o : Int) → (V 26 o).toInt = ((k % 24 : Nat) : Int)
theorem QN.eq {V W : Vf} {b : Nat} (e9 : W 5 9 = V 5 9) (e10 : W 5 10 = V 5 10) (e13 : W 3 13 = V 3 13) (e26 : ∀ k, W 26 k = V 26 k) (eB : BE V W) (h : QN W b) : QN V b := by
  refine ⟨by rw [← e9]; exact h.1, fun n => h.2 ?_⟩
  obtain ⟨o, a1, a2, a3⟩ := n
  exact ⟨o, by rw [e10]; exact a1, by rw [e13]; exact a2, by rw [e26, eB 51 _ (by decide) (by decide)]; exact a3⟩
/-- a frame's row; x: how many links it may still make -/
def FK (V : Vf) (b : Nat) (x : Nat) (i : Nat) (w v : Prop) : Prop :=
  ((V 67 i).toInt ≠ 0 → 0 ≤ (V 71 i).toInt ∧ (V 71 i).toInt < (V 43 (5 * b + 2)).toInt) ∧
  ((V 67 i).toInt ≠ 0 → ¬ ((V 67 i).toInt = 2 ∧ (V 68 i).toInt = 0) → 0 ≤ (V 70 i).toInt ∧ (V 70 i).toInt < (V 3 13).toInt) ∧
  ((V 67 i).toInt = 4 → (V 42 b).toInt ≤ (V 84 i).toInt ∨ (bdp V b (V 84 i).toInt.toNat).1 = true) ∧
  ((V 67 i).toInt = 4 → ((V 68 i).toInt = 6 ∨ (V 68 i).toInt = 7) → (V 75 i).toInt ≤ 7) ∧
  ((V 67 i).toInt = 1 → 0 ≤ (V 76 i).toInt ∧ (V 76 i).toInt ≤ 25 ∧ (V 75 i).toInt ≤ 8) ∧
  ((V 67 i).toInt = 1 → 1 ≤ (x : Int) ∧ ((V 68 i).toInt ≠ 1 → 25 * (8 - (V 75 i).toInt) - (V 76 i).toInt + 1 ≤ (x : Int) ∧ (w → (V 75 i).toInt ≤ 7 ∧ 25 * (8 - (V 75 i).toInt) - (V 76 i).toInt + 2 ≤ (x : Int)))) ∧
  ((V 67 i).toInt = 0 → (V 80 i).toInt ≤ (V 5 8).toInt) ∧
  ((V 67 i).toInt = 2 → (V 68 i).toInt = 0 ∨ (V 68 i).toInt = 1 ∨ (V 75 i).toInt ≤ (V 41 b).toInt) ∧
  ((V 67 i).toInt = 3 → (V 68 i).toInt = 0 ∨ (V 68 i).toInt = 1 ∨ (V 68 i).toInt = 4 ∨ (V 75 i).toInt ≤ (V 41 b).toInt) ∧
  ((V 67 i).toInt = 4 → (V 68 i).toInt = 7 → v → 1 ≤ x)
/-- of which rows a late need that waits has a credit -/
def vI (V : Vf) (n : Nat) (v u : Prop) (i : Nat) : Prop := (i + 1 < n ∧ (i + 2 = n → (V 67 (n - 1)).toInt ≠ 0 ∨ u)) ∨ (i + 1 = n ∧ v)
def LN (n : Nat) : Prop := n = 512 ∨ n = 1024 ∨ n = 2048 ∨ n = 4096 ∨ n = 8192 ∨ n = 16384 ∨ n = 32768 ∨ n = 65536 ∨ n = 131072 ∨ n = 262144
def MI (V : Vf) (Z : XZ) (b : Nat) (g : Nat → Nat) (n r : Nat) (w v u : Prop) : Prop :=
  (SL V Z) ∧
  (Z.nf ≤ 400) ∧
  (n ≤ Z.nf) ∧
  (0 < (V 43 (5 * b + 2)).toInt) ∧
  (∀ o : Nat, (o : Int) < (V 3 13).toInt → (V 26 o).toInt < (V 43 (5 * b + 2)).toInt) ∧
  (∀ i : Nat, (i : Int) < (V 5 8).toInt → (V 40 i).toInt < (V 3 13).toInt) ∧
  (∀ i j : Nat, i < j → j < n → (V 67 i).toInt = 0 → (V 67 j).toInt = 0 → (V 80 i).toInt ≤ (V 80 j).toInt) ∧
  (∀ i, i < n → FK V b (g i) i (i + 1 < n ∨ w) (vI V n v u i)) ∧
  ((0 ≤ (V 3 13).toInt ∧ (V 3 13).toInt ≤ 300) ∧ 0 ≤ (V 3 15).toInt ∧ 0 ≤ (V 5 8).toInt) ∧
  ((V 3 15).toInt + (V 5 8).toInt + (sm g n + r : Nat) + 203 * (300 - (V 3 13).toInt) ≤ (V 44 0).toInt ∧ (V 44 0).toInt ≤ 250000) ∧
  (TX V b) ∧
  (CD V b) ∧
  ((V 5 5).toInt = (b : Int)) ∧
  (LN Z.ln) ∧
  (PT V)
theorem MI.sl {V : Vf} {Z : XZ} {b : Nat} {g : Nat → Nat} {n r : Nat} {w v u : Prop} (h : MI V Z b g n r w v u) : SL V Z := h.1
theorem MI.nf {V : Vf} {Z : XZ} {b : Nat} {g : Nat → Nat} {n r : Nat} {w v u : Prop} (h : MI V Z b g n r w v u) : Z.nf ≤ 400 := h.2.1
theorem MI.dn {V : Vf} {Z : XZ} {b : Nat} {g : Nat → Nat} {n r : Nat} {w v u : Prop} (h : MI V Z b g n r w v u) : n ≤ Z.nf := h.2.2.1
theorem MI.sz {V : Vf} {Z : XZ} {b : Nat} {g : Nat → Nat} {n r : Nat} {w v u : Prop} (h : MI V Z b g n r w v u) : 0 < (V 43 (5 * b + 2)).toInt := h.2.2.2.1
theorem MI.oc {V : Vf} {Z : XZ} {b : Nat} {g : Nat → Nat} {n r : Nat} {w v u : Prop} (h : MI V Z b g n r w v u) : ∀ o : Nat, (o : Int) < (V 3 13).toInt → (V 26 o).toInt < (V 43 (5 * b + 2)).toInt := h.2.2.2.2.1
theorem MI.md {V : Vf} {Z : XZ} {b : Nat} {g : Nat → Nat} {n r : Nat} {w v u : Prop} (h : MI V Z b g n r w v u) : ∀ i : Nat, (i : Int) < (V 5 8).toInt → (V 40 i).toInt < (V 3 13).toInt := h.2.2.2.2.2.1
theorem MI.mk2 {V : Vf} {Z : XZ} {b : Nat} {g : Nat → Nat} {n r : Nat} {w v u : Prop} (h : MI V Z b g n r w v u) : ∀ i j : Nat, i < j → j < n → (V 67 i).toInt = 0 → (V 67 j).toInt = 0 → (V 80 i).toInt ≤ (V 80 j).toInt := h.2.2.2.2.2.2.1
theorem MI.fk {V : Vf} {Z : XZ} {b : Nat} {g : Nat → Nat} {n r : Nat} {w v u : Prop} (h : MI V Z b g n r w v u) : ∀ i, i < n → FK V b (g i) i (i + 1 < n ∨ w) (vI V n v u i) := h.2.2.2.2.2.2.2.1
theorem MI.o0 {V : Vf} {Z : XZ} {b : Nat} {g : Nat → Nat} {n r : Nat} {w v u : Prop} (h : MI V Z b g n r w v u) : (0 ≤ (V 3 13).toInt ∧ (V 3 13).toInt ≤ 300) ∧ 0 ≤ (V 3 15).toInt ∧ 0 ≤ (V 5 8).toInt := h.2.2.2.2.2.2.2.2.1
theorem MI.pot {V : Vf} {Z : XZ} {b : Nat} {g : Nat → Nat} {n r : Nat} {w v u : Prop} (h : MI V Z b g n r w v u) : (V 3 15).toInt + (V 5 8).toInt + (sm g n + r : Nat) + 203 * (300 - (V 3 13).toInt) ≤ (V 44 0).toInt ∧ (V 44 0).toInt ≤ 250000 := h.2.2.2.2.2.2.2.2.2.1
theorem MI.tx {V : Vf} {Z : XZ} {b : Nat} {g : Nat → Nat} {n r : Nat} {w v u : Prop} (h : MI V Z b g n r w v u) : TX V b := h.2.2.2.2.2.2.2.2.2.2.1
theorem MI.cd {V : Vf} {Z : XZ} {b : Nat} {g : Nat → Nat} {n r : Nat} {w v u : Prop} (h : MI V Z b g n r w v u) : CD V b := h.2.2.2.2.2.2.2.2.2.2.2.1
theorem MI.mb {V : Vf} {Z : XZ} {b : Nat} {g : Nat → Nat} {n r : Nat} {w v u : Prop} (h : MI V Z b g n r w v u) : (V 5 5).toInt = (b : Int) := h.2.2.2.2.2.2.2.2.2.2.2.2.1
theorem MI.ln {V : Vf} {Z : XZ} {b : Nat} {g : Nat → Nat} {n r : Nat} {w v u : Prop} (h : MI V Z b g n r w v u) : LN Z.ln := h.2.2.2.2.2.2.2.2.2.2.2.2.2.1
theorem MI.pt {V : Vf} {Z : XZ} {b : Nat} {g : Nat → Nat} {n r : Nat} {w v u : Prop} (h : MI V Z b g n r w v u) : PT V := h.2.2.2.2.2.2.2.2.2.2.2.2.2.2
/-- what does not matter to it has changed -/
def ME (V W : Vf) (n : Nat) : Prop := BE V W ∧ (∀ c k : Nat, 67 ≤ c → c ≤ 85 → k < n → W c k = V c k) ∧ (W 3 13 = V 3 13 ∧ W 3 15 = V 3 15 ∧ W 5 5 = V 5 5 ∧ W 5 8 = V 5 8) ∧ (∀ k, W 26 k = V 26 k) ∧ (∀ k, W 30 k = V 30 k) ∧ (∀ k, W 32 k = V 32 k) ∧ (∀ k, W 40 k = V 40 k) ∧ (∀ k, W 25 k = V 25 k ∨ (W 25 k).toInt = -1)
theorem ME.rf {V : Vf} {n : Nat} : ME V V n := ⟨fun _ _ _ _ => rfl, fun _ _ _ _ _ => rfl, ⟨rfl, rfl, rfl, rfl⟩, fun _ => rfl, fun _ => rfl, fun _ => rfl, fun _ => rfl, fun _ => Or.inl rfl⟩
theorem ME.tr {V W X : Vf} {n : Nat} (h : ME V W n) (k : ME W X n) : ME V X n :=
  ⟨fun c i a q => (k.1 c i a q).trans (h.1 c i a q), fun c i a q z => (k.2.1 c i a q z).trans (h.2.1 c i a q z), ⟨k.2.2.1.1.trans h.2.2.1.1, k.2.2.1.2.1.trans h.2.2.1.2.1, k.2.2.1.2.2.1.trans h.2.2.1.2.2.1, k.2.2.1.2.2.2.trans h.2.2.1.2.2.2⟩, fun i => (k.2.2.2.1 i).trans (h.2.2.2.1 i), fun i => (k.2.2.2.2.1 i).trans (h.2.2.2.2.1 i), fun i => (k.2.2.2.2.2.1 i).trans (h.2.2.2.2.2.1 i), fun i => (k.2.2.2.2.2.2.1 i).trans (h.2.2.2.2.2.2.1 i), fun i => by
    rcases k.2.2.2.2.2.2.2 i with a | a
    · rcases h.2.2.2.2.2.2.2 i with c | c
      · exact Or.inl (a.trans c)
      · exact Or.inr (by rw [a]; exact c)
    · exact Or.inr a⟩
theorem ME.up {V V1 W : Vf} {c k n : Nat} {x : Int32} (h : ME V V1 n) (e : W = up2 V1 c k x) (q : (67 ≤ c ∧ c ≤ 85 ∧ n ≤ k) ∨ (c ≤ 40 ∧ (c = 25 → x.toInt = -1) ∧ c ≠ 26 ∧ c ≠ 30 ∧ c ≠ 32 ∧ c ≠ 40 ∧ ¬ (c = 3 ∧ k = 13) ∧ ¬ (c = 3 ∧ k = 15) ∧ ¬ (c = 5 ∧ k = 5) ∧ ¬ (c = 5 ∧ k = 8))) : ME V W n := by
  have o : ∀ c' k', ¬ (c' = c ∧ k' = k) → W c' k' = V1 c' k' := fun c' k' hn => by rw [e]; exact up2_pl hn
  refine h.tr ⟨fun c' k' a1 a2 => o c' k' (by omega), fun c' k' a1 a2 a3 => o c' k' (by omega), ⟨o _ _ (by omega), o _ _ (by omega), o _ _ (by omega), o _ _ (by omega)⟩, fun k' => o _ _ (by omega), fun k' => o _ _ (by omega), fun k' => o _ _ (by omega), fun k' => o _ _ (by omega), fun k' => ?_⟩
  by_cases z : 25 = c ∧ k' = k
  · right
    rw [e, z.1, z.2, up2_ss]
    omega
  · exact Or.inl (o _ _ z)
def mrl (fs : List (Nat × Nat)) (cs : List Nat) : Bool := fs.all (fun y => decide (y.1 ≤ 6) && !([(3, 13), (3, 15), (5, 5), (5, 8)].contains y)) && cs.all (fun c => decide (7 ≤ c) && decide (c ≤ 40) && !([25, 26, 30, 32, 40].contains c))
theorem mrl_no {fs : List (Nat × Nat)} {cs : List Nat} (q : mrl fs cs = true) {c k : Nat} (h : (41 ≤ c) ∨ (c = 25 ∨ c = 26 ∨ c = 30 ∨ c = 32 ∨ c = 40) ∨ (c, k) = (3, 13) ∨ (c, k) = (3, 15) ∨ (c, k) = (5, 5) ∨ (c, k) = (5, 8)) : wrL fs cs c k = false := by
  unfold mrl at q
  rw [Bool.and_eq_true, List.all_eq_true, List.all_eq_true] at q
  unfold wrL
  rw [Bool.or_eq_false_iff]
  refine ⟨?_, ?_⟩
  · rw [← Bool.not_eq_true]
    intro z
    have y := q.1 _ (List.contains_iff_mem.mp z)
    rw [Bool.and_eq_true] at y
    have y1 : c ≤ 6 := of_decide_eq_true y.1
    have y2 := y.2
    rcases h with h | h | h | h | h | h
    · omega
    · omega
    all_goals (rw [h] at y2; exact absurd y2 (by decide))
  · rw [← Bool.not_eq_true]
    intro z
    have y := q.2 _ (List.contains_iff_mem.mp z)
    rw [Bool.and_eq_true, Bool.and_eq_true] at y
    have y1 : c ≤ 40 := of_decide_eq_true y.1.2
    have y0 : 7 ≤ c := of_decide_eq_true y.1.1
    have y2 := y.2
    rcases h with h | h | h | h | h | h
    · omega
    · rcases h with h | h | h | h | h <;> (rw [h] at y2; exact absurd y2 (by decide))
    all_goals (have := congrArg Prod.fst h; simp only at this; omega)
theorem ME.ag {fs : List (Nat × Nat)} {cs : List Nat} {V W : Vf} {n : Nat} (a : agr fs cs V W) (q : mrl fs cs = true) : ME V W n :=
  ⟨fun c k h1 _ => a c k (mrl_no q (Or.inl h1)), fun c k h1 _ _ => a c k (mrl_no q (Or.inl (by omega))), ⟨a _ _ (mrl_no q (by simp)), a _ _ (mrl_no q (by simp)), a _ _ (mrl_no q (by simp)), a _ _ (mrl_no q (by simp))⟩, fun k => a _ _ (mrl_no q (by simp)), fun k => a _ _ (mrl_no q (by simp)), fun k => a _ _ (mrl_no q (by simp)), fun k => a _ _ (mrl_no q (by simp)), fun k => Or.inl (a _ _ (mrl_no q (by simp)))⟩
theorem ME.lo {V W : Vf} {n m : Nat} (h : ME V W n) (q : m ≤ n) : ME V W m := ⟨h.1, fun c k a1 a2 a3 => h.2.1 c k a1 a2 (by omega), h.2.2⟩
theorem FK.cg {V W : Vf} {b x i : Nat} {w v : Prop} (h : FK V b x i w v) (hB : BE V W) (e : ∀ c, 67 ≤ c → c ≤ 85 → W c i = V c i) (e13 : W 3 13 = V 3 13) (e8 : W 5 8 = V 5 8) : FK W b x i w v := by
  unfold FK
  rw [e 67 (by decide) (by decide), e 68 (by decide) (by decide), e 70 (by decide) (by decide), e 71 (by decide) (by decide), e 75 (by decide) (by decide), e 76 (by decide) (by decide), e 80 (by decide) (by decide), e 84 (by decide) (by decide), hB 43 _ (by decide) (by decide), hB 42 _ (by decide) (by decide), hB 41 _ (by decide) (by decide), e13, e8, hB.bd]
  exact h
theorem FK.me {V W : Vf} {b x i n : Nat} {w v : Prop} (h : FK V b x i w v) (m : ME V W n) (hi : i < n) : FK W b x i w v := h.cg m.1 (fun c a1 a2 => m.2.1 c i a1 a2 hi) m.2.2.1.1 m.2.2.1.2.2.2
theorem FK.w {V : Vf} {b x y i : Nat} {w v w' v' : Prop} (h : FK V b x i w v) (q1 : w' → w) (q2 : v' → v) (q : x ≤ y) : FK V b y i w' v' :=
  ⟨h.1, h.2.1, h.2.2.1, h.2.2.2.1, h.2.2.2.2.1, fun a1 => ⟨by have := (h.2.2.2.2.2.1 a1).1; omega, fun a2 => ⟨by have := ((h.2.2.2.2.2.1 a1).2 a2).1; omega, fun z => ⟨(((h.2.2.2.2.2.1 a1).2 a2).2 (q1 z)).1, by have := (((h.2.2.2.2.2.1 a1).2 a2).2 (q1 z)).2; omega⟩⟩⟩, h.2.2.2.2.2.2.1, h.2.2.2.2.2.2.2.1, h.2.2.2.2.2.2.2.2.1, fun a1 a2 z => Nat.le_trans (h.2.2.2.2.2.2.2.2.2 a1 a2 (q2 z)) q⟩
theorem MI.me {V W : Vf} {Z : XZ} {b n r : Nat} {g : Nat → Nat} {w v u : Prop} (h : MI V Z b g n r w v u) (m : ME V W n) : MI W Z b g n r w v u := by
  obtain ⟨mB, mR, ⟨m13, m15, m5, m8⟩, m26, m30, m32, m40, m25⟩ := id m
  have e43 := mB 43 (5 * b + 2) (by decide) (by decide)
  refine ⟨?_, h.nf, h.dn, by rw [e43]; exact h.sz, ?_, ?_, ?_, fun i hi => ?_, by rw [m13, m15, m8]; exact h.o0, ?_, h.tx.be mB, h.cd.be mB, by rw [m5]; exact h.mb, h.ln, ?_⟩
  · unfold SL
    rw [m15, m13]
    exact ⟨h.sl.1, h.sl.2.1, fun o k a1 a2 => by rw [m30]; exact h.sl.2.2.1 o k a1 a2, fun i a1 => by rw [m32]; exact h.sl.2.2.2 i a1⟩
  · intro o ho
    rw [m13] at ho
    rw [m26, e43]
    exact h.oc o ho
  · intro i hi
    rw [m8] at hi
    rw [m40, m13]
    exact h.md i hi
  · intro i j hij hj
    rw [mR 67 i (by decide) (by decide) (by omega), mR 67 j (by decide) (by decide) hj, mR 80 i (by decide) (by decide) (by omega), mR 80 j (by decide) (by decide) hj]
    exact h.mk2 i j hij hj
  · have e : vI W n v u i = vI V n v u i := by unfold vI; rw [mR 67 (n - 1) (by decide) (by decide) (by omega)]
    rw [e]
    exact (h.fk i hi).me m hi
  · rw [m15, m13, m8, mB 44 0 (by decide) (by decide)]
    exact h.pot
  · intro k hk
    rw [m13]
    rcases m25 k with a | a
    · rw [a]
      refine ⟨(h.pt k hk).1, fun o h1 => ?_⟩
      rw [m26]
      exact (h.pt k hk).2 o h1
    · refine ⟨by have := h.o0; omega, fun o h1 => ?_⟩
      omega
theorem MI.z {V : Vf} {Z Z' : XZ} {b n r : Nat} {g : Nat → Nat} {w v u : Prop} (h : MI V Z b g n r w v u) (e : Z'.ln = Z.ln) (h1 : n ≤ Z'.nf) (h2 : Z'.nf ≤ 400) : MI V Z' b g n r w v u :=
  ⟨by unfold SL; rw [e]; exact h.sl, h2, h1, h.sz, h.oc, h.md, h.mk2, h.fk, h.o0, h.pot, h.tx, h.cd, h.mb, by rw [e]; exact h.ln, h.pt⟩
theorem MI.w {V : Vf} {Z : XZ} {b n r r' : Nat} {g : Nat → Nat} {w v u w' v' u' : Prop} (h : MI V Z b g n r w v u) (q1 : w' → w) (q2 : v' → v) (q3 : u' → u) (q : r' ≤ r) : MI V Z b g n r' w' v' u' :=
  ⟨h.sl, h.nf, h.dn, h.sz, h.oc, h.md, h.mk2, fun i hi => (h.fk i hi).w (fun z => z.elim Or.inl (fun a => Or.inr (q1 a))) (fun z => z.elim (fun a => Or.inl ⟨a.1, fun e => (a.2 e).elim Or.inl (fun c => Or.inr (q3 c))⟩) (fun a => Or.inr ⟨a.1, q2 a.2⟩)) (Nat.le_refl _), h.o0, by have := h.pot; omega, h.tx, h.cd, h.mb, h.ln, h.pt⟩
theorem MI.pop {V : Vf} {Z : XZ} {b n r : Nat} {g : Nat → Nat} {w v u : Prop} (h : MI V Z b g (n + 1) r w v u) : MI V Z b g n (r + g n) True ((V 67 n).toInt ≠ 0 ∨ u) True :=
  ⟨h.sl, h.nf, by have := h.dn; omega, h.sz, h.oc, h.md, fun i j a1 a2 => h.mk2 i j a1 (by omega), fun i hi => (h.fk i (by omega)).w (fun _ => Or.inl (by omega)) (fun z => Or.inl ⟨by omega, fun e => by
    rcases z with z | z
    · omega
    · exact z.2⟩) (Nat.le_refl _), h.o0, by
    have p := h.pot
    have e : sm g (n + 1) = sm g n + g n := rfl
    omega, h.tx, h.cd, h.mb, h.ln, h.pt⟩
theorem MI.row {V : Vf} {Z : XZ} {b n r x : Nat} {g : Nat → Nat} {w v u : Prop} (h : MI V Z b g n r True ((V 67 n).toInt ≠ 0 ∨ u) True) (hx : x ≤ r) (hn : n + 1 ≤ Z.nf) (f : FK V b x n w v) (hm : (V 67 n).toInt = 0 → ∀ i, i < n → (V 67 i).toInt = 0 → (V 80 i).toInt ≤ (V 80 n).toInt) : MI V Z b (fun i => if i = n then x else g i) (n + 1) (r - x) w v u := by
  refine ⟨h.sl, h.nf, hn, h.sz, h.oc, h.md, ?_, ?_, h.o0, ?_, h.tx, h.cd, h.mb, h.ln, h.pt⟩
  · intro i j a1 a2 k1 k2
    by_cases e : j = n
    · subst e
      exact hm k2 i a1 k1
    · exact h.mk2 i j a1 (by omega) k1 k2
  · intro i hi
    show FK V b (if i = n then x else g i) i (i + 1 < n + 1 ∨ w) (vI V (n + 1) v u i)
    by_cases e : i = n
    · rw [if_pos e, e]
      refine f.w (fun z => z.elim (fun q => absurd q (by omega)) id) (fun z => ?_) (Nat.le_refl _)
      rcases z with z | z
      · exact absurd z.1 (by omega)
      · exact z.2
    · rw [if_neg e]
      refine (h.fk i (by omega)).w (fun _ => Or.inr trivial) (fun z => ?_) (Nat.le_refl _)
      rcases z with z | z
      · by_cases e2 : i + 1 = n
        · exact Or.inr ⟨e2, z.2 (by omega)⟩
        · exact Or.inl ⟨by omega, fun _ => Or.inr trivial⟩
      · omega
  · have p := h.pot
    have e : sm (fun i => if i = n then x else g i) (n + 1) = sm g n + x := by
      show sm (fun i => if i = n then x else g i) n + (if n = n then x else g n) = sm g n + x
      rw [if_pos rfl, sm_ext n (fun k hk => if_neg (by omega))]
    rw [e]
    omega
theorem sm_bump {g : Nat → Nat} (m : Nat) : ∀ n, sm (fun i => if i + 2 = m then g i + 1 else g i) n ≤ sm g n + (if m < n + 2 then 1 else 0)
  | 0 => Nat.zero_le _
  | n + 1 => by
    have ih := sm_bump (g := g) m n
    show sm (fun i => if i + 2 = m then g i + 1 else g i) n + (if n + 2 = m then g n + 1 else g n) ≤ sm g n + g n + _
    by_cases h : n + 2 = m
    · rw [if_pos h, if_pos (by omega)]
      rw [if_neg (by omega)] at ih
      omega
    · rw [if_neg h]
      by_cases h2 : m < n + 2
      · rw [if_pos h2] at ih
        rw [if_pos (by omega)]
        omega
      · rw [if_neg h2] at ih
        rw [if_neg (by omega)]
        omega
/-- the one below the top gets a credit -/
theorem MI.bump {V : Vf} {Z : XZ} {b n r : Nat} {g : Nat → Nat} {w v u : Prop} (h : MI V Z b g n r w v u) (hr : 1 ≤ r) : MI V Z b (fun i => if i + 2 = n then g i + 1 else g i) n (r - 1) w v True := by
  refine ⟨h.sl, h.nf, h.dn, h.sz, h.oc, h.md, h.mk2, ?_, h.o0, ?_, h.tx, h.cd, h.mb, h.ln, h.pt⟩
  · intro i hi
    show FK V b (if i + 2 = n then g i + 1 else g i) i (i + 1 < n ∨ w) (vI V n v True i)
    have f := h.fk i hi
    by_cases e : i + 2 = n
    · rw [if_pos e]
      have f2 := f.w (y := g i + 1) (w' := i + 1 < n ∨ w) (v' := False) id False.elim (Nat.le_succ _)
      exact ⟨f2.1, f2.2.1, f2.2.2.1, f2.2.2.2.1, f2.2.2.2.2.1, f2.2.2.2.2.2.1, f2.2.2.2.2.2.2.1, f2.2.2.2.2.2.2.2.1, f2.2.2.2.2.2.2.2.2.1, fun _ _ _ => Nat.succ_le_succ (Nat.zero_le _)⟩
    · rw [if_neg e]
      exact f.w id (fun z => z.elim (fun a => Or.inl ⟨a.1, fun q => absurd q e⟩) Or.inr) (Nat.le_refl _)
  · have p := h.pot
    have s := sm_bump (g := g) n n
    have : (if n < n + 2 then 1 else 0) = 1 := if_pos (by omega)
    omega
def MJ (V : Vf) (Z : XZ) (b : Nat) : Prop := ∃ g r, MI V Z b g (V 5 6).toInt.toNat r True (QN V b) (QN V b)
def MT (V : Vf) (Z : XZ) (b : Nat) : Prop := ∃ g r, MI V Z b g (V 5 6).toInt.toNat r True True True
def MTr (V : Vf) (Z : XZ) (b : Nat) : Prop := ∃ g r, MI V Z b g (V 5 6).toInt.toNat r True False True
def MTw (V : Vf) (Z : XZ) (b : Nat) : Prop := ∃ g r, MI V Z b g (V 5 6).toInt.toNat r True True False
/-- the top frame, and what lies under it -/
def MO (V : Vf) (Z : XZ) (b d : Nat) (w v u : Prop) : Prop := ∃ g r x, MI V Z b g d r True ((V 67 d).toInt ≠ 0 ∨ u) True ∧ x ≤ r ∧ FK V b x d w v ∧ ((V 67 d).toInt = 0 → ∀ i, i < d → (V 67 i).toInt = 0 → (V 80 i).toInt ≤ (V 80 d).toInt)
theorem MI.op {V : Vf} {Z : XZ} {b d r : Nat} {g : Nat → Nat} {w v u : Prop} (h : MI V Z b g (d + 1) r w v u) : MO V Z b d w v u :=
  ⟨g, r + g d, g d, h.pop, by omega, (h.fk d (by omega)).w Or.inr (fun z => Or.inr ⟨rfl, z⟩) (Nat.le_refl _), fun k i a1 a2 => h.mk2 i d a1 (by omega) a2 k⟩
theorem MJ.op {V : Vf} {Z : XZ} {b d : Nat} (h : MJ V Z b) (e : (V 5 6).toInt = (d : Int) + 1) : MO V Z b d True (QN V b) (QN V b) := by
  obtain ⟨g, r, h⟩ := h
  rw [show (V 5 6).toInt.toNat = d + 1 from by omega] at h
  exact h.op
theorem MO.w {V : Vf} {Z : XZ} {b d : Nat} {w v u w' v' u' : Prop} (h : MO V Z b d w v u) (q1 : w' → w) (q2 : v' → v) (q3 : u' → (V 67 d).toInt ≠ 0 ∨ u) : MO V Z b d w' v' u' := by
  obtain ⟨g, r, x, h1, h2, h3, h4⟩ := h
  exact ⟨g, r, x, h1.w id (fun z => z.elim Or.inl q3) id (Nat.le_refl _), h2, h3.w q1 q2 (Nat.le_refl _), h4⟩
/-- the top frame's row has changed -/
theorem MO.ch {V W : Vf} {Z : XZ} {b d : Nat} {w v u w' v' u' : Prop} (h : MO V Z b d w v u) (m : ME V W d) (e67 : W 67 d = V 67 d) (e80 : W 80 d = V 80 d) (q3 : u' → (V 67 d).toInt ≠ 0 ∨ u) (f : ∀ x, FK V b x d w v → FK W b x d w' v') : MO W Z b d w' v' u' := by
  obtain ⟨g, r, x, h1, h2, h3, h4⟩ := h
  refine ⟨g, r, x, ?_, h2, f x h3, fun k i a1 a2 => ?_⟩
  · rw [e67]
    exact (h1.me m).w id (fun z => z.elim Or.inl q3) id (Nat.le_refl _)
  · rw [e80, m.2.1 80 i (by decide) (by decide) a1]
    rw [e67] at k
    rw [m.2.1 67 i (by decide) (by decide) a1] at a2
    exact h4 k i a1 a2
theorem MO.cl {V : Vf} {Z : XZ} {b d : Nat} {w v u : Prop} (h : MO V Z b d w v u) (hn : d + 1 ≤ Z.nf) : ∃ g r, MI V Z b g (d + 1) r w v u := by
  obtain ⟨g, r, x, h1, h2, h3, h4⟩ := h
  exact ⟨_, _, h1.row h2 hn h3 h4⟩
theorem MO.cl2 {V : Vf} {Z : XZ} {b d : Nat} {w v u : Prop} (h : MO V Z b d w v u) (hn : d + 1 ≤ Z.nf) (e : (V 5 6).toInt = (d : Int) + 1) : ∃ g r, MI V Z b g (V 5 6).toInt.toNat r w v u := by
  rw [show (V 5 6).toInt.toNat = d + 1 from by omega]
  exact h.cl hn
theorem MO.mj {V : Vf} {Z : XZ} {b d : Nat} {w v u : Prop} (h : MO V Z b d w v u) (hn : d + 1 ≤ Z.nf) (e : (V 5 6).toInt = (d : Int) + 1) (q1 : True → w) (q2 : QN V b → v) (q3 : QN V b → (V 67 d).toInt ≠ 0 ∨ u) : MJ V Z b := (h.w q1 q2 q3).cl2 hn e
theorem MO.mt {V : Vf} {Z : XZ} {b d : Nat} (h : MO V Z b d True True True) (hn : d + 1 ≤ Z.nf) (e : (V 5 6).toInt = (d : Int) + 1) : MT V Z b := h.cl2 hn e
theorem MO.mtr {V : Vf} {Z : XZ} {b d : Nat} (h : MO V Z b d True False True) (hn : d + 1 ≤ Z.nf) (e : (V 5 6).toInt = (d : Int) + 1) : MTr V Z b := h.cl2 hn e
theorem MO.mtw {V : Vf} {Z : XZ} {b d : Nat} (h : MO V Z b d True True False) (hn : d + 1 ≤ Z.nf) (e : (V 5 6).toInt = (d : Int) + 1) : MTw V Z b := h.cl2 hn e
/-- what lies under the top -/
def MP (V : Vf) (Z : XZ) (b d : Nat) (v : Prop) : Prop := ∃ g r, MI V Z b g d r True v True
theorem MO.mp {V : Vf} {Z : XZ} {b d : Nat} {w v u : Prop} (h : MO V Z b d w v u) : MP V Z b d ((V 67 d).toInt ≠ 0 ∨ u) := by
  obtain ⟨g, r, x, h1, _⟩ := h
  exact ⟨g, r, h1⟩
/-- the top frame is left -/
theorem MP.lv {V W : Vf} {Z : XZ} {b d : Nat} {v : Prop} (h : MP V Z b d v) (m : ME V W d) (e : (W 5 6).toInt = (d : Int)) (q : QN W b → v) : MJ W Z b := by
  obtain ⟨g, r, h1⟩ := h
  exact ⟨g, r, by rw [show (W 5 6).toInt.toNat = d from by omega]; exact (h1.me m).w (fun _ => trivial) q (fun _ => trivial) (Nat.le_refl _)⟩
/-- a frame is put on it -/
theorem MI.pu {V W : Vf} {Z Z' : XZ} {b f r x : Nat} {g : Nat → Nat} {w v v0 : Prop} (h : MI V Z b g (V 5 6).toInt.toNat r True v0 True) (hxr : x ≤ r) (hf : (f : Int) ≤ (V 5 6).toInt ∧ (V 5 6).toInt ≤ (f : Int) + 1) (m : ME V W f) (ez : Z'.ln = Z.ln) (h1 : f + 1 ≤ Z'.nf) (h2 : Z'.nf ≤ 400) (hx : FK W b x f w v) (hm : (W 67 f).toInt = 0 → W 80 f = W 5 8) (e : (W 5 6).toInt = (f : Int) + 1) (q1 : w) (q2 : QN W b → v) (q3 : (W 67 f).toInt ≠ 0 ∨ QN W b → v0) : MJ W Z' b := by
  have h' : ∃ r, x ≤ r ∧ MI V Z b g f r True ((W 67 f).toInt ≠ 0 ∨ QN W b) True := by
    by_cases e : (V 5 6).toInt.toNat = f
    · rw [e] at h; exact ⟨r, hxr, h.w id q3 id (Nat.le_refl _)⟩
    · rw [show (V 5 6).toInt.toNat = f + 1 from by omega] at h; exact ⟨_, by omega, h.pop.w id (fun _ => Or.inr trivial) id (Nat.le_refl _)⟩
  obtain ⟨r, hxr, h'⟩ := h'
  have h3 := (h'.me m).z ez (by omega) h2
  refine MO.mj ⟨g, r, x, h3, hxr, hx, fun k i a1 a2 => ?_⟩ h1 e (fun _ => q1) q2 Or.inr
  rw [hm k]
  exact (h3.fk i a1).2.2.2.2.2.2.1 a2
theorem MT.pu {V W : Vf} {Z Z' : XZ} {b f : Nat} {v : Prop} (h : MT V Z b) (hf : (f : Int) ≤ (V 5 6).toInt ∧ (V 5 6).toInt ≤ (f : Int) + 1) (m : ME V W f) (ez : Z'.ln = Z.ln) (h1 : f + 1 ≤ Z'.nf) (h2 : Z'.nf ≤ 400) (hx : FK W b 0 f True v) (hm : (W 67 f).toInt = 0 → W 80 f = W 5 8) (e : (W 5 6).toInt = (f : Int) + 1) (q : ¬ (W 5 9).toInt = 1) : MJ W Z' b := by
  obtain ⟨g, r, h⟩ := h
  exact h.pu (Nat.zero_le _) hf m ez h1 h2 hx hm e trivial (fun z => absurd z.1 q) (fun _ => trivial)
/-- a ROOT is put on it -/
theorem MTr.pu {V W : Vf} {Z Z' : XZ} {b f : Nat} {v : Prop} (h : MTr V Z b) (hf : (f : Int) ≤ (V 5 6).toInt ∧ (V 5 6).toInt ≤ (f : Int) + 1) (m : ME V W f) (ez : Z'.ln = Z.ln) (h1 : f + 1 ≤ Z'.nf) (h2 : Z'.nf ≤ 400) (hx : FK W b 0 f True v) (hm : (W 67 f).toInt = 0 → W 80 f = W 5 8) (e : (W 5 6).toInt = (f : Int) + 1) (q : ¬ (W 5 9).toInt = 1) (h0 : (W 67 f).toInt = 0) : MJ W Z' b := by
  obtain ⟨g, r, h⟩ := h
  exact h.pu (Nat.zero_le _) hf m ez h1 h2 hx hm e trivial (fun z => absurd z.1 q) (fun z => z.elim (fun a => a h0) (fun a => q a.1))
theorem ME.zz {V : Vf} {n f : Nat} (h : f ≤ n) : ME V (frz V n) f := by
  have lo : ∀ c k, ¬ (67 ≤ c ∧ c ≤ 85) → frz V n c k = V c k := fun c k q => congrFun (frz_lo q) k
  exact ⟨fun c k a1 a2 => lo c k (by omega), fun c k a1 a2 a3 => frz_k (by omega), ⟨lo _ _ (by decide), lo _ _ (by decide), lo _ _ (by decide), lo _ _ (by decide)⟩, fun k => lo _ _ (by decide), fun k => lo _ _ (by decide), fun k => lo _ _ (by decide), fun k => lo _ _ (by decide), fun k => Or.inl (lo _ _ (by decide))⟩
theorem FK.k0 {V : Vf} {b x i : Nat} {w v : Prop} (hk : (V 67 i).toInt = 0) (hm : (V 80 i).toInt ≤ (V 5 8).toInt) : FK V b x i w v :=
  ⟨fun h => absurd hk h, fun h => absurd hk h, fun h => absurd h (by omega), fun h => absurd h (by omega), fun h => absurd h (by omega), fun h => absurd h (by omega), fun _ => hm, fun h => absurd h (by omega), fun h => absurd h (by omega), fun h _ _ => absurd h (by omega)⟩
theorem FK.k3 {V : Vf} {b x i : Nat} {w v : Prop} (hk : (V 67 i).toInt = 3) (h1 : 0 ≤ (V 71 i).toInt ∧ (V 71 i).toInt < (V 43 (5 * b + 2)).toInt) (h2 : 0 ≤ (V 70 i).toInt ∧ (V 70 i).toInt < (V 3 13).toInt) (h3 : (V 68 i).toInt = 0 ∨ (V 68 i).toInt = 1 ∨ (V 68 i).toInt = 4 ∨ (V 75 i).toInt ≤ (V 41 b).toInt) : FK V b x i w v :=
  ⟨fun _ => h1, fun _ _ => h2, fun h => absurd h (by omega), fun h => absurd h (by omega), fun h => absurd h (by omega), fun h => absurd h (by omega), fun h => absurd h (by omega), fun h => absurd h (by omega), fun _ => h3, fun h _ _ => absurd h (by omega)⟩
theorem FK.k5 {V : Vf} {b x i : Nat} {w v : Prop} (hk : (V 67 i).toInt ≠ 0 ∧ (V 67 i).toInt ≠ 1 ∧ (V 67 i).toInt ≠ 2 ∧ (V 67 i).toInt ≠ 3 ∧ (V 67 i).toInt ≠ 4) (h1 : 0 ≤ (V 71 i).toInt ∧ (V 71 i).toInt < (V 43 (5 * b + 2)).toInt) (h2 : 0 ≤ (V 70 i).toInt ∧ (V 70 i).toInt < (V 3 13).toInt) : FK V b x i w v :=
  ⟨fun _ => h1, fun _ _ => h2, fun h => absurd h (by omega), fun h => absurd h (by omega), fun h => absurd h (by omega), fun h => absurd h (by omega), fun h => absurd h (by omega), fun h => absurd h (by omega), fun h => absurd h (by omega), fun h _ _ => absurd h (by omega)⟩
theorem FK.k2 {V : Vf} {b x i : Nat} {w v : Prop} (hk : (V 67 i).toInt = 2) (h1 : 0 ≤ (V 71 i).toInt ∧ (V 71 i).toInt < (V 43 (5 * b + 2)).toInt) (h2 : (V 68 i).toInt = 0 ∨ (0 ≤ (V 70 i).toInt ∧ (V 70 i).toInt < (V 3 13).toInt)) (h3 : (V 68 i).toInt = 0 ∨ (V 68 i).toInt = 1 ∨ (V 75 i).toInt ≤ (V 41 b).toInt) : FK V b x i w v :=
  ⟨fun _ => h1, fun _ q => by rcases h2 with h2 | h2; exact absurd ⟨hk, h2⟩ q; exact h2, fun h => absurd h (by omega), fun h => absurd h (by omega), fun h => absurd h (by omega), fun h => absurd h (by omega), fun h => absurd h (by omega), fun _ => h3, fun h => absurd h (by omega), fun h _ _ => absurd h (by omega)⟩
theorem FK.k4 {V : Vf} {b x i : Nat} {w v : Prop} (hk : (V 67 i).toInt = 4) (h1 : 0 ≤ (V 71 i).toInt ∧ (V 71 i).toInt < (V 43 (5 * b + 2)).toInt) (h2 : 0 ≤ (V 70 i).toInt ∧ (V 70 i).toInt < (V 3 13).toInt) (h3 : (V 42 b).toInt ≤ (V 84 i).toInt ∨ (bdp V b (V 84 i).toInt.toNat).1 = true) (h4 : ((V 68 i).toInt = 6 ∨ (V 68 i).toInt = 7) → (V 75 i).toInt ≤ 7) (h5 : (V 68 i).toInt = 7 → v → 1 ≤ x) : FK V b x i w v :=
  ⟨fun _ => h1, fun _ _ => h2, fun _ => h3, fun _ => h4, fun h => absurd h (by omega), fun h => absurd h (by omega), fun h => absurd h (by omega), fun h => absurd h (by omega), fun h => absurd h (by omega), fun _ => h5⟩
theorem FK.k1 {V : Vf} {b x i : Nat} {w v : Prop} (hk : (V 67 i).toInt = 1) (h1 : 0 ≤ (V 71 i).toInt ∧ (V 71 i).toInt < (V 43 (5 * b + 2)).toInt) (h2 : 0 ≤ (V 70 i).toInt ∧ (V 70 i).toInt < (V 3 13).toInt) (h3 : 0 ≤ (V 76 i).toInt ∧ (V 76 i).toInt ≤ 25 ∧ (V 75 i).toInt ≤ 8) (h0 : 1 ≤ (x : Int)) (h4 : (V 68 i).toInt ≠ 1 → 25 * (8 - (V 75 i).toInt) - (V 76 i).toInt + 1 ≤ (x : Int) ∧ (w → (V 75 i).toInt ≤ 7 ∧ 25 * (8 - (V 75 i).toInt) - (V 76 i).toInt + 2 ≤ (x : Int))) : FK V b x i w v :=
  ⟨fun _ => h1, fun _ _ => h2, fun h => absurd h (by omega), fun h => absurd h (by omega), fun _ => h3, fun _ => ⟨h0, h4⟩, fun h => absurd h (by omega), fun h => absurd h (by omega), fun h => absurd h (by omega), fun h _ _ => absurd h (by omega)⟩
theorem MI.dn2 {V : Vf} {Z : XZ} {b n r : Nat} {g : Nat → Nat} {w v u : Prop} (h : MI V Z b g n r w v u) (e : n = (V 5 6).toInt.toNat) (h0 : 0 ≤ (V 5 6).toInt) : (V 5 6).toInt ≤ (Z.nf : Int) ∧ (Z.nf : Int) ≤ 400 := by
  have a := h.dn
  have b := h.nf
  omega
theorem MI.up {V : Vf} {Z : XZ} {b n r : Nat} {g : Nat → Nat} {w v u : Prop} (h : MI V Z b g n r w v u) : 0 < (V 43 (5 * b + 2)).toInt ∧ TX V b ∧ CD V b ∧ (V 5 5).toInt = (b : Int) ∧ SL V Z ∧ (∀ o : Nat, (o : Int) < (V 3 13).toInt → (V 26 o).toInt < (V 43 (5 * b + 2)).toInt) ∧ (∀ i : Nat, (i : Int) < (V 5 8).toInt → (V 40 i).toInt < (V 3 13).toInt) ∧ PT V ∧ (V 3 15).toInt ≤ 250000 ∧ LN Z.ln := ⟨h.sz, h.tx, h.cd, h.mb, h.sl, h.oc, h.md, h.pt, by have := h.pot; have := h.o0; omega, h.ln⟩
theorem MT.dn {V : Vf} {Z : XZ} {b : Nat} (h : MT V Z b) (h0 : 0 ≤ (V 5 6).toInt) : (V 5 6).toInt ≤ (Z.nf : Int) ∧ (Z.nf : Int) ≤ 400 := by
  obtain ⟨g, r, h⟩ := h
  exact h.dn2 rfl h0
theorem MT.up {V : Vf} {Z : XZ} {b : Nat} (h : MT V Z b) : 0 < (V 43 (5 * b + 2)).toInt ∧ TX V b ∧ CD V b ∧ (V 5 5).toInt = (b : Int) ∧ SL V Z ∧ (∀ o : Nat, (o : Int) < (V 3 13).toInt → (V 26 o).toInt < (V 43 (5 * b + 2)).toInt) ∧ (∀ i : Nat, (i : Int) < (V 5 8).toInt → (V 40 i).toInt < (V 3 13).toInt) ∧ PT V ∧ (V 3 15).toInt ≤ 250000 ∧ LN Z.ln := by
  obtain ⟨g, r, h⟩ := h
  exact h.up
theorem MTr.dn {V : Vf} {Z : XZ} {b : Nat} (h : MTr V Z b) (h0 : 0 ≤ (V 5 6).toInt) : (V 5 6).toInt ≤ (Z.nf : Int) ∧ (Z.nf : Int) ≤ 400 := by
  obtain ⟨g, r, h⟩ := h
  exact h.dn2 rfl h0
theorem MTr.up {V : Vf} {Z : XZ} {b : Nat} (h : MTr V Z b) : 0 < (V 43 (5 * b + 2)).toInt ∧ TX V b ∧ CD V b ∧ (V 5 5).toInt = (b : Int) ∧ SL V Z ∧ (∀ o : Nat, (o : Int) < (V 3 13).toInt → (V 26 o).toInt < (V 43 (5 * b + 2)).toInt) ∧ (∀ i : Nat, (i : Int) < (V 5 8).toInt → (V 40 i).toInt < (V 3 13).toInt) ∧ PT V ∧ (V 3 15).toInt ≤ 250000 ∧ LN Z.ln := by
  obtain ⟨g, r, h⟩ := h
  exact h.up
theorem MTw.dn {V : Vf} {Z : XZ} {b : Nat} (h : MTw V Z b) (h0 : 0 ≤ (V 5 6).toInt) : (V 5 6).toInt ≤ (Z.nf : Int) ∧ (Z.nf : Int) ≤ 400 := by
  obtain ⟨g, r, h⟩ := h
  exact h.dn2 rfl h0
theorem MTw.up {V : Vf} {Z : XZ} {b : Nat} (h : MTw V Z b) : 0 < (V 43 (5 * b + 2)).toInt ∧ TX V b ∧ CD V b ∧ (V 5 5).toInt = (b : Int) ∧ SL V Z ∧ (∀ o : Nat, (o : Int) < (V 3 13).toInt → (V 26 o).toInt < (V 43 (5 * b + 2)).toInt) ∧ (∀ i : Nat, (i : Int) < (V 5 8).toInt → (V 40 i).toInt < (V 3 13).toInt) ∧ PT V ∧ (V 3 15).toInt ≤ 250000 ∧ LN Z.ln := by
  obtain ⟨g, r, h⟩ := h
  exact h.up
theorem MJ.dn {V : Vf} {Z : XZ} {b : Nat} (h : MJ V Z b) (h0 : 0 ≤ (V 5 6).toInt) : (V 5 6).toInt ≤ (Z.nf : Int) ∧ (Z.nf : Int) ≤ 400 := by
  obtain ⟨g, r, h⟩ := h
  exact h.dn2 rfl h0
theorem MJ.up {V : Vf} {Z : XZ} {b : Nat} (h : MJ V Z b) : 0 < (V 43 (5 * b + 2)).toInt ∧ TX V b ∧ CD V b ∧ (V 5 5).toInt = (b : Int) ∧ SL V Z ∧ (∀ o : Nat, (o : Int) < (V 3 13).toInt → (V 26 o).toInt < (V 43 (5 * b + 2)).toInt) ∧ (∀ i : Nat, (i : Int) < (V 5 8).toInt → (V 40 i).toInt < (V 3 13).toInt) ∧ PT V ∧ (V 3 15).toInt ≤ 250000 ∧ LN Z.ln := by
  obtain ⟨g, r, h⟩ := h
  exact h.up
theorem MT.me {V W : Vf} {Z : XZ} {b : Nat} (h : MT V Z b) (m : ME V W 400) (e : W 5 6 = V 5 6) : MT W Z b := by
  obtain ⟨g, r, h⟩ := h
  have := h.dn
  have := h.nf
  exact ⟨g, r, by rw [e]; exact h.me (m.lo (by omega))⟩
theorem MTr.me {V W : Vf} {Z : XZ} {b : Nat} (h : MTr V Z b) (m : ME V W 400) (e : W 5 6 = V 5 6) : MTr W Z b := by
  obtain ⟨g, r, h⟩ := h
  have := h.dn
  have := h.nf
  exact ⟨g, r, by rw [e]; exact h.me (m.lo (by omega))⟩
theorem MTw.me {V W : Vf} {Z : XZ} {b : Nat} (h : MTw V Z b) (m : ME V W 400) (e : W 5 6 = V 5 6) : MTw W Z b := by
  obtain ⟨g, r, h⟩ := h
  have := h.dn
  have := h.nf
  exact ⟨g, r, by rw [e]; exact h.me (m.lo (by omega))⟩
theorem MT.mj {V : Vf} {Z : XZ} {b : Nat} (h : MT V Z b) : MJ V Z b := by
  obtain ⟨g, r, h⟩ := h
  exact ⟨g, r, h.w (fun _ => trivial) (fun _ => trivial) (fun _ => trivial) (Nat.le_refl _)⟩
theorem MTw.mj {V : Vf} {Z : XZ} {b : Nat} (h : MTw V Z b) (q : ¬ QN V b) : MJ V Z b := by
  obtain ⟨g, r, h⟩ := h
  exact ⟨g, r, h.w (fun _ => trivial) (fun _ => trivial) (fun z => q z) (Nat.le_refl _)⟩
/-- what is known of the top frame -/
theorem MO.fk {V : Vf} {Z : XZ} {b d : Nat} {w v u : Prop} (h : MO V Z b d w v u) : ∃ x, FK V b x d w v := by
  obtain ⟨g, r, x, _, _, h3, _⟩ := h
  exact ⟨x, h3⟩
theorem MO.up {V : Vf} {Z : XZ} {b d : Nat} {w v u : Prop} (h : MO V Z b d w v u) : 0 < (V 43 (5 * b + 2)).toInt ∧ TX V b ∧ CD V b ∧ (V 5 5).toInt = (b : Int) ∧ SL V Z ∧ (∀ o : Nat, (o : Int) < (V 3 13).toInt → (V 26 o).toInt < (V 43 (5 * b + 2)).toInt) ∧ (∀ i : Nat, (i : Int) < (V 5 8).toInt → (V 40 i).toInt < (V 3 13).toInt) ∧ PT V ∧ (V 3 15).toInt ≤ 250000 ∧ LN Z.ln := by
  obtain ⟨g, r, x, h, _⟩ := h
  exact h.up
theorem gs.fk {V : Vf} {b : Nat} {s : Int} (h : gs V b s) (h8 : (V 42 b).toInt ≤ 8200) : (V 42 b).toInt ≤ s ∨ (bdp V b s.toNat).1 = true := by
  rcases h with h | h
  · exact Or.inl (by omega)
  · exact Or.inr h.2.2

theorem w669 : Cond.fieldLink RX5 13 "WiringHouse$Machine" "frames" "[LWiringHouse$Frame;" ∈ GW := gw_k tk9_3 34 (by decide +kernel) rfl
theorem n1189 : lw_tbl[1189]? = some (Cond.fieldLinkNest RX5 71 "WiringHouse$Frame" "kind" "I" "WiringHouse") := la9 (n := 155) (i := 1034) lz9 (la9 (n := 240) (i := 794) ln9_1 (la9 (n := 240) (i := 554) ln9_2 (la9 (n := 240) (i := 314) ln9_3 (la9 (n := 240) (i := 74) ln9_4 (lb9 (i := 74) (by decide +kernel))))))
theorem n1190 : lw_tbl[1190]? = some (Cond.fieldLinkNest RX5 94 "WiringHouse$Frame" "phase" "I" "WiringHouse") := la9 (n := 155) (i := 1035) lz9 (la9 (n := 240) (i := 795) ln9_1 (la9 (n := 240) (i := 555) ln9_2 (la9 (n := 240) (i := 315) ln9_3 (la9 (n := 240) (i := 75) ln9_4 (lb9 (i := 75) (by decide +kernel))))))
theorem n1191 : lw_tbl[1191]? = some (Cond.fieldLinkNest RX5 97 "WiringHouse$Frame" "level" "I" "WiringHouse") := la9 (n := 155) (i := 1036) lz9 (la9 (n := 240) (i := 796) ln9_1 (la9 (n := 240) (i := 556) ln9_2 (la9 (n := 240) (i := 316) ln9_3 (la9 (n := 240) (i := 76) ln9_4 (lb9 (i := 76) (by decide +kernel))))))
theorem n1197 : lw_tbl[1197]? = some (Cond.fieldLinkNest RX5 109 "WiringHouse$Frame" "position" "I" "WiringHouse") := la9 (n := 155) (i := 1042) lz9 (la9 (n := 240) (i := 802) ln9_1 (la9 (n := 240) (i := 562) ln9_2 (la9 (n := 240) (i := 322) ln9_3 (la9 (n := 240) (i := 82) ln9_4 (lb9 (i := 82) (by decide +kernel))))))
theorem n1198 : lw_tbl[1198]? = some (Cond.fieldLinkNest RX5 112 "WiringHouse$Frame" "item" "I" "WiringHouse") := la9 (n := 155) (i := 1043) lz9 (la9 (n := 240) (i := 803) ln9_1 (la9 (n := 240) (i := 563) ln9_2 (la9 (n := 240) (i := 323) ln9_3 (la9 (n := 240) (i := 83) ln9_4 (lb9 (i := 83) (by decide +kernel))))))
theorem n1205 : lw_tbl[1205]? = some (Cond.fieldLinkNest RX5 115 "WiringHouse$Frame" "spent" "Z" "WiringHouse") := la9 (n := 155) (i := 1050) lz9 (la9 (n := 240) (i := 810) ln9_1 (la9 (n := 240) (i := 570) ln9_2 (la9 (n := 240) (i := 330) ln9_3 (la9 (n := 240) (i := 90) ln9_4 (lb9 (i := 90) (by decide +kernel))))))
theorem nfX4 : ∀ j, j < 19 → defaultValue (tyX4 j) = vp_V [.int 0, .int 0, .int 0, .int 0, .int 0, .int 0, .int 0, .int 0, .int 0, .int 0, .int 0, .int 0, .int 0, .int 0, .int 0, .int 0, .int 0, .int 0, .int 0] j := by decide +kernel
theorem w665 : Cond.classLink RX5 11 "WiringHouse$Frame" ∈ GW := gw_k tk9_3 30 (by decide +kernel) rfl
theorem w1184 : Cond.instantiable RX4 19 ∈ GW := gw_k tk9_5 69 (by decide +kernel) rfl
theorem w180 : Cond.initialized RX4 ∈ GW := gw_k tk9_1 25 (by decide +kernel) rfl
theorem w1187 : Cond.code yX4_init cX4_init 1 none ∈ GW := gw_k tk9_5 72 (rfl) rfl
theorem w1186 : Cond.instanceMethod yX4_init ∈ GW := gw_k tk9_5 71 (by decide +kernel) rfl
theorem n1185 : lw_tbl[1185]? = some (Cond.methodLinkNest RX5 93 yX4_init "WiringHouse") := la9 (n := 155) (i := 1030) lz9 (la9 (n := 240) (i := 790) ln9_1 (la9 (n := 240) (i := 550) ln9_2 (la9 (n := 240) (i := 310) ln9_3 (la9 (n := 240) (i := 70) ln9_4 (lb9 (i := 70) (by decide +kernel))))))
theorem hdS_yX4_init : yX4_init.cls ≠ "java/lang/invoke/MethodHandle" ∧ yX4_init.cls ≠ "java/lang/invoke/VarHandle" ∧ (parseMethodDescriptor yX4_init.desc).map (fun d => d.parameters.length) = some 0 := by decide +kernel
theorem dk9_dX5_push_0_0 : dOk cX5_push [(0, .aload_n 0, 1), (1, .getfield 39, 3), (4, .sipush 400, 3), (7, .if_icmp .ge 31, 3), (38, .aload_n 0, 1), (39, .getfield 13, 3), (42, .aload_n 0, 1), (43, .getfield 39, 3), (46, .sipush 400, 3), (49, .if_icmp .ge 17, 3), (66, .sipush 399, 3), (69, .aaload, 1), (70, .astore 6, 2), (72, .aload 6, 2), (74, .iload_n 1, 1), (75, .putfield 71, 3), (78, .aload 6, 2), (80, .iconst 0, 1), (81, .putfield 94, 3), (84, .aload 6, 2), (86, .iload_n 2, 1), (87, .putfield 97, 3), (90, .aload 6, 2), (92, .iload_n 3, 1)] = true ∧ dOk cX5_push [(93, .putfield 100, 3), (96, .aload 6, 2), (98, .iload 4, 2), (100, .putfield 103, 3), (103, .aload 6, 2), (105, .iload 5, 2), (107, .putfield 106, 3), (110, .aload 6, 2), (112, .iconst 0, 1), (113, .putfield 109, 3), (116, .aload 6, 2), (118, .iconst 0, 1), (119, .putfield 112, 3), (122, .aload 6, 2), (124, .iconst 0, 1), (125, .putfield 115, 3), (128, .aload_n 0, 1), (129, .iconst 0, 1), (130, .putfield 49, 3), (133, .aload 6, 2), (135, .areturn, 1), (10, .aload_n 0, 1), (11, .getfield 13, 3), (14, .aload_n 0, 1)] = true ∧ dOk cX5_push [(15, .getfield 39, 3), (18, .aaload, 1), (19, .ifnonnull 19, 3), (52, .aload_n 0, 1), (53, .dup, 1), (54, .getfield 39, 3), (57, .dup_x1, 1), (58, .iconst 1, 1), (59, .iadd, 1), (60, .putfield 39, 3), (63, .goto 6, 3), (22, .aload_n 0, 1), (23, .getfield 13, 3), (26, .aload_n 0, 1), (27, .getfield 39, 3), (30, .new 11, 3), (33, .dup, 1), (34, .invokespecial 93, 3), (37, .aastore, 1)] = true := by decide +kernel
theorem dX5_push_0 : decode cX5_push 0 = .ok (.aload_n 0, 1) := dr9 dk9_dX5_push_0_0.1 0 (0, .aload_n 0, 1) rfl
theorem dX5_push_1 : decode cX5_push 1 = .ok (.getfield 39, 3) := dr9 dk9_dX5_push_0_0.1 1 (1, .getfield 39, 3) rfl
theorem dX5_push_4 : decode cX5_push 4 = .ok (.sipush 400, 3) := dr9 dk9_dX5_push_0_0.1 2 (4, .sipush 400, 3) rfl
theorem dX5_push_7 : decode cX5_push 7 = .ok (.if_icmp .ge 31, 3) := dr9 dk9_dX5_push_0_0.1 3 (7, .if_icmp .ge 31, 3) rfl
theorem dX5_push_38 : decode cX5_push 38 = .ok (.aload_n 0, 1) := dr9 dk9_dX5_push_0_0.1 4 (38, .aload_n 0, 1) rfl
theorem dX5_push_39 : decode cX5_push 39 = .ok (.getfield 13, 3) := dr9 dk9_dX5_push_0_0.1 5 (39, .getfield 13, 3) rfl
theorem dX5_push_42 : decode cX5_push 42 = .ok (.aload_n 0, 1) := dr9 dk9_dX5_push_0_0.1 6 (42, .aload_n 0, 1) rfl
theorem dX5_push_43 : decode cX5_push 43 = .ok (.getfield 39, 3) := dr9 dk9_dX5_push_0_0.1 7 (43, .getfield 39, 3) rfl
theorem dX5_push_46 : decode cX5_push 46 = .ok (.sipush 400, 3) := dr9 dk9_dX5_push_0_0.1 8 (46, .sipush 400, 3) rfl
theorem dX5_push_49 : decode cX5_push 49 = .ok (.if_icmp .ge 17, 3) := dr9 dk9_dX5_push_0_0.1 9 (49, .if_icmp .ge 17, 3) rfl
theorem dX5_push_66 : decode cX5_push 66 = .ok (.sipush 399, 3) := dr9 dk9_dX5_push_0_0.1 10 (66, .sipush 399, 3) rfl
theorem dX5_push_69 : decode cX5_push 69 = .ok (.aaload, 1) := dr9 dk9_dX5_push_0_0.1 11 (69, .aaload, 1) rfl
theorem dX5_push_70 : decode cX5_push 70 = .ok (.astore 6, 2) := dr9 dk9_dX5_push_0_0.1 12 (70, .astore 6, 2) rfl
theorem dX5_push_72 : decode cX5_push 72 = .ok (.aload 6, 2) := dr9 dk9_dX5_push_0_0.1 13 (72, .aload 6, 2) rfl
theorem dX5_push_74 : decode cX5_push 74 = .ok (.iload_n 1, 1) := dr9 dk9_dX5_push_0_0.1 14 (74, .iload_n 1, 1) rfl
theorem dX5_push_75 : decode cX5_push 75 = .ok (.putfield 71, 3) := dr9 dk9_dX5_push_0_0.1 15 (75, .putfield 71, 3) rfl
theorem dX5_push_78 : decode cX5_push 78 = .ok (.aload 6, 2) := dr9 dk9_dX5_push_0_0.1 16 (78, .aload 6, 2) rfl
theorem dX5_push_80 : decode cX5_push 80 = .ok (.iconst 0, 1) := dr9 dk9_dX5_push_0_0.1 17 (80, .iconst 0, 1) rfl
theorem dX5_push_81 : decode cX5_push 81 = .ok (.putfield 94, 3) := dr9 dk9_dX5_push_0_0.1 18 (81, .putfield 94, 3) rfl
theorem dX5_push_84 : decode cX5_push 84 = .ok (.aload 6, 2) := dr9 dk9_dX5_push_0_0.1 19 (84, .aload 6, 2) rfl
theorem dX5_push_86 : decode cX5_push 86 = .ok (.iload_n 2, 1) := dr9 dk9_dX5_push_0_0.1 20 (86, .iload_n 2, 1) rfl
theorem dX5_push_87 : decode cX5_push 87 = .ok (.putfield 97, 3) := dr9 dk9_dX5_push_0_0.1 21 (87, .putfield 97, 3) rfl
theorem dX5_push_90 : decode cX5_push 90 = .ok (.aload 6, 2) := dr9 dk9_dX5_push_0_0.1 22 (90, .aload 6, 2) rfl
theorem dX5_push_92 : decode cX5_push 92 = .ok (.iload_n 3, 1) := dr9 dk9_dX5_push_0_0.1 23 (92, .iload_n 3, 1) rfl
theorem dX5_push_93 : decode cX5_push 93 = .ok (.putfield 100, 3) := dr9 dk9_dX5_push_0_0.2.1 0 (93, .putfield 100, 3) rfl
theorem dX5_push_96 : decode cX5_push 96 = .ok (.aload 6, 2) := dr9 dk9_dX5_push_0_0.2.1 1 (96, .aload 6, 2) rfl
theorem dX5_push_98 : decode cX5_push 98 = .ok (.iload 4, 2) := dr9 dk9_dX5_push_0_0.2.1 2 (98, .iload 4, 2) rfl
theorem dX5_push_100 : decode cX5_push 100 = .ok (.putfield 103, 3) := dr9 dk9_dX5_push_0_0.2.1 3 (100, .putfield 103, 3) rfl
theorem dX5_push_103 : decode cX5_push 103 = .ok (.aload 6, 2) := dr9 dk9_dX5_push_0_0.2.1 4 (103, .aload 6, 2) rfl
theorem dX5_push_105 : decode cX5_push 105 = .ok (.iload 5, 2) := dr9 dk9_dX5_push_0_0.2.1 5 (105, .iload 5, 2) rfl
theorem dX5_push_107 : decode cX5_push 107 = .ok (.putfield 106, 3) := dr9 dk9_dX5_push_0_0.2.1 6 (107, .putfield 106, 3) rfl
theorem dX5_push_110 : decode cX5_push 110 = .ok (.aload 6, 2) := dr9 dk9_dX5_push_0_0.2.1 7 (110, .aload 6, 2) rfl
theorem dX5_push_112 : decode cX5_push 112 = .ok (.iconst 0, 1) := dr9 dk9_dX5_push_0_0.2.1 8 (112, .iconst 0, 1) rfl
theorem dX5_push_113 : decode cX5_push 113 = .ok (.putfield 109, 3) := dr9 dk9_dX5_push_0_0.2.1 9 (113, .putfield 109, 3) rfl
theorem dX5_push_116 : decode cX5_push 116 = .ok (.aload 6, 2) := dr9 dk9_dX5_push_0_0.2.1 10 (116, .aload 6, 2) rfl
theorem dX5_push_118 : decode cX5_push 118 = .ok (.iconst 0, 1) := dr9 dk9_dX5_push_0_0.2.1 11 (118, .iconst 0, 1) rfl
theorem dX5_push_119 : decode cX5_push 119 = .ok (.putfield 112, 3) := dr9 dk9_dX5_push_0_0.2.1 12 (119, .putfield 112, 3) rfl
theorem dX5_push_122 : decode cX5_push 122 = .ok (.aload 6, 2) := dr9 dk9_dX5_push_0_0.2.1 13 (122, .aload 6, 2) rfl
theorem dX5_push_124 : decode cX5_push 124 = .ok (.iconst 0, 1) := dr9 dk9_dX5_push_0_0.2.1 14 (124, .iconst 0, 1) rfl
theorem dX5_push_125 : decode cX5_push 125 = .ok (.putfield 115, 3) := dr9 dk9_dX5_push_0_0.2.1 15 (125, .putfield 115, 3) rfl
theorem dX5_push_128 : decode cX5_push 128 = .ok (.aload_n 0, 1) := dr9 dk9_dX5_push_0_0.2.1 16 (128, .aload_n 0, 1) rfl
theorem dX5_push_129 : decode cX5_push 129 = .ok (.iconst 0, 1) := dr9 dk9_dX5_push_0_0.2.1 17 (129, .iconst 0, 1) rfl
theorem dX5_push_130 : decode cX5_push 130 = .ok (.putfield 49, 3) := dr9 dk9_dX5_push_0_0.2.1 18 (130, .putfield 49, 3) rfl
theorem dX5_push_133 : decode cX5_push 133 = .ok (.aload 6, 2) := dr9 dk9_dX5_push_0_0.2.1 19 (133, .aload 6, 2) rfl
theorem dX5_push_135 : decode cX5_push 135 = .ok (.areturn, 1) := dr9 dk9_dX5_push_0_0.2.1 20 (135, .areturn, 1) rfl
theorem dX5_push_10 : decode cX5_push 10 = .ok (.aload_n 0, 1) := dr9 dk9_dX5_push_0_0.2.1 21 (10, .aload_n 0, 1) rfl
theorem dX5_push_11 : decode cX5_push 11 = .ok (.getfield 13, 3) := dr9 dk9_dX5_push_0_0.2.1 22 (11, .getfield 13, 3) rfl
theorem dX5_push_14 : decode cX5_push 14 = .ok (.aload_n 0, 1) := dr9 dk9_dX5_push_0_0.2.1 23 (14, .aload_n 0, 1) rfl
theorem dX5_push_15 : decode cX5_push 15 = .ok (.getfield 39, 3) := dr9 dk9_dX5_push_0_0.2.2 0 (15, .getfield 39, 3) rfl
theorem dX5_push_18 : decode cX5_push 18 = .ok (.aaload, 1) := dr9 dk9_dX5_push_0_0.2.2 1 (18, .aaload, 1) rfl
theorem dX5_push_19 : decode cX5_push 19 = .ok (.ifnonnull 19, 3) := dr9 dk9_dX5_push_0_0.2.2 2 (19, .ifnonnull 19, 3) rfl
theorem dX5_push_52 : decode cX5_push 52 = .ok (.aload_n 0, 1) := dr9 dk9_dX5_push_0_0.2.2 3 (52, .aload_n 0, 1) rfl
theorem dX5_push_53 : decode cX5_push 53 = .ok (.dup, 1) := dr9 dk9_dX5_push_0_0.2.2 4 (53, .dup, 1) rfl
theorem dX5_push_54 : decode cX5_push 54 = .ok (.getfield 39, 3) := dr9 dk9_dX5_push_0_0.2.2 5 (54, .getfield 39, 3) rfl
theorem dX5_push_57 : decode cX5_push 57 = .ok (.dup_x1, 1) := dr9 dk9_dX5_push_0_0.2.2 6 (57, .dup_x1, 1) rfl
theorem dX5_push_58 : decode cX5_push 58 = .ok (.iconst 1, 1) := dr9 dk9_dX5_push_0_0.2.2 7 (58, .iconst 1, 1) rfl
theorem dX5_push_59 : decode cX5_push 59 = .ok (.iadd, 1) := dr9 dk9_dX5_push_0_0.2.2 8 (59, .iadd, 1) rfl
theorem dX5_push_60 : decode cX5_push 60 = .ok (.putfield 39, 3) := dr9 dk9_dX5_push_0_0.2.2 9 (60, .putfield 39, 3) rfl
theorem dX5_push_63 : decode cX5_push 63 = .ok (.goto 6, 3) := dr9 dk9_dX5_push_0_0.2.2 10 (63, .goto 6, 3) rfl
theorem dX5_push_22 : decode cX5_push 22 = .ok (.aload_n 0, 1) := dr9 dk9_dX5_push_0_0.2.2 11 (22, .aload_n 0, 1) rfl
theorem dX5_push_23 : decode cX5_push 23 = .ok (.getfield 13, 3) := dr9 dk9_dX5_push_0_0.2.2 12 (23, .getfield 13, 3) rfl
theorem dX5_push_26 : decode cX5_push 26 = .ok (.aload_n 0, 1) := dr9 dk9_dX5_push_0_0.2.2 13 (26, .aload_n 0, 1) rfl
theorem dX5_push_27 : decode cX5_push 27 = .ok (.getfield 39, 3) := dr9 dk9_dX5_push_0_0.2.2 14 (27, .getfield 39, 3) rfl
theorem dX5_push_30 : decode cX5_push 30 = .ok (.new 11, 3) := dr9 dk9_dX5_push_0_0.2.2 15 (30, .new 11, 3) rfl
theorem dX5_push_33 : decode cX5_push 33 = .ok (.dup, 1) := dr9 dk9_dX5_push_0_0.2.2 16 (33, .dup, 1) rfl
theorem dX5_push_34 : decode cX5_push 34 = .ok (.invokespecial 93, 3) := dr9 dk9_dX5_push_0_0.2.2 17 (34, .invokespecial 93, 3) rfl
theorem dX5_push_37 : decode cX5_push 37 = .ok (.aastore, 1) := dr9 dk9_dX5_push_0_0.2.2 18 (37, .aastore, 1) rfl
abbrev r_x_push (Z : XZ) : Room := { frames := 2, cells := zcc Z, slots := zss Z, locals := 40 }
abbrev q_x_push (D : va_G) (ks : KS) (ad : Nat → Nat) (kk : Nat → ClassId) (V : Vf) (L : Lf) (Z : XZ) (p0 : Int32) (p1 : Int32) (p2 : Int32) (p3 : Int32) (p4 : Int32) (A : Nat → Prop) : Array Value → State → Outcome → State → Prop := qZr D (fun (u : Vf × Lf × XZ × Nat) => rgd bX u.1 ∧ agr [(5, 6), (5, 9)] [67, 68, 69, 70, 71, 72, 73, 74, 75, 76, 77, 78, 79, 80, 81, 82, 83, 84, 85] V u.1 ∧ u.2.1 = L ∧ ZL Z u.2.2.1 ∧ (u.2.2.2 < u.2.2.1.nf) ∧ (ME V u.1 u.2.2.2) ∧ (u.1 67 u.2.2.2 = p0 ∧ u.1 68 u.2.2.2 = 0 ∧ u.1 70 u.2.2.2 = p2 ∧ u.1 71 u.2.2.2 = p3 ∧ u.1 75 u.2.2.2 = 0 ∧ u.1 76 u.2.2.2 = 0) ∧ ((u.2.2.2 : Int) + 1 = (u.1 5 6).toInt) ∧ ((u.2.2.2 : Int) ≤ (V 5 6).toInt ∧ (V 5 6).toInt ≤ (u.2.2.2 : Int) + 1) ∧ ((u.1 5 9).toInt = 0) ∧ (u.2.2.1.ln = Z.ln ∧ u.2.2.1.nf ≤ 400)) (fun u => u.2.2.1.fa u.2.2.2) (fun u => xw ad kk u.1 u.2.1 u.2.2.1) (fun u => xty kk u.2.2.1) (fun u => zcc Z - zcc u.2.2.1) (fun u => zss Z - zss u.2.2.1) A
set_option maxHeartbeats 4000000 in
set_option maxRecDepth 100000 in
theorem x_push (l : Launch) (D : va_G) (ks : KS) (sz : Nat) (ad : Nat → Nat) (kk : Nat → ClassId) (V : Vf) (L : Lf) (Z : XZ) (p0 : Int32) (p1 : Int32) (p2 : Int32) (p3 : Int32) (p4 : Int32) (hMV : rgd bX V) (rg_p3 : (-1) ≤ p3.toInt ∧ p3.toInt ≤ 23) (rg_p4 : 0 ≤ p4.toInt ∧ p4.toInt ≤ 39) (hdn : (V 5 6).toInt ≤ (Z.nf : Int)) (hnf : (Z.nf : Int) ≤ 400)  : Met l yX5_push (Cond.code yX5_push cX5_push 7 (some (.object "WiringHouse$Frame")) :: GW) (r_x_push Z) (va_Pc [.ref (ad 5), .int p0, .int p1, .int p2, .int p3, .int p4] (gp D ks (xw ad kk V L Z) (xty kk Z) sz)) (q_x_push D ks ad kk V L Z p0 p1 p2 p3 p4 (va_A (xw ad kk V L Z) sz)) (zcc Z) (zss Z) (va_A (xw ad kk V L Z) sz) := by
  refine g_met (q_x_push D ks ad kk V L Z p0 p1 p2 p3 p4) (by decide) (Nat.le_of_ble_eq_true rfl) ?_
  intro p e s m below meth c A ls H locs hx hb hr hml hown hg hlocks hin hnw hgk hP hK hD hS hA hl
  have hown : s.vm.findClass RX5 = some m.cls := hown
  have hl : lv_has ls 7 [(0, .ref (ad 5)), (1, .int p0), (2, .int p1), (3, .int p2), (4, .int p3), (5, .int p4)] := hl
  have hP : va_P D vwCl (xw ad kk V L Z) H := hP
  have hD : va_D A (xw ad kk V L Z) := hD
  have hK : va_K D vwCl (xty kk Z) s := hK
  have agV : agr [(5, 6), (5, 9)] [67, 68, 69, 70, 71, 72, 73, 74, 75, 76, 77, 78, 79, 80, 81, 82, 83, 84, 85] V V := agr.rf
  have zoZ : ZL Z Z := ZL.rf
  refine W.know (fun ka kb => ?_)
  refine W.tight (k := zcc Z - zcc Z) (n := zss Z - zss Z) (by omega) (by omega) ?_
  have r1 : 0 ≤ ((V 5 6)).toInt ∧ ((V 5 6)).toInt ≤ 400 := hMV 5 6
  have kdp := i_clamp (x := V 5 6) rfl (by (first | exact om_eafa9039069c r1.1 | omega))
  refine lv_aload_n hx hb dX5_push_0 rfl (lv_at hl 0 rfl) ?_
  refine va_get (D := D) (ci := 5) (v := .int (V 5 6)) (fs := (xfMachine ad V L Z)) (C := RX5) (T := TX5) (N := 15) hx hb hg inX5 hown hK hP 5 xgMachine rfl 6 (by decide) (hg _ w673) (fun _ h9 => h9) rfl dX5_push_1 ?_
  refine lv_sipush (v := 400) hx hb dX5_push_4 (by decide) ?_
  refine lv_icmp_ge (tgt := 38) hx hb dX5_push_7 (by decide) (fun c2 => ?_) (fun c2 => ?_)
  · skip
    have f3 : 400 ≤ ((V 5 6)).toInt := b_le (by decide) rfl c2
    refine lv_aload_n hx hb dX5_push_38 rfl (lv_at hl 0 rfl) ?_
    refine va_get (D := D) (ci := 5) (v := .ref (ad 35)) (fs := (xfMachine ad V L Z)) (C := RX5) (T := TX5) (N := 15) hx hb hg inX5 hown hK hP 5 xgMachine rfl 2 (by decide) (hg _ w669) (fun _ h9 => h9) rfl dX5_push_39 ?_
    refine lv_aload_n hx hb dX5_push_42 rfl (lv_at hl 0 rfl) ?_
    refine va_get (D := D) (ci := 5) (v := .int (V 5 6)) (fs := (xfMachine ad V L Z)) (C := RX5) (T := TX5) (N := 15) hx hb hg inX5 hown hK hP 5 xgMachine rfl 6 (by decide) (hg _ w673) (fun _ h9 => h9) rfl dX5_push_43 ?_
    refine lv_sipush (v := 400) hx hb dX5_push_46 (by decide) ?_
    refine lv_icmp_ge (tgt := 66) hx hb dX5_push_49 (by decide) (fun c4 => ?_) (fun c4 => ?_)
    · skip
      have f5 : 400 ≤ ((V 5 6)).toInt := b_le (by decide) rfl c4
      refine lv_sipush (v := 399) hx hb dX5_push_66 (by decide) ?_
      refine va_aldq (D := D) (i := 399) hx hb hK hP 35 28 rfl rfl (i_in (a := 399) (by decide) (by decide)) dX5_push_69 ?_
      refine g_topv (v := .ref (Z.fa 399)) (by rw [show Int32.toNatClampNeg 399 = 399 from by decide]; exact congrArg va_rf (if_pos (by omega))) ?_
      have il6 : 399 < Z.nf := by (first | exact om_41b7f2c202b6 hdn f3 | omega)
      refine lv_astore (lv' := [(6, .ref (Z.fa 399)), (0, .ref (ad 5)), (1, .int p0), (2, .int p1), (3, .int p2), (4, .int p3), (5, .int p4)]) hx hb dX5_push_70 hl (by decide) rfl (fun ls hl => ?_)
      refine lv_aload hx hb dX5_push_72 (lv_at hl 0 rfl) ?_
      refine lv_iload_n hx hb dX5_push_74 rfl (lv_at hl 2 rfl) ?_
      refine va_putN (D := D) (ci := 4) (v := .int p0) (ty := tyX4 0) (fs := (xfFrame V 399)) (C := RX4) (T := TX4) (N := 19) hx hb hg inX4 tyX4 tyX4_ok nmX4 hown hK hP hD hS (336 + 399) (xgFrame il6) rfl 0 (by decide) (hnw.use 1189 n1189 rfl) (fun _ h9 => h9) rfl (tyX4_ok 0 (by decide)) rfl rfl (Nat.le_of_ble_eq_true rfl) dX5_push_75 (fun H locs hP hD hS => ?_)
      obtain ⟨V7, hV7⟩ : ∃ z, z = up2 V 67 399 p0 := ⟨_, rfl⟩
      have ew8 : (xw ad kk V L Z).set (336 + 399) ((Z.fa 399), .inr (4, (xfFrame V 399).set 0 (.int p0))) = xw ad kk V7 L Z := by rw [hV7]; exact xpFrame_kind il6
      have hP : va_P D vwCl (xw ad kk V7 L Z) H := by rw [← ew8]; exact hP
      have hD : va_D A (xw ad kk V7 L Z) := by rw [← ew8]; exact hD
      have hMV7 : rgd bX V7 := hMV.put hV7 (i_full _)
      have agV7 : agr [(5, 6), (5, 9)] [67, 68, 69, 70, 71, 72, 73, 74, 75, 76, 77, 78, 79, 80, 81, 82, 83, 84, 85] V V7 := agV.up hV7 rfl
      refine lv_aload hx hb dX5_push_78 (lv_at hl 0 rfl) ?_
      refine lv_iconst (v := 0) hx hb dX5_push_80 (by decide) ?_
      refine va_putN (D := D) (ci := 4) (v := .int 0) (ty := tyX4 1) (fs := (xfFrame V7 399)) (C := RX4) (T := TX4) (N := 19) hx hb hg inX4 tyX4 tyX4_ok nmX4 hown hK hP hD hS (336 + 399) (xgFrame il6) rfl 1 (by decide) (hnw.use 1190 n1190 rfl) (fun _ h9 => h9) rfl (tyX4_ok 1 (by decide)) rfl rfl (Nat.le_of_ble_eq_true rfl) dX5_push_81 (fun H locs hP hD hS => ?_)
      obtain ⟨V9, hV9⟩ : ∃ z, z = up2 V7 68 399 0 := ⟨_, rfl⟩
      have ew10 : (xw ad kk V7 L Z).set (336 + 399) ((Z.fa 399), .inr (4, (xfFrame V7 399).set 1 (.int 0))) = xw ad kk V9 L Z := by rw [hV9]; exact xpFrame_phase il6
      have hP : va_P D vwCl (xw ad kk V9 L Z) H := by rw [← ew10]; exact hP
      have hD : va_D A (xw ad kk V9 L Z) := by rw [← ew10]; exact hD
      have hMV9 : rgd bX V9 := hMV7.put hV9 (i_full _)
      have agV9 : agr [(5, 6), (5, 9)] [67, 68, 69, 70, 71, 72, 73, 74, 75, 76, 77, 78, 79, 80, 81, 82, 83, 84, 85] V V9 := agV7.up hV9 rfl
      refine lv_aload hx hb dX5_push_84 (lv_at hl 0 rfl) ?_
      refine lv_iload_n hx hb dX5_push_86 rfl (lv_at hl 3 rfl) ?_
      refine va_putN (D := D) (ci := 4) (v := .int p1) (ty := tyX4 2) (fs := (xfFrame V9 399)) (C := RX4) (T := TX4) (N := 19) hx hb hg inX4 tyX4 tyX4_ok nmX4 hown hK hP hD hS (336 + 399) (xgFrame il6) rfl 2 (by decide) (hnw.use 1191 n1191 rfl) (fun _ h9 => h9) rfl (tyX4_ok 2 (by decide)) rfl rfl (Nat.le_of_ble_eq_true rfl) dX5_push_87 (fun H locs hP hD hS => ?_)
      obtain ⟨V11, hV11⟩ : ∃ z, z = up2 V9 69 399 p1 := ⟨_, rfl⟩
      have ew12 : (xw ad kk V9 L Z).set (336 + 399) ((Z.fa 399), .inr (4, (xfFrame V9 399).set 2 (.int p1))) = xw ad kk V11 L Z := by rw [hV11]; exact xpFrame_level il6
      have hP : va_P D vwCl (xw ad kk V11 L Z) H := by rw [← ew12]; exact hP
      have hD : va_D A (xw ad kk V11 L Z) := by rw [← ew12]; exact hD
      have hMV11 : rgd bX V11 := hMV9.put hV11 (i_full _)
      have agV11 : agr [(5, 6), (5, 9)] [67, 68, 69, 70, 71, 72, 73, 74, 75, 76, 77, 78, 79, 80, 81, 82, 83, 84, 85] V V11 := agV9.up hV11 rfl
      refine lv_aload hx hb dX5_push_90 (lv_at hl 0 rfl) ?_
      refine lv_iload_n hx hb dX5_push_92 rfl (lv_at hl 4 rfl) ?_
      refine va_putN (D := D) (ci := 4) (v := .int p2) (ty := tyX4 3) (fs := (xfFrame V11 399)) (C := RX4) (T := TX4) (N := 19) hx hb hg inX4 tyX4 tyX4_ok nmX4 hown hK hP hD hS (336 + 399) (xgFrame il6) rfl 3 (by decide) (hnw.use 1192 n1192 rfl) (fun _ h9 => h9) rfl (tyX4_ok 3 (by decide)) rfl rfl (Nat.le_of_ble_eq_true rfl) dX5_push_93 (fun H locs hP hD hS => ?_)
      obtain ⟨V13, hV13⟩ : ∃ z, z = up2 V11 70 399 p2 := ⟨_, rfl⟩
      have ew14 : (xw ad kk V11 L Z).set (336 + 399) ((Z.fa 399), .inr (4, (xfFrame V11 399).set 3 (.int p2))) = xw ad kk V13 L Z := by rw [hV13]; exact xpFrame_object il6
      have hP : va_P D vwCl (xw ad kk V13 L Z) H := by rw [← ew14]; exact hP
      have hD : va_D A (xw ad kk V13 L Z) := by rw [← ew14]; exact hD
      have hMV13 : rgd bX V13 := hMV11.put hV13 (i_full _)
      have agV13 : agr [(5, 6), (5, 9)] [67, 68, 69, 70, 71, 72, 73, 74, 75, 76, 77, 78, 79, 80, 81, 82, 83, 84, 85] V V13 := agV11.up hV13 rfl
      refine lv_aload hx hb dX5_push_96 (lv_at hl 0 rfl) ?_
      refine lv_iload hx hb dX5_push_98 (lv_at hl 5 rfl) ?_
      refine va_putN (D := D) (ci := 4) (v := .int p3) (ty := tyX4 4) (fs := (xfFrame V13 399)) (C := RX4) (T := TX4) (N := 19) hx hb hg inX4 tyX4 tyX4_ok nmX4 hown hK hP hD hS (336 + 399) (xgFrame il6) rfl 4 (by decide) (hnw.use 1193 n1193 rfl) (fun _ h9 => h9) rfl (tyX4_ok 4 (by decide)) rfl rfl (Nat.le_of_ble_eq_true rfl) dX5_push_100 (fun H locs hP hD hS => ?_)
      obtain ⟨V15, hV15⟩ : ∃ z, z = up2 V13 71 399 p3 := ⟨_, rfl⟩
      have ew16 : (xw ad kk V13 L Z).set (336 + 399) ((Z.fa 399), .inr (4, (xfFrame V13 399).set 4 (.int p3))) = xw ad kk V15 L Z := by rw [hV15]; exact xpFrame_component il6
      have hP : va_P D vwCl (xw ad kk V15 L Z) H := by rw [← ew16]; exact hP
      have hD : va_D A (xw ad kk V15 L Z) := by rw [← ew16]; exact hD
      have hMV15 : rgd bX V15 := hMV13.put hV15 (show (-1) ≤ p3.toInt ∧ p3.toInt ≤ 23 from by (first | exact om_b5ea211f5a81 rg_p3.1 rg_p3.2 | omega))
      have agV15 : agr [(5, 6), (5, 9)] [67, 68, 69, 70, 71, 72, 73, 74, 75, 76, 77, 78, 79, 80, 81, 82, 83, 84, 85] V V15 := agV13.up hV15 rfl
      refine lv_aload hx hb dX5_push_103 (lv_at hl 0 rfl) ?_
      refine lv_iload hx hb dX5_push_105 (lv_at hl 6 rfl) ?_
      refine va_putN (D := D) (ci := 4) (v := .int p4) (ty := tyX4 5) (fs := (xfFrame V15 399)) (C := RX4) (T := TX4) (N := 19) hx hb hg inX4 tyX4 tyX4_ok nmX4 hown hK hP hD hS (336 + 399) (xgFrame il6) rfl 5 (by decide) (hnw.use 1194 n1194 rfl) (fun _ h9 => h9) rfl (tyX4_ok 5 (by decide)) rfl rfl (Nat.le_of_ble_eq_true rfl) dX5_push_107 (fun H locs hP hD hS => ?_)
      obtain ⟨V17, hV17⟩ : ∃ z, z = up2 V15 72 399 p4 := ⟨_, rfl⟩
      have ew18 : (xw ad kk V15 L Z).set (336 + 399) ((Z.fa 399), .inr (4, (xfFrame V15 399).set 5 (.int p4))) = xw ad kk V17 L Z := by rw [hV17]; exact xpFrame_scope il6
      have hP : va_P D vwCl (xw ad kk V17 L Z) H := by rw [← ew18]; exact hP
      have hD : va_D A (xw ad kk V17 L Z) := by rw [← ew18]; exact hD
      have hMV17 : rgd bX V17 := hMV15.put hV17 (show 0 ≤ p4.toInt ∧ p4.toInt ≤ 39 from by (first | exact om_13ba01c174fe rg_p4.1 rg_p4.2 | omega))
      have agV17 : agr [(5, 6), (5, 9)] [67, 68, 69, 70, 71, 72, 73, 74, 75, 76, 77, 78, 79, 80, 81, 82, 83, 84, 85] V V17 := agV15.up hV17 rfl
      refine lv_aload hx hb dX5_push_110 (lv_at hl 0 rfl) ?_
      refine lv_iconst (v := 0) hx hb dX5_push_112 (by decide) ?_
      refine va_putN (D := D) (ci := 4) (v := .int 0) (ty := tyX4 8) (fs := (xfFrame V17 399)) (C := RX4) (T := TX4) (N := 19) hx hb hg inX4 tyX4 tyX4_ok nmX4 hown hK hP hD hS (336 + 399) (xgFrame il6) rfl 8 (by decide) (hnw.use 1197 n1197 rfl) (fun _ h9 => h9) rfl (tyX4_ok 8 (by decide)) rfl rfl (Nat.le_of_ble_eq_true rfl) dX5_push_113 (fun H locs hP hD hS => ?_)
      obtain ⟨V19, hV19⟩ : ∃ z, z = up2 V17 75 399 0 := ⟨_, rfl⟩
      have ew20 : (xw ad kk V17 L Z).set (336 + 399) ((Z.fa 399), .inr (4, (xfFrame V17 399).set 8 (.int 0))) = xw ad kk V19 L Z := by rw [hV19]; exact xpFrame_position il6
      have hP : va_P D vwCl (xw ad kk V19 L Z) H := by rw [← ew20]; exact hP
      have hD : va_D A (xw ad kk V19 L Z) := by rw [← ew20]; exact hD
      have hMV19 : rgd bX V19 := hMV17.put hV19 (show 0 ≤ Int32.toInt 0 ∧ Int32.toInt 0 ≤ 12 from by decide)
      have agV19 : agr [(5, 6), (5, 9)] [67, 68, 69, 70, 71, 72, 73, 74, 75, 76, 77, 78, 79, 80, 81, 82, 83, 84, 85] V V19 := agV17.up hV19 rfl
      refine lv_aload hx hb dX5_push_116 (lv_at hl 0 rfl) ?_
      refine lv_iconst (v := 0) hx hb dX5_push_118 (by decide) ?_
      refine va_putN (D := D) (ci := 4) (v := .int 0) (ty := tyX4 9) (fs := (xfFrame V19 399)) (C := RX4) (T := TX4) (N := 19) hx hb hg inX4 tyX4 tyX4_ok nmX4 hown hK hP hD hS (336 + 399) (xgFrame il6) rfl 9 (by decide) (hnw.use 1198 n1198 rfl) (fun _ h9 => h9) rfl (tyX4_ok 9 (by decide)) rfl rfl (Nat.le_of_ble_eq_true rfl) dX5_push_119 (fun H locs hP hD hS => ?_)
      obtain ⟨V21, hV21⟩ : ∃ z, z = up2 V19 76 399 0 := ⟨_, rfl⟩
      have ew22 : (xw ad kk V19 L Z).set (336 + 399) ((Z.fa 399), .inr (4, (xfFrame V19 399).set 9 (.int 0))) = xw ad kk V21 L Z := by rw [hV21]; exact xpFrame_item il6
      have hP : va_P D vwCl (xw ad kk V21 L Z) H := by rw [← ew22]; exact hP
      have hD : va_D A (xw ad kk V21 L Z) := by rw [← ew22]; exact hD
      have hMV21 : rgd bX V21 := hMV19.put hV21 (i_full _)
      have agV21 : agr [(5, 6), (5, 9)] [67, 68, 69, 70, 71, 72, 73, 74, 75, 76, 77, 78, 79, 80, 81, 82, 83, 84, 85] V V21 := agV19.up hV21 rfl
      refine lv_aload hx hb dX5_push_122 (lv_at hl 0 rfl) ?_
      refine lv_iconst (v := 0) hx hb dX5_push_124 (by decide) ?_
      refine va_putN (D := D) (ci := 4) (v := .int 0) (ty := tyX4 16) (fs := (xfFrame V21 399)) (C := RX4) (T := TX4) (N := 19) hx hb hg inX4 tyX4 tyX4_ok nmX4 hown hK hP hD hS (336 + 399) (xgFrame il6) rfl 16 (by decide) (hnw.use 1205 n1205 rfl) (fun _ h9 => h9) rfl (tyX4_ok 16 (by decide)) rfl rfl (Nat.le_of_ble_eq_true rfl) dX5_push_125 (fun H locs hP hD hS => ?_)
      obtain ⟨V23, hV23⟩ : ∃ z, z = up2 V21 83 399 0 := ⟨_, rfl⟩
      have ew24 : (xw ad kk V21 L Z).set (336 + 399) ((Z.fa 399), .inr (4, (xfFrame V21 399).set 16 (.int 0))) = xw ad kk V23 L Z := by rw [hV23]; exact xpFrame_spent il6
      have hP : va_P D vwCl (xw ad kk V23 L Z) H := by rw [← ew24]; exact hP
      have hD : va_D A (xw ad kk V23 L Z) := by rw [← ew24]; exact hD
      have hMV23 : rgd bX V23 := hMV21.put hV23 (show 0 ≤ Int32.toInt 0 ∧ Int32.toInt 0 ≤ 1 from by decide)
      have agV23 : agr [(5, 6), (5, 9)] [67, 68, 69, 70, 71, 72, 73, 74, 75, 76, 77, 78, 79, 80, 81, 82, 83, 84, 85] V V23 := agV21.up hV23 rfl
      refine lv_aload_n hx hb dX5_push_128 rfl (lv_at hl 1 rfl) ?_
      refine lv_iconst (v := 0) hx hb dX5_push_129 (by decide) ?_
      refine va_put (D := D) (ci := 5) (v := .int 0) (ty := tyX5 9) (fs := (xfMachine ad V23 L Z)) (C := RX5) (T := TX5) (N := 15) hx hb hg inX5 tyX5 tyX5_ok nmX5 hown hK hP hD hS 5 xgMachine rfl 9 (by decide) (hg _ w676) (fun _ h9 => h9) rfl (tyX5_ok 9 (by decide)) rfl rfl (Nat.le_of_ble_eq_true rfl) dX5_push_130 (fun H locs hP hD hS => ?_)
      obtain ⟨V25, hV25⟩ : ∃ z, z = up2 V23 5 9 0 := ⟨_, rfl⟩
      have ew26 : (xw ad kk V23 L Z).set 5 ((ad 5), .inr (5, (xfMachine ad V23 L Z).set 9 (.int 0))) = xw ad kk V25 L Z := by rw [hV25]; exact xw_ss (by decide) rfl (xb_si (by decide))
      have hP : va_P D vwCl (xw ad kk V25 L Z) H := by rw [← ew26]; exact hP
      have hD : va_D A (xw ad kk V25 L Z) := by rw [← ew26]; exact hD
      have hMV25 : rgd bX V25 := hMV23.put hV25 (by decide)
      have agV25 : agr [(5, 6), (5, 9)] [67, 68, 69, 70, 71, 72, 73, 74, 75, 76, 77, 78, 79, 80, 81, 82, 83, 84, 85] V V25 := agV23.up hV25 rfl
      refine lv_aload hx hb dX5_push_133 (lv_at hl 0 rfl) ?_
      have pq27 : (V25 5 6).toInt = ((V 5 6)).toInt := congrArg Int32.toInt ((up2_k hV25 (by decide)).trans ((up2_o hV23 (by decide)).trans ((up2_o hV21 (by decide)).trans ((up2_o hV19 (by decide)).trans ((up2_o hV17 (by decide)).trans ((up2_o hV15 (by decide)).trans ((up2_o hV13 (by decide)).trans ((up2_o hV11 (by decide)).trans ((up2_o hV9 (by decide)).trans (up2_o hV7 (by decide)))))))))))
      have pq28 : (V25 5 9).toInt = 0 := (congrArg Int32.toInt (up2_s hV25)).trans (by decide)
      have me29 : ME V V25 399 := (ME.up (ME.up (ME.up (ME.up (ME.up (ME.up (ME.up (ME.up (ME.up (ME.up ME.rf hV7 (Or.inl ⟨by decide, by decide, Nat.le_refl _⟩)) hV9 (Or.inl ⟨by decide, by decide, Nat.le_refl _⟩)) hV11 (Or.inl ⟨by decide, by decide, Nat.le_refl _⟩)) hV13 (Or.inl ⟨by decide, by decide, Nat.le_refl _⟩)) hV15 (Or.inl ⟨by decide, by decide, Nat.le_refl _⟩)) hV17 (Or.inl ⟨by decide, by decide, Nat.le_refl _⟩)) hV19 (Or.inl ⟨by decide, by decide, Nat.le_refl _⟩)) hV21 (Or.inl ⟨by decide, by decide, Nat.le_refl _⟩)) hV23 (Or.inl ⟨by decide, by decide, Nat.le_refl _⟩)) hV25 (Or.inr (by omega)))
      have rp30 : Z.ln = Z.ln ∧ Z.nf ≤ 400 := ⟨rfl, by omega⟩
      refine W.know (fun kr1 kr2 => ?_)
      refine W.widen (k := zcc Z) (n := zss Z) (Nat.sub_le _ _) (Nat.sub_le _ _) ?_
      exact W.aret (v := .ref (Z.fa 399)) hx hb hr (Or.inl ⟨_, rfl⟩) (Or.inr ⟨_, rfl⟩) (fun t ht hW => ⟨⟨(V25, L, Z, 399), rfl, ⟨hMV25, agV25, rfl, zoZ, il6, me29, ⟨((up2_o hV25 (by decide)).trans ((up2_o hV23 (by decide)).trans ((up2_o hV21 (by decide)).trans ((up2_o hV19 (by decide)).trans ((up2_o hV17 (by decide)).trans ((up2_o hV15 (by decide)).trans ((up2_o hV13 (by decide)).trans ((up2_o hV11 (by decide)).trans ((up2_o hV9 (by decide)).trans (up2_s hV7)))))))))), ((up2_o hV25 (by decide)).trans ((up2_o hV23 (by decide)).trans ((up2_o hV21 (by decide)).trans ((up2_o hV19 (by decide)).trans ((up2_o hV17 (by decide)).trans ((up2_o hV15 (by decide)).trans ((up2_o hV13 (by decide)).trans ((up2_o hV11 (by decide)).trans (up2_s hV9))))))))), ((up2_o hV25 (by decide)).trans ((up2_o hV23 (by decide)).trans ((up2_o hV21 (by decide)).trans ((up2_o hV19 (by decide)).trans ((up2_o hV17 (by decide)).trans ((up2_o hV15 (by decide)).trans (up2_s hV13))))))), ((up2_o hV25 (by decide)).trans ((up2_o hV23 (by decide)).trans ((up2_o hV21 (by decide)).trans ((up2_o hV19 (by decide)).trans ((up2_o hV17 (by decide)).trans (up2_s hV15)))))), ((up2_o hV25 (by decide)).trans ((up2_o hV23 (by decide)).trans ((up2_o hV21 (by decide)).trans (up2_s hV19)))), ((up2_o hV25 (by decide)).trans ((up2_o hV23 (by decide)).trans (up2_s hV21)))⟩, (show (399 : Int) + 1 = (V25 5 6).toInt from by (first | exact om_0ad81450c1c5 r1.2 f3 pq27 | omega)), (show (399 : Int) ≤ (V 5 6).toInt ∧ (V 5 6).toInt ≤ (399 : Int) + 1 from by (first | exact om_67f84156d2ff r1.2 f3 | omega)), (show (V25 5 9).toInt = 0 from by (first | exact om_b66ba74381d5 pq28 | omega)), rp30⟩, ⟨by rw [ht]; exact hP, va_K.moved hW.alike hK, hD⟩, by rw [ht]; exact kr1, by rw [ht]; exact kr2⟩, hS.F ht⟩) hS.2.2 dX5_push_135
    · skip
      have f31 : ((V 5 6)).toInt < 400 := b_nle (by decide) rfl c4
      exfalso; (first | exact om_71687dbe419e f3 f31 | omega)
  · skip
    have f32 : ((V 5 6)).toInt < 400 := b_nle (by decide) rfl c2
    refine lv_aload_n hx hb dX5_push_10 rfl (lv_at hl 0 rfl) ?_
    refine va_get (D := D) (ci := 5) (v := .ref (ad 35)) (fs := (xfMachine ad V L Z)) (C := RX5) (T := TX5) (N := 15) hx hb hg inX5 hown hK hP 5 xgMachine rfl 2 (by decide) (hg _ w669) (fun _ h9 => h9) rfl dX5_push_11 ?_
    refine lv_aload_n hx hb dX5_push_14 rfl (lv_at hl 0 rfl) ?_
    refine va_get (D := D) (ci := 5) (v := .int (V 5 6)) (fs := (xfMachine ad V L Z)) (C := RX5) (T := TX5) (N := 15) hx hb hg inX5 hown hK hP 5 xgMachine rfl 6 (by decide) (hg _ w673) (fun _ h9 => h9) rfl dX5_push_15 ?_
    refine va_aldq (D := D) (i := (V 5 6)) hx hb hK hP 35 28 rfl rfl (i_in (a := ((V 5 6)).toInt) rfl (by (first | exact om_d5d4521689a6 r1.1 f32 | omega))) dX5_push_18 ?_
    have kc33 := i_clamp (x := (V 5 6)) rfl (by (first | exact om_eafa9039069c r1.1 | omega))
    by_cases hfn : (Int32.toNatClampNeg (V 5 6)) < Z.nf
    · skip
      refine g_topv (v := .ref (Z.fa (Int32.toNatClampNeg (V 5 6)))) (congrArg va_rf (if_pos hfn)) ?_
      refine lv_ifnonnull (tgt := 38) hx hb dX5_push_19 (by decide) ?_
      refine lv_aload_n hx hb dX5_push_38 rfl (lv_at hl 0 rfl) ?_
      refine va_get (D := D) (ci := 5) (v := .ref (ad 35)) (fs := (xfMachine ad V L Z)) (C := RX5) (T := TX5) (N := 15) hx hb hg inX5 hown hK hP 5 xgMachine rfl 2 (by decide) (hg _ w669) (fun _ h9 => h9) rfl dX5_push_39 ?_
      refine lv_aload_n hx hb dX5_push_42 rfl (lv_at hl 0 rfl) ?_
      refine va_get (D := D) (ci := 5) (v := .int (V 5 6)) (fs := (xfMachine ad V L Z)) (C := RX5) (T := TX5) (N := 15) hx hb hg inX5 hown hK hP 5 xgMachine rfl 6 (by decide) (hg _ w673) (fun _ h9 => h9) rfl dX5_push_43 ?_
      refine lv_sipush (v := 400) hx hb dX5_push_46 (by decide) ?_
      refine lv_icmp_ge (tgt := 66) hx hb dX5_push_49 (by decide) (fun c34 => ?_) (fun c34 => ?_)
      · skip
        have f35 : 400 ≤ ((V 5 6)).toInt := b_le (by decide) rfl c34
        exfalso; (first | exact om_f1788462d221 f32 f35 | omega)
      · skip
        have f36 : ((V 5 6)).toInt < 400 := b_nle (by decide) rfl c34
        refine lv_aload_n hx hb dX5_push_52 rfl (lv_at hl 0 rfl) ?_
        refine lv_dup hx hb dX5_push_53 rfl ?_
        refine va_get (D := D) (ci := 5) (v := .int (V 5 6)) (fs := (xfMachine ad V L Z)) (C := RX5) (T := TX5) (N := 15) hx hb hg inX5 hown hK hP 5 xgMachine rfl 6 (by decide) (hg _ w673) (fun _ h9 => h9) rfl dX5_push_54 ?_
        refine lv_dup_x1 hx hb dX5_push_57 rfl rfl ?_
        refine lv_iconst (v := 1) hx hb dX5_push_58 (by decide) ?_
        refine lv_iadd hx hb dX5_push_59 ?_
        refine lv_topi (fun z37 ez37 => ?_)
        have hz37 : z37.toInt = ((V 5 6)).toInt + 1 := i_add ez37 rfl (by decide) (by (first | exact om_8a7a47e90f89 r1.1 f32 | omega))
        refine va_put (D := D) (ci := 5) (v := .int z37) (ty := tyX5 6) (fs := (xfMachine ad V L Z)) (C := RX5) (T := TX5) (N := 15) hx hb hg inX5 tyX5 tyX5_ok nmX5 hown hK hP hD hS 5 xgMachine rfl 6 (by decide) (hg _ w673) (fun _ h9 => h9) rfl (tyX5_ok 6 (by decide)) rfl rfl (Nat.le_of_ble_eq_true rfl) dX5_push_60 (fun H locs hP hD hS => ?_)
        obtain ⟨V38, hV38⟩ : ∃ z, z = up2 V 5 6 z37 := ⟨_, rfl⟩
        have ew39 : (xw ad kk V L Z).set 5 ((ad 5), .inr (5, (xfMachine ad V L Z).set 6 (.int z37))) = xw ad kk V38 L Z := by rw [hV38]; exact xw_ss (by decide) rfl (xb_si (by decide))
        have hP : va_P D vwCl (xw ad kk V38 L Z) H := by rw [← ew39]; exact hP
        have hD : va_D A (xw ad kk V38 L Z) := by rw [← ew39]; exact hD
        have hMV38 : rgd bX V38 := hMV.put hV38 (show 0 ≤ z37.toInt ∧ z37.toInt ≤ 400 from by (first | exact om_fe57dcb39c04 r1.1 f32 hz37 | omega))
        have agV38 : agr [(5, 6), (5, 9)] [67, 68, 69, 70, 71, 72, 73, 74, 75, 76, 77, 78, 79, 80, 81, 82, 83, 84, 85] V V38 := agV.up hV38 rfl
        refine lv_goto (tgt := 69) hx hb dX5_push_63 (by decide) ?_
        refine va_aldq (D := D) (i := (V 5 6)) hx hb hK hP 35 28 rfl rfl (i_in (a := ((V 5 6)).toInt) rfl (by (first | exact om_d5d4521689a6 r1.1 f32 | omega))) dX5_push_69 ?_
        refine g_topv (v := .ref (Z.fa (Int32.toNatClampNeg (V 5 6)))) (by exact congrArg va_rf (if_pos (by omega))) ?_
        have il40 : (Int32.toNatClampNeg (V 5 6)) < Z.nf := by omega
        refine lv_astore (lv' := [(6, .ref (Z.fa (Int32.toNatClampNeg (V 5 6)))), (0, .ref (ad 5)), (1, .int p0), (2, .int p1), (3, .int p2), (4, .int p3), (5, .int p4)]) hx hb dX5_push_70 hl (by decide) rfl (fun ls hl => ?_)
        refine lv_aload hx hb dX5_push_72 (lv_at hl 0 rfl) ?_
        refine lv_iload_n hx hb dX5_push_74 rfl (lv_at hl 2 rfl) ?_
        refine va_putN (D := D) (ci := 4) (v := .int p0) (ty := tyX4 0) (fs := (xfFrame V38 (Int32.toNatClampNeg (V 5 6)))) (C := RX4) (T := TX4) (N := 19) hx hb hg inX4 tyX4 tyX4_ok nmX4 hown hK hP hD hS (336 + (Int32.toNatClampNeg (V 5 6))) (xgFrame il40) rfl 0 (by decide) (hnw.use 1189 n1189 rfl) (fun _ h9 => h9) rfl (tyX4_ok 0 (by decide)) rfl rfl (Nat.le_of_ble_eq_true rfl) dX5_push_75 (fun H locs hP hD hS => ?_)
        obtain ⟨V41, hV41⟩ : ∃ z, z = up2 V38 67 (Int32.toNatClampNeg (V 5 6)) p0 := ⟨_, rfl⟩
        have ew42 : (xw ad kk V38 L Z).set (336 + (Int32.toNatClampNeg (V 5 6))) ((Z.fa (Int32.toNatClampNeg (V 5 6))), .inr (4, (xfFrame V38 (Int32.toNatClampNeg (V 5 6))).set 0 (.int p0))) = xw ad kk V41 L Z := by rw [hV41]; exact xpFrame_kind il40
        have hP : va_P D vwCl (xw ad kk V41 L Z) H := by rw [← ew42]; exact hP
        have hD : va_D A (xw ad kk V41 L Z) := by rw [← ew42]; exact hD
        have hMV41 : rgd bX V41 := hMV38.put hV41 (i_full _)
        have agV41 : agr [(5, 6), (5, 9)] [67, 68, 69, 70, 71, 72, 73, 74, 75, 76, 77, 78, 79, 80, 81, 82, 83, 84, 85] V V41 := agV38.up hV41 rfl
        refine lv_aload hx hb dX5_push_78 (lv_at hl 0 rfl) ?_
        refine lv_iconst (v := 0) hx hb dX5_push_80 (by decide) ?_
        refine va_putN (D := D) (ci := 4) (v := .int 0) (ty := tyX4 1) (fs := (xfFrame V41 (Int32.toNatClampNeg (V 5 6)))) (C := RX4) (T := TX4) (N := 19) hx hb hg inX4 tyX4 tyX4_ok nmX4 hown hK hP hD hS (336 + (Int32.toNatClampNeg (V 5 6))) (xgFrame il40) rfl 1 (by decide) (hnw.use 1190 n1190 rfl) (fun _ h9 => h9) rfl (tyX4_ok 1 (by decide)) rfl rfl (Nat.le_of_ble_eq_true rfl) dX5_push_81 (fun H locs hP hD hS => ?_)
        obtain ⟨V43, hV43⟩ : ∃ z, z = up2 V41 68 (Int32.toNatClampNeg (V 5 6)) 0 := ⟨_, rfl⟩
        have ew44 : (xw ad kk V41 L Z).set (336 + (Int32.toNatClampNeg (V 5 6))) ((Z.fa (Int32.toNatClampNeg (V 5 6))), .inr (4, (xfFrame V41 (Int32.toNatClampNeg (V 5 6))).set 1 (.int 0))) = xw ad kk V43 L Z := by rw [hV43]; exact xpFrame_phase il40
        have hP : va_P D vwCl (xw ad kk V43 L Z) H := by rw [← ew44]; exact hP
        have hD : va_D A (xw ad kk V43 L Z) := by rw [← ew44]; exact hD
        have hMV43 : rgd bX V43 := hMV41.put hV43 (i_full _)
        have agV43 : agr [(5, 6), (5, 9)] [67, 68, 69, 70, 71, 72, 73, 74, 75, 76, 77, 78, 79, 80, 81, 82, 83, 84, 85] V V43 := agV41.up hV43 rfl
        refine lv_aload hx hb dX5_push_84 (lv_at hl 0 rfl) ?_
        refine lv_iload_n hx hb dX5_push_86 rfl (lv_at hl 3 rfl) ?_
        refine va_putN (D := D) (ci := 4) (v := .int p1) (ty := tyX4 2) (fs := (xfFrame V43 (Int32.toNatClampNeg (V 5 6)))) (C := RX4) (T := TX4) (N := 19) hx hb hg inX4 tyX4 tyX4_ok nmX4 hown hK hP hD hS (336 + (Int32.toNatClampNeg (V 5 6))) (xgFrame il40) rfl 2 (by decide) (hnw.use 1191 n1191 rfl) (fun _ h9 => h9) rfl (tyX4_ok 2 (by decide)) rfl rfl (Nat.le_of_ble_eq_true rfl) dX5_push_87 (fun H locs hP hD hS => ?_)
        obtain ⟨V45, hV45⟩ : ∃ z, z = up2 V43 69 (Int32.toNatClampNeg (V 5 6)) p1 := ⟨_, rfl⟩
        have ew46 : (xw ad kk V43 L Z).set (336 + (Int32.toNatClampNeg (V 5 6))) ((Z.fa (Int32.toNatClampNeg (V 5 6))), .inr (4, (xfFrame V43 (Int32.toNatClampNeg (V 5 6))).set 2 (.int p1))) = xw ad kk V45 L Z := by rw [hV45]; exact xpFrame_level il40
        have hP : va_P D vwCl (xw ad kk V45 L Z) H := by rw [← ew46]; exact hP
        have hD : va_D A (xw ad kk V45 L Z) := by rw [← ew46]; exact hD
        have hMV45 : rgd bX V45 := hMV43.put hV45 (i_full _)
        have agV45 : agr [(5, 6), (5, 9)] [67, 68, 69, 70, 71, 72, 73, 74, 75, 76, 77, 78, 79, 80, 81, 82, 83, 84, 85] V V45 := agV43.up hV45 rfl
        refine lv_aload hx hb dX5_push_90 (lv_at hl 0 rfl) ?_
        refine lv_iload_n hx hb dX5_push_92 rfl (lv_at hl 4 rfl) ?_
        refine va_putN (D := D) (ci := 4) (v := .int p2) (ty := tyX4 3) (fs := (xfFrame V45 (Int32.toNatClampNeg (V 5 6)))) (C := RX4) (T := TX4) (N := 19) hx hb hg inX4 tyX4 tyX4_ok nmX4 hown hK hP hD hS (336 + (Int32.toNatClampNeg (V 5 6))) (xgFrame il40) rfl 3 (by decide) (hnw.use 1192 n1192 rfl) (fun _ h9 => h9) rfl (tyX4_ok 3 (by decide)) rfl rfl (Nat.le_of_ble_eq_true rfl) dX5_push_93 (fun H locs hP hD hS => ?_)
        obtain ⟨V47, hV47⟩ : ∃ z, z = up2 V45 70 (Int32.toNatClampNeg (V 5 6)) p2 := ⟨_, rfl⟩
        have ew48 : (xw ad kk V45 L Z).set (336 + (Int32.toNatClampNeg (V 5 6))) ((Z.fa (Int32.toNatClampNeg (V 5 6))), .inr (4, (xfFrame V45 (Int32.toNatClampNeg (V 5 6))).set 3 (.int p2))) = xw ad kk V47 L Z := by rw [hV47]; exact xpFrame_object il40
        have hP : va_P D vwCl (xw ad kk V47 L Z) H := by rw [← ew48]; exact hP
        have hD : va_D A (xw ad kk V47 L Z) := by rw [← ew48]; exact hD
        have hMV47 : rgd bX V47 := hMV45.put hV47 (i_full _)
        have agV47 : agr [(5, 6), (5, 9)] [67, 68, 69, 70, 71, 72, 73, 74, 75, 76, 77, 78, 79, 80, 81, 82, 83, 84, 85] V V47 := agV45.up hV47 rfl
        refine lv_aload hx hb dX5_push_96 (lv_at hl 0 rfl) ?_
        refine lv_iload hx hb dX5_push_98 (lv_at hl 5 rfl) ?_
        refine va_putN (D := D) (ci := 4) (v := .int p3) (ty := tyX4 4) (fs := (xfFrame V47 (Int32.toNatClampNeg (V 5 6)))) (C := RX4) (T := TX4) (N := 19) hx hb hg inX4 tyX4 tyX4_ok nmX4 hown hK hP hD hS (336 + (Int32.toNatClampNeg (V 5 6))) (xgFrame il40) rfl 4 (by decide) (hnw.use 1193 n1193 rfl) (fun _ h9 => h9) rfl (tyX4_ok 4 (by decide)) rfl rfl (Nat.le_of_ble_eq_true rfl) dX5_push_100 (fun H locs hP hD hS => ?_)
        obtain ⟨V49, hV49⟩ : ∃ z, z = up2 V47 71 (Int32.toNatClampNeg (V 5 6)) p3 := ⟨_, rfl⟩
        have ew50 : (xw ad kk V47 L Z).set (336 + (Int32.toNatClampNeg (V 5 6))) ((Z.fa (Int32.toNatClampNeg (V 5 6))), .inr (4, (xfFrame V47 (Int32.toNatClampNeg (V 5 6))).set 4 (.int p3))) = xw ad kk V49 L Z := by rw [hV49]; exact xpFrame_component il40
        have hP : va_P D vwCl (xw ad kk V49 L Z) H := by rw [← ew50]; exact hP
        have hD : va_D A (xw ad kk V49 L Z) := by rw [← ew50]; exact hD
        have hMV49 : rgd bX V49 := hMV47.put hV49 (show (-1) ≤ p3.toInt ∧ p3.toInt ≤ 23 from by (first | exact om_b5ea211f5a81 rg_p3.1 rg_p3.2 | omega))
        have agV49 : agr [(5, 6), (5, 9)] [67, 68, 69, 70, 71, 72, 73, 74, 75, 76, 77, 78, 79, 80, 81, 82, 83, 84, 85] V V49 := agV47.up hV49 rfl
        refine lv_aload hx hb dX5_push_103 (lv_at hl 0 rfl) ?_
        refine lv_iload hx hb dX5_push_105 (lv_at hl 6 rfl) ?_
        refine va_putN (D := D) (ci := 4) (v := .int p4) (ty := tyX4 5) (fs := (xfFrame V49 (Int32.toNatClampNeg (V 5 6)))) (C := RX4) (T := TX4) (N := 19) hx hb hg inX4 tyX4 tyX4_ok nmX4 hown hK hP hD hS (336 + (Int32.toNatClampNeg (V 5 6))) (xgFrame il40) rfl 5 (by decide) (hnw.use 1194 n1194 rfl) (fun _ h9 => h9) rfl (tyX4_ok 5 (by decide)) rfl rfl (Nat.le_of_ble_eq_true rfl) dX5_push_107 (fun H locs hP hD hS => ?_)
        obtain ⟨V51, hV51⟩ : ∃ z, z = up2 V49 72 (Int32.toNatClampNeg (V 5 6)) p4 := ⟨_, rfl⟩
        have ew52 : (xw ad kk V49 L Z).set (336 + (Int32.toNatClampNeg (V 5 6))) ((Z.fa (Int32.toNatClampNeg (V 5 6))), .inr (4, (xfFrame V49 (Int32.toNatClampNeg (V 5 6))).set 5 (.int p4))) = xw ad kk V51 L Z := by rw [hV51]; exact xpFrame_scope il40
        have hP : va_P D vwCl (xw ad kk V51 L Z) H := by rw [← ew52]; exact hP
        have hD : va_D A (xw ad kk V51 L Z) := by rw [← ew52]; exact hD
        have hMV51 : rgd bX V51 := hMV49.put hV51 (show 0 ≤ p4.toInt ∧ p4.toInt ≤ 39 from by (first | exact om_13ba01c174fe rg_p4.1 rg_p4.2 | omega))
        have agV51 : agr [(5, 6), (5, 9)] [67, 68, 69, 70, 71, 72, 73, 74, 75, 76, 77, 78, 79, 80, 81, 82, 83, 84, 85] V V51 := agV49.up hV51 rfl
        refine lv_aload hx hb dX5_push_110 (lv_at hl 0 rfl) ?_
        refine lv_iconst (v := 0) hx hb dX5_push_112 (by decide) ?_
        refine va_putN (D := D) (ci := 4) (v := .int 0) (ty := tyX4 8) (fs := (xfFrame V51 (Int32.toNatClampNeg (V 5 6)))) (C := RX4) (T := TX4) (N := 19) hx hb hg inX4 tyX4 tyX4_ok nmX4 hown hK hP hD hS (336 + (Int32.toNatClampNeg (V 5 6))) (xgFrame il40) rfl 8 (by decide) (hnw.use 1197 n1197 rfl) (fun _ h9 => h9) rfl (tyX4_ok 8 (by decide)) rfl rfl (Nat.le_of_ble_eq_true rfl) dX5_push_113 (fun H locs hP hD hS => ?_)
        obtain ⟨V53, hV53⟩ : ∃ z, z = up2 V51 75 (Int32.toNatClampNeg (V 5 6)) 0 := ⟨_, rfl⟩
        have ew54 : (xw ad kk V51 L Z).set (336 + (Int32.toNatClampNeg (V 5 6))) ((Z.fa (Int32.toNatClampNeg (V 5 6))), .inr (4, (xfFrame V51 (Int32.toNatClampNeg (V 5 6))).set 8 (.int 0))) = xw ad kk V53 L Z := by rw [hV53]; exact xpFrame_position il40
        have hP : va_P D vwCl (xw ad kk V53 L Z) H := by rw [← ew54]; exact hP
        have hD : va_D A (xw ad kk V53 L Z) := by rw [← ew54]; exact hD
        have hMV53 : rgd bX V53 := hMV51.put hV53 (show 0 ≤ Int32.toInt 0 ∧ Int32.toInt 0 ≤ 12 from by decide)
        have agV53 : agr [(5, 6), (5, 9)] [67, 68, 69, 70, 71, 72, 73, 74, 75, 76, 77, 78, 79, 80, 81, 82, 83, 84, 85] V V53 := agV51.up hV53 rfl
        refine lv_aload hx hb dX5_push_116 (lv_at hl 0 rfl) ?_
        refine lv_iconst (v := 0) hx hb dX5_push_118 (by decide) ?_
        refine va_putN (D := D) (ci := 4) (v := .int 0) (ty := tyX4 9) (fs := (xfFrame V53 (Int32.toNatClampNeg (V 5 6)))) (C := RX4) (T := TX4) (N := 19) hx hb hg inX4 tyX4 tyX4_ok nmX4 hown hK hP hD hS (336 + (Int32.toNatClampNeg (V 5 6))) (xgFrame il40) rfl 9 (by decide) (hnw.use 1198 n1198 rfl) (fun _ h9 => h9) rfl (tyX4_ok 9 (by decide)) rfl rfl (Nat.le_of_ble_eq_true rfl) dX5_push_119 (fun H locs hP hD hS => ?_)
        obtain ⟨V55, hV55⟩ : ∃ z, z = up2 V53 76 (Int32.toNatClampNeg (V 5 6)) 0 := ⟨_, rfl⟩
        have ew56 : (xw ad kk V53 L Z).set (336 + (Int32.toNatClampNeg (V 5 6))) ((Z.fa (Int32.toNatClampNeg (V 5 6))), .inr (4, (xfFrame V53 (Int32.toNatClampNeg (V 5 6))).set 9 (.int 0))) = xw ad kk V55 L Z := by rw [hV55]; exact xpFrame_item il40
        have hP : va_P D vwCl (xw ad kk V55 L Z) H := by rw [← ew56]; exact hP
        have hD : va_D A (xw ad kk V55 L Z) := by rw [← ew56]; exact hD
        have hMV55 : rgd bX V55 := hMV53.put hV55 (i_full _)
        have agV55 : agr [(5, 6), (5, 9)] [67, 68, 69, 70, 71, 72, 73, 74, 75, 76, 77, 78, 79, 80, 81, 82, 83, 84, 85] V V55 := agV53.up hV55 rfl
        refine lv_aload hx hb dX5_push_122 (lv_at hl 0 rfl) ?_
        refine lv_iconst (v := 0) hx hb dX5_push_124 (by decide) ?_
        refine va_putN (D := D) (ci := 4) (v := .int 0) (ty := tyX4 16) (fs := (xfFrame V55 (Int32.toNatClampNeg (V 5 6)))) (C := RX4) (T := TX4) (N := 19) hx hb hg inX4 tyX4 tyX4_ok nmX4 hown hK hP hD hS (336 + (Int32.toNatClampNeg (V 5 6))) (xgFrame il40) rfl 16 (by decide) (hnw.use 1205 n1205 rfl) (fun _ h9 => h9) rfl (tyX4_ok 16 (by decide)) rfl rfl (Nat.le_of_ble_eq_true rfl) dX5_push_125 (fun H locs hP hD hS => ?_)
        obtain ⟨V57, hV57⟩ : ∃ z, z = up2 V55 83 (Int32.toNatClampNeg (V 5 6)) 0 := ⟨_, rfl⟩
        have ew58 : (xw ad kk V55 L Z).set (336 + (Int32.toNatClampNeg (V 5 6))) ((Z.fa (Int32.toNatClampNeg (V 5 6))), .inr (4, (xfFrame V55 (Int32.toNatClampNeg (V 5 6))).set 16 (.int 0))) = xw ad kk V57 L Z := by rw [hV57]; exact xpFrame_spent il40
        have hP : va_P D vwCl (xw ad kk V57 L Z) H := by rw [← ew58]; exact hP
        have hD : va_D A (xw ad kk V57 L Z) := by rw [← ew58]; exact hD
        have hMV57 : rgd bX V57 := hMV55.put hV57 (show 0 ≤ Int32.toInt 0 ∧ Int32.toInt 0 ≤ 1 from by decide)
        have agV57 : agr [(5, 6), (5, 9)] [67, 68, 69, 70, 71, 72, 73, 74, 75, 76, 77, 78, 79, 80, 81, 82, 83, 84, 85] V V57 := agV55.up hV57 rfl
        refine lv_aload_n hx hb dX5_push_128 rfl (lv_at hl 1 rfl) ?_
        refine lv_iconst (v := 0) hx hb dX5_push_129 (by decide) ?_
        refine va_put (D := D) (ci := 5) (v := .int 0) (ty := tyX5 9) (fs := (xfMachine ad V57 L Z)) (C := RX5) (T := TX5) (N := 15) hx hb hg inX5 tyX5 tyX5_ok nmX5 hown hK hP hD hS 5 xgMachine rfl 9 (by decide) (hg _ w676) (fun _ h9 => h9) rfl (tyX5_ok 9 (by decide)) rfl rfl (Nat.le_of_ble_eq_true rfl) dX5_push_130 (fun H locs hP hD hS => ?_)
        obtain ⟨V59, hV59⟩ : ∃ z, z = up2 V57 5 9 0 := ⟨_, rfl⟩
        have ew60 : (xw ad kk V57 L Z).set 5 ((ad 5), .inr (5, (xfMachine ad V57 L Z).set 9 (.int 0))) = xw ad kk V59 L Z := by rw [hV59]; exact xw_ss (by decide) rfl (xb_si (by decide))
        have hP : va_P D vwCl (xw ad kk V59 L Z) H := by rw [← ew60]; exact hP
        have hD : va_D A (xw ad kk V59 L Z) := by rw [← ew60]; exact hD
        have hMV59 : rgd bX V59 := hMV57.put hV59 (by decide)
        have agV59 : agr [(5, 6), (5, 9)] [67, 68, 69, 70, 71, 72, 73, 74, 75, 76, 77, 78, 79, 80, 81, 82, 83, 84, 85] V V59 := agV57.up hV59 rfl
        refine lv_aload hx hb dX5_push_133 (lv_at hl 0 rfl) ?_
        have pq61 : (V59 5 6).toInt = z37.toInt := congrArg Int32.toInt ((up2_k hV59 (by decide)).trans ((up2_o hV57 (by decide)).trans ((up2_o hV55 (by decide)).trans ((up2_o hV53 (by decide)).trans ((up2_o hV51 (by decide)).trans ((up2_o hV49 (by decide)).trans ((up2_o hV47 (by decide)).trans ((up2_o hV45 (by decide)).trans ((up2_o hV43 (by decide)).trans ((up2_o hV41 (by decide)).trans (up2_s hV38)))))))))))
        have pq62 : (V59 5 9).toInt = 0 := (congrArg Int32.toInt (up2_s hV59)).trans (by decide)
        have me63 : ME V V59 (Int32.toNatClampNeg (V 5 6)) := (ME.up (ME.up (ME.up (ME.up (ME.up (ME.up (ME.up (ME.up (ME.up (ME.up (ME.up ME.rf hV38 (Or.inr (by omega))) hV41 (Or.inl ⟨by decide, by decide, Nat.le_refl _⟩)) hV43 (Or.inl ⟨by decide, by decide, Nat.le_refl _⟩)) hV45 (Or.inl ⟨by decide, by decide, Nat.le_refl _⟩)) hV47 (Or.inl ⟨by decide, by decide, Nat.le_refl _⟩)) hV49 (Or.inl ⟨by decide, by decide, Nat.le_refl _⟩)) hV51 (Or.inl ⟨by decide, by decide, Nat.le_refl _⟩)) hV53 (Or.inl ⟨by decide, by decide, Nat.le_refl _⟩)) hV55 (Or.inl ⟨by decide, by decide, Nat.le_refl _⟩)) hV57 (Or.inl ⟨by decide, by decide, Nat.le_refl _⟩)) hV59 (Or.inr (by omega)))
        have rp64 : Z.ln = Z.ln ∧ Z.nf ≤ 400 := ⟨rfl, by omega⟩
        refine W.know (fun kr1 kr2 => ?_)
        refine W.widen (k := zcc Z) (n := zss Z) (Nat.sub_le _ _) (Nat.sub_le _ _) ?_
        exact W.aret (v := .ref (Z.fa (Int32.toNatClampNeg (V 5 6)))) hx hb hr (Or.inl ⟨_, rfl⟩) (Or.inr ⟨_, rfl⟩) (fun t ht hW => ⟨⟨(V59, L, Z, (Int32.toNatClampNeg (V 5 6))), rfl, ⟨hMV59, agV59, rfl, zoZ, il40, me63, ⟨((up2_o hV59 (by decide)).trans ((up2_o hV57 (by decide)).trans ((up2_o hV55 (by decide)).trans ((up2_o hV53 (by decide)).trans ((up2_o hV51 (by decide)).trans ((up2_o hV49 (by decide)).trans ((up2_o hV47 (by decide)).trans ((up2_o hV45 (by decide)).trans ((up2_o hV43 (by decide)).trans (up2_s hV41)))))))))), ((up2_o hV59 (by decide)).trans ((up2_o hV57 (by decide)).trans ((up2_o hV55 (by decide)).trans ((up2_o hV53 (by decide)).trans ((up2_o hV51 (by decide)).trans ((up2_o hV49 (by decide)).trans ((up2_o hV47 (by decide)).trans ((up2_o hV45 (by decide)).trans (up2_s hV43))))))))), ((up2_o hV59 (by decide)).trans ((up2_o hV57 (by decide)).trans ((up2_o hV55 (by decide)).trans ((up2_o hV53 (by decide)).trans ((up2_o hV51 (by decide)).trans ((up2_o hV49 (by decide)).trans (up2_s hV47))))))), ((up2_o hV59 (by decide)).trans ((up2_o hV57 (by decide)).trans ((up2_o hV55 (by decide)).trans ((up2_o hV53 (by decide)).trans ((up2_o hV51 (by decide)).trans (up2_s hV49)))))), ((up2_o hV59 (by decide)).trans ((up2_o hV57 (by decide)).trans ((up2_o hV55 (by decide)).trans (up2_s hV53)))), ((up2_o hV59 (by decide)).trans ((up2_o hV57 (by decide)).trans (up2_s hV55)))⟩, (show ((Int32.toNatClampNeg (V 5 6)) : Int) + 1 = (V59 5 6).toInt from by (first | exact om_b4017f2d8f07 kc33 hz37 pq61 | omega)), (show ((Int32.toNatClampNeg (V 5 6)) : Int) ≤ (V 5 6).toInt ∧ (V 5 6).toInt ≤ ((Int32.toNatClampNeg (V 5 6)) : Int) + 1 from by (first | exact om_ceb1c66e0444 kc33 | omega)), (show (V59 5 9).toInt = 0 from by (first | exact om_b66ba74381d5 pq62 | omega)), rp64⟩, ⟨by rw [ht]; exact hP, va_K.moved hW.alike hK, hD⟩, by rw [ht]; exact kr1, by rw [ht]; exact kr2⟩, hS.F ht⟩) hS.2.2 dX5_push_135
    · skip
      refine g_topv (v := .null) (congrArg va_rf (if_neg hfn)) ?_
      refine lv_ifnonnullN hx hb dX5_push_19 ?_
      refine lv_aload_n hx hb dX5_push_22 rfl (lv_at hl 0 rfl) ?_
      refine va_get (D := D) (ci := 5) (v := .ref (ad 35)) (fs := (xfMachine ad V L Z)) (C := RX5) (T := TX5) (N := 15) hx hb hg inX5 hown hK hP 5 xgMachine rfl 2 (by decide) (hg _ w669) (fun _ h9 => h9) rfl dX5_push_23 ?_
      refine lv_aload_n hx hb dX5_push_26 rfl (lv_at hl 0 rfl) ?_
      refine va_get (D := D) (ci := 5) (v := .int (V 5 6)) (fs := (xfMachine ad V L Z)) (C := RX5) (T := TX5) (N := 15) hx hb hg inX5 hown hK hP 5 xgMachine rfl 6 (by decide) (hg _ w673) (fun _ h9 => h9) rfl dX5_push_27 ?_
      have zm := zc_more (Z := Z) (by omega)
      have zm0 := zm 0
      refine va_new (ci := 4) (fs := [.int 0, .int 0, .int 0, .int 0, .int 0, .int 0, .int 0, .int 0, .int 0, .int 0, .int 0, .int 0, .int 0, .int 0, .int 0, .int 0, .int 0, .int 0, .int 0]) (C := RX4) (T := TX4) (N := 19) hx hb hg inX4 tyX4 tyX4_ok hown (hg _ w665) (hg _ w1184) (hg _ w180) hK hP hD hS hA rfl nfX4 (by show zcc Z - zcc Z + 1 ≤ zcc Z; omega) (by show zss Z - zss Z + 19 ≤ zss Z; omega) dX5_push_30 (fun qn H hP hD hS => ?_)
      refine lv_dup hx hb dX5_push_33 rfl ?_
      refine gE_void (g_runIN (As := []) (rest := [.ref qn, .int (V 5 6), .ref (ad 35)]) (wc := []) (tc := []) hx hb hml hown hg gw_self hP hD hK hS hA hnw hgk [] [] (by decide) rfl rfl (c_Frame_init l D ks H.size qn) n1185 w1186 w180 w1187 rfl hdS_yX4_init ⟨Nat.le_of_ble_eq_true rfl, Nat.le_of_ble_eq_true rfl⟩ rfl hl.1 rfl (Nat.le_of_ble_eq_true rfl) dX5_push_34 ⟨(by show zcc Z - zcc Z + 1 + 0 ≤ zcc Z; omega), (by show zss Z - zss Z + 19 + 0 ≤ zss Z; omega)⟩) hP hD hK hS hA (fun _ H locs _ hP hD hK hS => ?_)
      have kcn : (Int32.toNatClampNeg (V 5 6)) = Z.nf := by omega
      refine va_astq (D := D) (i := (V 5 6)) (v := qn) (r := (RX4, TX4, 19)) hx hb hK hP hD hS 35 28 (336 + Z.nf) 4 rfl rfl xw_new rfl (i_in (a := ((V 5 6)).toInt) rfl (by omega)) dX5_push_37 (fun H locs hP hD hS => ?_)
      obtain ⟨Z66, hZ66⟩ : ∃ z, z = Z.more qn := ⟨_, rfl⟩
      obtain ⟨V65, hV65⟩ : ∃ z, z = frz V Z.nf := ⟨_, rfl⟩
      have hP : va_P D vwCl (xw ad kk V65 L Z66) H := by rw [hZ66, hV65, ← xw_frz2 kcn]; exact hP
      have hD : va_D A (xw ad kk V65 L Z66) := by rw [hZ66, hV65, ← xw_frz2 kcn]; exact hD
      have hK : va_K D vwCl (xty kk Z66) s := by rw [hZ66]; exact hK
      have hMV65 : rgd bX V65 := by rw [hV65]; exact rgd_frz hMV
      have ajV65 : agr [] [67, 68, 69, 70, 71, 72, 73, 74, 75, 76, 77, 78, 79, 80, 81, 82, 83, 84, 85] V V65 := by rw [hV65]; exact frz_ag
      have agV65 : agr [(5, 6), (5, 9)] [67, 68, 69, 70, 71, 72, 73, 74, 75, 76, 77, 78, 79, 80, 81, 82, 83, 84, 85] V V65 := agV.tr ajV65 (by decide) (by decide)
      have zmq := zm qn
      have zcZ66 : zcc Z66 + 1 = zcc Z := by rw [hZ66]; exact zmq.1
      have zsZ66 : zss Z66 + 19 = zss Z := by rw [hZ66]; exact zmq.2
      have zlZ66 : ZL Z Z66 := by rw [hZ66]; exact ZL.more (by omega)
      have zoZ66 : ZL Z Z66 := zlZ66
      have zkZ66 : Z66.nf = Z.nf + 1 := by rw [hZ66]; rfl
      have zgZ66 : Z66.ln = Z.ln := by rw [hZ66]; rfl
      refine W.know (fun kx1 kx2 => ?_)
      have kx1 : H.size ≤ s.heap.size + (zcc Z - zcc Z + 1) := kx1
      have kx2 : tot H ≤ tot s.heap + (zss Z - zss Z + 19) := kx2
      refine W.tight (k := zcc Z - zcc Z66) (n := zss Z - zss Z66) (by omega) (by omega) ?_
      refine lv_aload_n hx hb dX5_push_38 rfl (lv_at hl 0 rfl) ?_
      refine va_get (D := D) (ci := 5) (v := .ref (ad 35)) (fs := (xfMachine ad V65 L Z66)) (C := RX5) (T := TX5) (N := 15) hx hb hg inX5 hown hK hP 5 xgMachine rfl 2 (by decide) (hg _ w669) (fun _ h9 => h9) rfl dX5_push_39 ?_
      refine lv_aload_n hx hb dX5_push_42 rfl (lv_at hl 0 rfl) ?_
      refine va_get (D := D) (ci := 5) (v := .int (V65 5 6)) (fs := (xfMachine ad V65 L Z66)) (C := RX5) (T := TX5) (N := 15) hx hb hg inX5 hown hK hP 5 xgMachine rfl 6 (by decide) (hg _ w673) (fun _ h9 => h9) rfl dX5_push_43 ?_
      refine g_top (v := (V 5 6)) (ajV65 5 6 rfl) ?_
      refine lv_sipush (v := 400) hx hb dX5_push_46 (by decide) ?_
      refine lv_icmp_ge (tgt := 66) hx hb dX5_push_49 (by decide) (fun c67 => ?_) (fun c67 => ?_)
      · skip
        have f68 : 400 ≤ ((V 5 6)).toInt := b_le (by decide) rfl c67
        exfalso; (first | exact om_f1788462d221 f32 f68 | omega)
      · skip
        have f69 : ((V 5 6)).toInt < 400 := b_nle (by decide) rfl c67
        refine lv_aload_n hx hb dX5_push_52 rfl (lv_at hl 0 rfl) ?_
        refine lv_dup hx hb dX5_push_53 rfl ?_
        refine va_get (D := D) (ci := 5) (v := .int (V65 5 6)) (fs := (xfMachine ad V65 L Z66)) (C := RX5) (T := TX5) (N := 15) hx hb hg inX5 hown hK hP 5 xgMachine rfl 6 (by decide) (hg _ w673) (fun _ h9 => h9) rfl dX5_push_54 ?_
        refine g_top (v := (V 5 6)) (ajV65 5 6 rfl) ?_
        refine lv_dup_x1 hx hb dX5_push_57 rfl rfl ?_
        refine lv_iconst (v := 1) hx hb dX5_push_58 (by decide) ?_
        refine lv_iadd hx hb dX5_push_59 ?_
        refine lv_topi (fun z70 ez70 => ?_)
        have hz70 : z70.toInt = ((V 5 6)).toInt + 1 := i_add ez70 rfl (by decide) (by (first | exact om_d5ec5fa1ac53 kdp f32 kcn | omega))
        refine va_put (D := D) (ci := 5) (v := .int z70) (ty := tyX5 6) (fs := (xfMachine ad V65 L Z66)) (C := RX5) (T := TX5) (N := 15) hx hb hg inX5 tyX5 tyX5_ok nmX5 hown hK hP hD hS 5 xgMachine rfl 6 (by decide) (hg _ w673) (fun _ h9 => h9) rfl (tyX5_ok 6 (by decide)) rfl rfl (Nat.le_of_ble_eq_true rfl) dX5_push_60 (fun H locs hP hD hS => ?_)
        obtain ⟨V71, hV71⟩ : ∃ z, z = up2 V65 5 6 z70 := ⟨_, rfl⟩
        have ew72 : (xw ad kk V65 L Z66).set 5 ((ad 5), .inr (5, (xfMachine ad V65 L Z66).set 6 (.int z70))) = xw ad kk V71 L Z66 := by rw [hV71]; exact xw_ss (by decide) rfl (xb_si (by decide))
        have hP : va_P D vwCl (xw ad kk V71 L Z66) H := by rw [← ew72]; exact hP
        have hD : va_D A (xw ad kk V71 L Z66) := by rw [← ew72]; exact hD
        have hMV71 : rgd bX V71 := hMV65.put hV71 (show 0 ≤ z70.toInt ∧ z70.toInt ≤ 400 from by (first | exact om_30e08f75bde7 kdp f32 kcn hz70 | omega))
        have agV71 : agr [(5, 6), (5, 9)] [67, 68, 69, 70, 71, 72, 73, 74, 75, 76, 77, 78, 79, 80, 81, 82, 83, 84, 85] V V71 := agV65.up hV71 rfl
        refine lv_goto (tgt := 69) hx hb dX5_push_63 (by decide) ?_
        refine va_aldq (D := D) (i := (V 5 6)) hx hb hK hP 35 28 rfl rfl (i_in (a := ((V 5 6)).toInt) rfl (by (first | exact om_6ce50590c6c7 kdp f32 kcn | omega))) dX5_push_69 ?_
        refine g_topv (v := .ref (Z66.fa (Int32.toNatClampNeg (V 5 6)))) (by exact congrArg va_rf (if_pos (by omega))) ?_
        have il73 : (Int32.toNatClampNeg (V 5 6)) < Z66.nf := by (first | exact om_843ad58ddfba kcn zkZ66 | omega)
        refine lv_astore (lv' := [(6, .ref (Z66.fa (Int32.toNatClampNeg (V 5 6)))), (0, .ref (ad 5)), (1, .int p0), (2, .int p1), (3, .int p2), (4, .int p3), (5, .int p4)]) hx hb dX5_push_70 hl (by decide) rfl (fun ls hl => ?_)
        refine lv_aload hx hb dX5_push_72 (lv_at hl 0 rfl) ?_
        refine lv_iload_n hx hb dX5_push_74 rfl (lv_at hl 2 rfl) ?_
        refine va_putN (D := D) (ci := 4) (v := .int p0) (ty := tyX4 0) (fs := (xfFrame V71 (Int32.toNatClampNeg (V 5 6)))) (C := RX4) (T := TX4) (N := 19) hx hb hg inX4 tyX4 tyX4_ok nmX4 hown hK hP hD hS (336 + (Int32.toNatClampNeg (V 5 6))) (xgFrame il73) rfl 0 (by decide) (hnw.use 1189 n1189 rfl) (fun _ h9 => h9) rfl (tyX4_ok 0 (by decide)) rfl rfl (Nat.le_of_ble_eq_true rfl) dX5_push_75 (fun H locs hP hD hS => ?_)
        obtain ⟨V74, hV74⟩ : ∃ z, z = up2 V71 67 (Int32.toNatClampNeg (V 5 6)) p0 := ⟨_, rfl⟩
        have ew75 : (xw ad kk V71 L Z66).set (336 + (Int32.toNatClampNeg (V 5 6))) ((Z66.fa (Int32.toNatClampNeg (V 5 6))), .inr (4, (xfFrame V71 (Int32.toNatClampNeg (V 5 6))).set 0 (.int p0))) = xw ad kk V74 L Z66 := by rw [hV74]; exact xpFrame_kind il73
        have hP : va_P D vwCl (xw ad kk V74 L Z66) H := by rw [← ew75]; exact hP
        have hD : va_D A (xw ad kk V74 L Z66) := by rw [← ew75]; exact hD
        have hMV74 : rgd bX V74 := hMV71.put hV74 (i_full _)
        have agV74 : agr [(5, 6), (5, 9)] [67, 68, 69, 70, 71, 72, 73, 74, 75, 76, 77, 78, 79, 80, 81, 82, 83, 84, 85] V V74 := agV71.up hV74 rfl
        refine lv_aload hx hb dX5_push_78 (lv_at hl 0 rfl) ?_
        refine lv_iconst (v := 0) hx hb dX5_push_80 (by decide) ?_
        refine va_putN (D := D) (ci := 4) (v := .int 0) (ty := tyX4 1) (fs := (xfFrame V74 (Int32.toNatClampNeg (V 5 6)))) (C := RX4) (T := TX4) (N := 19) hx hb hg inX4 tyX4 tyX4_ok nmX4 hown hK hP hD hS (336 + (Int32.toNatClampNeg (V 5 6))) (xgFrame il73) rfl 1 (by decide) (hnw.use 1190 n1190 rfl) (fun _ h9 => h9) rfl (tyX4_ok 1 (by decide)) rfl rfl (Nat.le_of_ble_eq_true rfl) dX5_push_81 (fun H locs hP hD hS => ?_)
        obtain ⟨V76, hV76⟩ : ∃ z, z = up2 V74 68 (Int32.toNatClampNeg (V 5 6)) 0 := ⟨_, rfl⟩
        have ew77 : (xw ad kk V74 L Z66).set (336 + (Int32.toNatClampNeg (V 5 6))) ((Z66.fa (Int32.toNatClampNeg (V 5 6))), .inr (4, (xfFrame V74 (Int32.toNatClampNeg (V 5 6))).set 1 (.int 0))) = xw ad kk V76 L Z66 := by rw [hV76]; exact xpFrame_phase il73
        have hP : va_P D vwCl (xw ad kk V76 L Z66) H := by rw [← ew77]; exact hP
        have hD : va_D A (xw ad kk V76 L Z66) := by rw [← ew77]; exact hD
        have hMV76 : rgd bX V76 := hMV74.put hV76 (i_full _)
        have agV76 : agr [(5, 6), (5, 9)] [67, 68, 69, 70, 71, 72, 73, 74, 75, 76, 77, 78, 79, 80, 81, 82, 83, 84, 85] V V76 := agV74.up hV76 rfl
        refine lv_aload hx hb dX5_push_84 (lv_at hl 0 rfl) ?_
        refine lv_iload_n hx hb dX5_push_86 rfl (lv_at hl 3 rfl) ?_
        refine va_putN (D := D) (ci := 4) (v := .int p1) (ty := tyX4 2) (fs := (xfFrame V76 (Int32.toNatClampNeg (V 5 6)))) (C := RX4) (T := TX4) (N := 19) hx hb hg inX4 tyX4 tyX4_ok nmX4 hown hK hP hD hS (336 + (Int32.toNatClampNeg (V 5 6))) (xgFrame il73) rfl 2 (by decide) (hnw.use 1191 n1191 rfl) (fun _ h9 => h9) rfl (tyX4_ok 2 (by decide)) rfl rfl (Nat.le_of_ble_eq_true rfl) dX5_push_87 (fun H locs hP hD hS => ?_)
        obtain ⟨V78, hV78⟩ : ∃ z, z = up2 V76 69 (Int32.toNatClampNeg (V 5 6)) p1 := ⟨_, rfl⟩
        have ew79 : (xw ad kk V76 L Z66).set (336 + (Int32.toNatClampNeg (V 5 6))) ((Z66.fa (Int32.toNatClampNeg (V 5 6))), .inr (4, (xfFrame V76 (Int32.toNatClampNeg (V 5 6))).set 2 (.int p1))) = xw ad kk V78 L Z66 := by rw [hV78]; exact xpFrame_level il73
        have hP : va_P D vwCl (xw ad kk V78 L Z66) H := by rw [← ew79]; exact hP
        have hD : va_D A (xw ad kk V78 L Z66) := by rw [← ew79]; exact hD
        have hMV78 : rgd bX V78 := hMV76.put hV78 (i_full _)
        have agV78 : agr [(5, 6), (5, 9)] [67, 68, 69, 70, 71, 72, 73, 74, 75, 76, 77, 78, 79, 80, 81, 82, 83, 84, 85] V V78 := agV76.up hV78 rfl
        refine lv_aload hx hb dX5_push_90 (lv_at hl 0 rfl) ?_
        refine lv_iload_n hx hb dX5_push_92 rfl (lv_at hl 4 rfl) ?_
        refine va_putN (D := D) (ci := 4) (v := .int p2) (ty := tyX4 3) (fs := (xfFrame V78 (Int32.toNatClampNeg (V 5 6)))) (C := RX4) (T := TX4) (N := 19) hx hb hg inX4 tyX4 tyX4_ok nmX4 hown hK hP hD hS (336 + (Int32.toNatClampNeg (V 5 6))) (xgFrame il73) rfl 3 (by decide) (hnw.use 1192 n1192 rfl) (fun _ h9 => h9) rfl (tyX4_ok 3 (by decide)) rfl rfl (Nat.le_of_ble_eq_true rfl) dX5_push_93 (fun H locs hP hD hS => ?_)
        obtain ⟨V80, hV80⟩ : ∃ z, z = up2 V78 70 (Int32.toNatClampNeg (V 5 6)) p2 := ⟨_, rfl⟩
        have ew81 : (xw ad kk V78 L Z66).set (336 + (Int32.toNatClampNeg (V 5 6))) ((Z66.fa (Int32.toNatClampNeg (V 5 6))), .inr (4, (xfFrame V78 (Int32.toNatClampNeg (V 5 6))).set 3 (.int p2))) = xw ad kk V80 L Z66 := by rw [hV80]; exact xpFrame_object il73
        have hP : va_P D vwCl (xw ad kk V80 L Z66) H := by rw [← ew81]; exact hP
        have hD : va_D A (xw ad kk V80 L Z66) := by rw [← ew81]; exact hD
        have hMV80 : rgd bX V80 := hMV78.put hV80 (i_full _)
        have agV80 : agr [(5, 6), (5, 9)] [67, 68, 69, 70, 71, 72, 73, 74, 75, 76, 77, 78, 79, 80, 81, 82, 83, 84, 85] V V80 := agV78.up hV80 rfl
        refine lv_aload hx hb dX5_push_96 (lv_at hl 0 rfl) ?_
        refine lv_iload hx hb dX5_push_98 (lv_at hl 5 rfl) ?_
        refine va_putN (D := D) (ci := 4) (v := .int p3) (ty := tyX4 4) (fs := (xfFrame V80 (Int32.toNatClampNeg (V 5 6)))) (C := RX4) (T := TX4) (N := 19) hx hb hg inX4 tyX4 tyX4_ok nmX4 hown hK hP hD hS (336 + (Int32.toNatClampNeg (V 5 6))) (xgFrame il73) rfl 4 (by decide) (hnw.use 1193 n1193 rfl) (fun _ h9 => h9) rfl (tyX4_ok 4 (by decide)) rfl rfl (Nat.le_of_ble_eq_true rfl) dX5_push_100 (fun H locs hP hD hS => ?_)
        obtain ⟨V82, hV82⟩ : ∃ z, z = up2 V80 71 (Int32.toNatClampNeg (V 5 6)) p3 := ⟨_, rfl⟩
        have ew83 : (xw ad kk V80 L Z66).set (336 + (Int32.toNatClampNeg (V 5 6))) ((Z66.fa (Int32.toNatClampNeg (V 5 6))), .inr (4, (xfFrame V80 (Int32.toNatClampNeg (V 5 6))).set 4 (.int p3))) = xw ad kk V82 L Z66 := by rw [hV82]; exact xpFrame_component il73
        have hP : va_P D vwCl (xw ad kk V82 L Z66) H := by rw [← ew83]; exact hP
        have hD : va_D A (xw ad kk V82 L Z66) := by rw [← ew83]; exact hD
        have hMV82 : rgd bX V82 := hMV80.put hV82 (show (-1) ≤ p3.toInt ∧ p3.toInt ≤ 23 from by (first | exact om_b5ea211f5a81 rg_p3.1 rg_p3.2 | omega))
        have agV82 : agr [(5, 6), (5, 9)] [67, 68, 69, 70, 71, 72, 73, 74, 75, 76, 77, 78, 79, 80, 81, 82, 83, 84, 85] V V82 := agV80.up hV82 rfl
        refine lv_aload hx hb dX5_push_103 (lv_at hl 0 rfl) ?_
        refine lv_iload hx hb dX5_push_105 (lv_at hl 6 rfl) ?_
        refine va_putN (D := D) (ci := 4) (v := .int p4) (ty := tyX4 5) (fs := (xfFrame V82 (Int32.toNatClampNeg (V 5 6)))) (C := RX4) (T := TX4) (N := 19) hx hb hg inX4 tyX4 tyX4_ok nmX4 hown hK hP hD hS (336 + (Int32.toNatClampNeg (V 5 6))) (xgFrame il73) rfl 5 (by decide) (hnw.use 1194 n1194 rfl) (fun _ h9 => h9) rfl (tyX4_ok 5 (by decide)) rfl rfl (Nat.le_of_ble_eq_true rfl) dX5_push_107 (fun H locs hP hD hS => ?_)
        obtain ⟨V84, hV84⟩ : ∃ z, z = up2 V82 72 (Int32.toNatClampNeg (V 5 6)) p4 := ⟨_, rfl⟩
        have ew85 : (xw ad kk V82 L Z66).set (336 + (Int32.toNatClampNeg (V 5 6))) ((Z66.fa (Int32.toNatClampNeg (V 5 6))), .inr (4, (xfFrame V82 (Int32.toNatClampNeg (V 5 6))).set 5 (.int p4))) = xw ad kk V84 L Z66 := by rw [hV84]; exact xpFrame_scope il73
        have hP : va_P D vwCl (xw ad kk V84 L Z66) H := by rw [← ew85]; exact hP
        have hD : va_D A (xw ad kk V84 L Z66) := by rw [← ew85]; exact hD
        have hMV84 : rgd bX V84 := hMV82.put hV84 (show 0 ≤ p4.toInt ∧ p4.toInt ≤ 39 from by (first | exact om_13ba01c174fe rg_p4.1 rg_p4.2 | omega))
        have agV84 : agr [(5, 6), (5, 9)] [67, 68, 69, 70, 71, 72, 73, 74, 75, 76, 77, 78, 79, 80, 81, 82, 83, 84, 85] V V84 := agV82.up hV84 rfl
        refine lv_aload hx hb dX5_push_110 (lv_at hl 0 rfl) ?_
        refine lv_iconst (v := 0) hx hb dX5_push_112 (by decide) ?_
        refine va_putN (D := D) (ci := 4) (v := .int 0) (ty := tyX4 8) (fs := (xfFrame V84 (Int32.toNatClampNeg (V 5 6)))) (C := RX4) (T := TX4) (N := 19) hx hb hg inX4 tyX4 tyX4_ok nmX4 hown hK hP hD hS (336 + (Int32.toNatClampNeg (V 5 6))) (xgFrame il73) rfl 8 (by decide) (hnw.use 1197 n1197 rfl) (fun _ h9 => h9) rfl (tyX4_ok 8 (by decide)) rfl rfl (Nat.le_of_ble_eq_true rfl) dX5_push_113 (fun H locs hP hD hS => ?_)
        obtain ⟨V86, hV86⟩ : ∃ z, z = up2 V84 75 (Int32.toNatClampNeg (V 5 6)) 0 := ⟨_, rfl⟩
        have ew87 : (xw ad kk V84 L Z66).set (336 + (Int32.toNatClampNeg (V 5 6))) ((Z66.fa (Int32.toNatClampNeg (V 5 6))), .inr (4, (xfFrame V84 (Int32.toNatClampNeg (V 5 6))).set 8 (.int 0))) = xw ad kk V86 L Z66 := by rw [hV86]; exact xpFrame_position il73
        have hP : va_P D vwCl (xw ad kk V86 L Z66) H := by rw [← ew87]; exact hP
        have hD : va_D A (xw ad kk V86 L Z66) := by rw [← ew87]; exact hD
        have hMV86 : rgd bX V86 := hMV84.put hV86 (show 0 ≤ Int32.toInt 0 ∧ Int32.toInt 0 ≤ 12 from by decide)
        have agV86 : agr [(5, 6), (5, 9)] [67, 68, 69, 70, 71, 72, 73, 74, 75, 76, 77, 78, 79, 80, 81, 82, 83, 84, 85] V V86 := agV84.up hV86 rfl
        refine lv_aload hx hb dX5_push_116 (lv_at hl 0 rfl) ?_
        refine lv_iconst (v := 0) hx hb dX5_push_118 (by decide) ?_
        refine va_putN (D := D) (ci := 4) (v := .int 0) (ty := tyX4 9) (fs := (xfFrame V86 (Int32.toNatClampNeg (V 5 6)))) (C := RX4) (T := TX4) (N := 19) hx hb hg inX4 tyX4 tyX4_ok nmX4 hown hK hP hD hS (336 + (Int32.toNatClampNeg (V 5 6))) (xgFrame il73) rfl 9 (by decide) (hnw.use 1198 n1198 rfl) (fun _ h9 => h9) rfl (tyX4_ok 9 (by decide)) rfl rfl (Nat.le_of_ble_eq_true rfl) dX5_push_119 (fun H locs hP hD hS => ?_)
        obtain ⟨V88, hV88⟩ : ∃ z, z = up2 V86 76 (Int32.toNatClampNeg (V 5 6)) 0 := ⟨_, rfl⟩
        have ew89 : (xw ad kk V86 L Z66).set (336 + (Int32.toNatClampNeg (V 5 6))) ((Z66.fa (Int32.toNatClampNeg (V 5 6))), .inr (4, (xfFrame V86 (Int32.toNatClampNeg (V 5 6))).set 9 (.int 0))) = xw ad kk V88 L Z66 := by rw [hV88]; exact xpFrame_item il73
        have hP : va_P D vwCl (xw ad kk V88 L Z66) H := by rw [← ew89]; exact hP
        have hD : va_D A (xw ad kk V88 L Z66) := by rw [← ew89]; exact hD
        have hMV88 : rgd bX V88 := hMV86.put hV88 (i_full _)
        have agV88 : agr [(5, 6), (5, 9)] [67, 68, 69, 70, 71, 72, 73, 74, 75, 76, 77, 78, 79, 80, 81, 82, 83, 84, 85] V V88 := agV86.up hV88 rfl
        refine lv_aload hx hb dX5_push_122 (lv_at hl 0 rfl) ?_
        refine lv_iconst (v := 0) hx hb dX5_push_124 (by decide) ?_
        refine va_putN (D := D) (ci := 4) (v := .int 0) (ty := tyX4 16) (fs := (xfFrame V88 (Int32.toNatClampNeg (V 5 6)))) (C := RX4) (T := TX4) (N := 19) hx hb hg inX4 tyX4 tyX4_ok nmX4 hown hK hP hD hS (336 + (Int32.toNatClampNeg (V 5 6))) (xgFrame il73) rfl 16 (by decide) (hnw.use 1205 n1205 rfl) (fun _ h9 => h9) rfl (tyX4_ok 16 (by decide)) rfl rfl (Nat.le_of_ble_eq_true rfl) dX5_push_125 (fun H locs hP hD hS => ?_)
        obtain ⟨V90, hV90⟩ : ∃ z, z = up2 V88 83 (Int32.toNatClampNeg (V 5 6)) 0 := ⟨_, rfl⟩
        have ew91 : (xw ad kk V88 L Z66).set (336 + (Int32.toNatClampNeg (V 5 6))) ((Z66.fa (Int32.toNatClampNeg (V 5 6))), .inr (4, (xfFrame V88 (Int32.toNatClampNeg (V 5 6))).set 16 (.int 0))) = xw ad kk V90 L Z66 := by rw [hV90]; exact xpFrame_spent il73
        have hP : va_P D vwCl (xw ad kk V90 L Z66) H := by rw [← ew91]; exact hP
        have hD : va_D A (xw ad kk V90 L Z66) := by rw [← ew91]; exact hD
        have hMV90 : rgd bX V90 := hMV88.put hV90 (show 0 ≤ Int32.toInt 0 ∧ Int32.toInt 0 ≤ 1 from by decide)
        have agV90 : agr [(5, 6), (5, 9)] [67, 68, 69, 70, 71, 72, 73, 74, 75, 76, 77, 78, 79, 80, 81, 82, 83, 84, 85] V V90 := agV88.up hV90 rfl
        refine lv_aload_n hx hb dX5_push_128 rfl (lv_at hl 1 rfl) ?_
        refine lv_iconst (v := 0) hx hb dX5_push_129 (by decide) ?_
        refine va_put (D := D) (ci := 5) (v := .int 0) (ty := tyX5 9) (fs := (xfMachine ad V90 L Z66)) (C := RX5) (T := TX5) (N := 15) hx hb hg inX5 tyX5 tyX5_ok nmX5 hown hK hP hD hS 5 xgMachine rfl 9 (by decide) (hg _ w676) (fun _ h9 => h9) rfl (tyX5_ok 9 (by decide)) rfl rfl (Nat.le_of_ble_eq_true rfl) dX5_push_130 (fun H locs hP hD hS => ?_)
        obtain ⟨V92, hV92⟩ : ∃ z, z = up2 V90 5 9 0 := ⟨_, rfl⟩
        have ew93 : (xw ad kk V90 L Z66).set 5 ((ad 5), .inr (5, (xfMachine ad V90 L Z66).set 9 (.int 0))) = xw ad kk V92 L Z66 := by rw [hV92]; exact xw_ss (by decide) rfl (xb_si (by decide))
        have hP : va_P D vwCl (xw ad kk V92 L Z66) H := by rw [← ew93]; exact hP
        have hD : va_D A (xw ad kk V92 L Z66) := by rw [← ew93]; exact hD
        have hMV92 : rgd bX V92 := hMV90.put hV92 (by decide)
        have agV92 : agr [(5, 6), (5, 9)] [67, 68, 69, 70, 71, 72, 73, 74, 75, 76, 77, 78, 79, 80, 81, 82, 83, 84, 85] V V92 := agV90.up hV92 rfl
        refine lv_aload hx hb dX5_push_133 (lv_at hl 0 rfl) ?_
        have pq94 : (V92 5 6).toInt = z70.toInt := congrArg Int32.toInt ((up2_k hV92 (by decide)).trans ((up2_o hV90 (by decide)).trans ((up2_o hV88 (by decide)).trans ((up2_o hV86 (by decide)).trans ((up2_o hV84 (by decide)).trans ((up2_o hV82 (by decide)).trans ((up2_o hV80 (by decide)).trans ((up2_o hV78 (by decide)).trans ((up2_o hV76 (by decide)).trans ((up2_o hV74 (by decide)).trans (up2_s hV71)))))))))))
        have pq95 : (V92 5 9).toInt = 0 := (congrArg Int32.toInt (up2_s hV92)).trans (by decide)
        have me96 : ME V V92 (Int32.toNatClampNeg (V 5 6)) := (ME.up (ME.up (ME.up (ME.up (ME.up (ME.up (ME.up (ME.up (ME.up (ME.up (ME.up (ME.tr ME.rf (by rw [hV65]; exact ME.zz (by omega))) hV71 (Or.inr (by omega))) hV74 (Or.inl ⟨by decide, by decide, Nat.le_refl _⟩)) hV76 (Or.inl ⟨by decide, by decide, Nat.le_refl _⟩)) hV78 (Or.inl ⟨by decide, by decide, Nat.le_refl _⟩)) hV80 (Or.inl ⟨by decide, by decide, Nat.le_refl _⟩)) hV82 (Or.inl ⟨by decide, by decide, Nat.le_refl _⟩)) hV84 (Or.inl ⟨by decide, by decide, Nat.le_refl _⟩)) hV86 (Or.inl ⟨by decide, by decide, Nat.le_refl _⟩)) hV88 (Or.inl ⟨by decide, by decide, Nat.le_refl _⟩)) hV90 (Or.inl ⟨by decide, by decide, Nat.le_refl _⟩)) hV92 (Or.inr (by omega)))
        have rp97 : Z66.ln = Z.ln ∧ Z66.nf ≤ 400 := ⟨zgZ66, by omega⟩
        refine W.know (fun kr1 kr2 => ?_)
        refine W.widen (k := zcc Z) (n := zss Z) (Nat.sub_le _ _) (Nat.sub_le _ _) ?_
        exact W.aret (v := .ref (Z66.fa (Int32.toNatClampNeg (V 5 6)))) hx hb hr (Or.inl ⟨_, rfl⟩) (Or.inr ⟨_, rfl⟩) (fun t ht hW => ⟨⟨(V92, L, Z66, (Int32.toNatClampNeg (V 5 6))), rfl, ⟨hMV92, agV92, rfl, zoZ66, il73, me96, ⟨((up2_o hV92 (by decide)).trans ((up2_o hV90 (by decide)).trans ((up2_o hV88 (by decide)).trans ((up2_o hV86 (by decide)).trans ((up2_o hV84 (by decide)).trans ((up2_o hV82 (by decide)).trans ((up2_o hV80 (by decide)).trans ((up2_o hV78 (by decide)).trans ((up2_o hV76 (by decide)).trans (up2_s hV74)))))))))), ((up2_o hV92 (by decide)).trans ((up2_o hV90 (by decide)).trans ((up2_o hV88 (by decide)).trans ((up2_o hV86 (by decide)).trans ((up2_o hV84 (by decide)).trans ((up2_o hV82 (by decide)).trans ((up2_o hV80 (by decide)).trans ((up2_o hV78 (by decide)).trans (up2_s hV76))))))))), ((up2_o hV92 (by decide)).trans ((up2_o hV90 (by decide)).trans ((up2_o hV88 (by decide)).trans ((up2_o hV86 (by decide)).trans ((up2_o hV84 (by decide)).trans ((up2_o hV82 (by decide)).trans (up2_s hV80))))))), ((up2_o hV92 (by decide)).trans ((up2_o hV90 (by decide)).trans ((up2_o hV88 (by decide)).trans ((up2_o hV86 (by decide)).trans ((up2_o hV84 (by decide)).trans (up2_s hV82)))))), ((up2_o hV92 (by decide)).trans ((up2_o hV90 (by decide)).trans ((up2_o hV88 (by decide)).trans (up2_s hV86)))), ((up2_o hV92 (by decide)).trans ((up2_o hV90 (by decide)).trans (up2_s hV88)))⟩, (show ((Int32.toNatClampNeg (V 5 6)) : Int) + 1 = (V92 5 6).toInt from by (first | exact om_b4017f2d8f07 kdp hz70 pq94 | omega)), (show ((Int32.toNatClampNeg (V 5 6)) : Int) ≤ (V 5 6).toInt ∧ (V 5 6).toInt ≤ ((Int32.toNatClampNeg (V 5 6)) : Int) + 1 from by (first | exact om_ceb1c66e0444 kdp | omega)), (show (V92 5 9).toInt = 0 from by (first | exact om_b66ba74381d5 pq95 | omega)), rp97⟩, ⟨by rw [ht]; exact hP, va_K.moved hW.alike hK, hD⟩, by rw [ht]; exact kr1, by rw [ht]; exact kr2⟩, hS.F ht⟩) hS.2.2 dX5_push_135
end
