theorem w2014 : Cond.code yX12_cutAll cX12_cutAll 7 none ∈ GW := gw_k tk9_8 179 (rfl) rfl
theorem w2011 : Cond.methodLink RX12 283 yX12_cutAll ∈ GW := gw_k tk9_8 176 (by decide +kernel) rfl
theorem w2013 : Cond.instanceMethod yX12_cutAll ∈ GW := gw_k tk9_8 178 (by decide +kernel) rfl
theorem w82 : Cond.selects RX12 yX12_cutAll yX12_cutAll ∈ GW := gw_mem 82 (by decide +kernel) rfl
theorem hdV_yX12_cutAll : yX12_cutAll.cls = RX12 ∧ yX12_cutAll.cls ≠ "java/lang/invoke/MethodHandle" ∧ yX12_cutAll.cls ≠ "java/lang/invoke/VarHandle" ∧ (parseMethodDescriptor yX12_cutAll.desc).map (fun d => d.parameters.length) = some 0 := by decide +kernel
theorem w1742 : Cond.fieldLink RX12 113 "WiringHouseModel" "methodName" "[J" ∈ GW := gw_k tk9_7 147 (by decide +kernel) rfl
theorem w1744 : Cond.fieldLink RX12 119 "WiringHouseModel" "callName" "[J" ∈ GW := gw_k tk9_7 149 (by decide +kernel) rfl
theorem w1743 : Cond.fieldLink RX12 116 "WiringHouseModel" "calls" "[I" ∈ GW := gw_k tk9_7 148 (by decide +kernel) rfl
theorem dk9_dX12_named__0_0 : dOk cX12_named_ [(0, .aload_n 0, 1), (1, .iconst 0, 1), (2, .putfield 1, 3), (5, .aload_n 0, 1), (6, .invokevirtual 283, 3), (9, .aload_n 0, 1), (10, .getfield 24, 3), (13, .iconst 0, 1), (14, .iaload, 1), (15, .iconst 1, 1), (16, .if_icmp .ne 12, 3), (28, .iconst (-1), 1), (29, .ireturn, 1), (19, .aload_n 0, 1), (20, .getfield 24, 3), (23, .iconst 1, 1), (24, .iaload, 1), (25, .ifCond .eq 5, 3), (30, .iload_n 1, 1), (31, .tableswitch 188 0 4 #[33, 64, 95, 126, 157], 33), (64, .aload_n 0, 1), (65, .aload_n 0, 1), (66, .getfield 46, 3), (69, .bipush 24, 2)] = true ∧ dOk cX12_named_ [(71, .aload_n 0, 1), (72, .getfield 286, 3), (75, .imul, 1), (76, .aload_n 0, 1), (77, .getfield 43, 3), (80, .aload_n 0, 1), (81, .getfield 286, 3), (84, .iaload, 1), (85, .aload_n 0, 1), (86, .getfield 30, 3), (89, .iconst 0, 1), (90, .laload, 1), (91, .invokevirtual 317, 3), (94, .ireturn, 1), (95, .aload_n 0, 1), (96, .aload_n 0, 1), (97, .getfield 56, 3), (100, .bipush 12, 2), (102, .aload_n 0, 1), (103, .getfield 286, 3), (106, .imul, 1), (107, .aload_n 0, 1), (108, .getfield 53, 3), (111, .aload_n 0, 1)] = true ∧ dOk cX12_named_ [(112, .getfield 286, 3), (115, .iaload, 1), (116, .aload_n 0, 1), (117, .getfield 30, 3), (120, .iconst 0, 1), (121, .laload, 1), (122, .invokevirtual 317, 3), (125, .ireturn, 1), (126, .aload_n 0, 1), (127, .aload_n 0, 1), (128, .getfield 65, 3), (131, .bipush 24, 2), (133, .aload_n 0, 1), (134, .getfield 286, 3), (137, .imul, 1), (138, .aload_n 0, 1), (139, .getfield 62, 3), (142, .aload_n 0, 1), (143, .getfield 286, 3), (146, .iaload, 1), (147, .aload_n 0, 1), (148, .getfield 30, 3), (151, .iconst 0, 1), (152, .laload, 1)] = true ∧ dOk cX12_named_ [(153, .invokevirtual 317, 3), (156, .ireturn, 1), (157, .aload_n 0, 1), (158, .aload_n 0, 1), (159, .getfield 113, 3), (162, .bipush 20, 2), (164, .aload_n 0, 1), (165, .getfield 286, 3), (168, .imul, 1), (169, .aload_n 0, 1), (170, .getfield 110, 3), (173, .aload_n 0, 1), (174, .getfield 286, 3), (177, .iaload, 1), (178, .aload_n 0, 1), (179, .getfield 30, 3), (182, .iconst 0, 1), (183, .laload, 1), (184, .invokevirtual 317, 3), (187, .ireturn, 1), (188, .aload_n 0, 1), (189, .aload_n 0, 1), (190, .getfield 119, 3), (193, .bipush 20, 2)] = true ∧ dOk cX12_named_ [(195, .aload_n 0, 1), (196, .getfield 286, 3), (199, .imul, 1), (200, .aload_n 0, 1), (201, .getfield 116, 3), (204, .aload_n 0, 1), (205, .getfield 286, 3), (208, .iaload, 1), (209, .aload_n 0, 1), (210, .getfield 30, 3), (213, .iconst 0, 1), (214, .laload, 1), (215, .invokevirtual 317, 3), (218, .ireturn, 1), (219, .iconst (-1), 1), (220, .ireturn, 1)] = true := by decide +kernel
theorem dX12_named__0 : decode cX12_named_ 0 = .ok (.aload_n 0, 1) := dr9 dk9_dX12_named__0_0.1 0 (0, .aload_n 0, 1) rfl
theorem dX12_named__1 : decode cX12_named_ 1 = .ok (.iconst 0, 1) := dr9 dk9_dX12_named__0_0.1 1 (1, .iconst 0, 1) rfl
theorem dX12_named__2 : decode cX12_named_ 2 = .ok (.putfield 1, 3) := dr9 dk9_dX12_named__0_0.1 2 (2, .putfield 1, 3) rfl
theorem dX12_named__5 : decode cX12_named_ 5 = .ok (.aload_n 0, 1) := dr9 dk9_dX12_named__0_0.1 3 (5, .aload_n 0, 1) rfl
theorem dX12_named__6 : decode cX12_named_ 6 = .ok (.invokevirtual 283, 3) := dr9 dk9_dX12_named__0_0.1 4 (6, .invokevirtual 283, 3) rfl
theorem dX12_named__9 : decode cX12_named_ 9 = .ok (.aload_n 0, 1) := dr9 dk9_dX12_named__0_0.1 5 (9, .aload_n 0, 1) rfl
theorem dX12_named__10 : decode cX12_named_ 10 = .ok (.getfield 24, 3) := dr9 dk9_dX12_named__0_0.1 6 (10, .getfield 24, 3) rfl
theorem dX12_named__13 : decode cX12_named_ 13 = .ok (.iconst 0, 1) := dr9 dk9_dX12_named__0_0.1 7 (13, .iconst 0, 1) rfl
theorem dX12_named__14 : decode cX12_named_ 14 = .ok (.iaload, 1) := dr9 dk9_dX12_named__0_0.1 8 (14, .iaload, 1) rfl
theorem dX12_named__15 : decode cX12_named_ 15 = .ok (.iconst 1, 1) := dr9 dk9_dX12_named__0_0.1 9 (15, .iconst 1, 1) rfl
theorem dX12_named__16 : decode cX12_named_ 16 = .ok (.if_icmp .ne 12, 3) := dr9 dk9_dX12_named__0_0.1 10 (16, .if_icmp .ne 12, 3) rfl
theorem dX12_named__28 : decode cX12_named_ 28 = .ok (.iconst (-1), 1) := dr9 dk9_dX12_named__0_0.1 11 (28, .iconst (-1), 1) rfl
theorem dX12_named__29 : decode cX12_named_ 29 = .ok (.ireturn, 1) := dr9 dk9_dX12_named__0_0.1 12 (29, .ireturn, 1) rfl
theorem dX12_named__19 : decode cX12_named_ 19 = .ok (.aload_n 0, 1) := dr9 dk9_dX12_named__0_0.1 13 (19, .aload_n 0, 1) rfl
theorem dX12_named__20 : decode cX12_named_ 20 = .ok (.getfield 24, 3) := dr9 dk9_dX12_named__0_0.1 14 (20, .getfield 24, 3) rfl
theorem dX12_named__23 : decode cX12_named_ 23 = .ok (.iconst 1, 1) := dr9 dk9_dX12_named__0_0.1 15 (23, .iconst 1, 1) rfl
theorem dX12_named__24 : decode cX12_named_ 24 = .ok (.iaload, 1) := dr9 dk9_dX12_named__0_0.1 16 (24, .iaload, 1) rfl
theorem dX12_named__25 : decode cX12_named_ 25 = .ok (.ifCond .eq 5, 3) := dr9 dk9_dX12_named__0_0.1 17 (25, .ifCond .eq 5, 3) rfl
theorem dX12_named__30 : decode cX12_named_ 30 = .ok (.iload_n 1, 1) := dr9 dk9_dX12_named__0_0.1 18 (30, .iload_n 1, 1) rfl
theorem dX12_named__31 : decode cX12_named_ 31 = .ok (.tableswitch 188 0 4 #[33, 64, 95, 126, 157], 33) := dr9 dk9_dX12_named__0_0.1 19 (31, .tableswitch 188 0 4 #[33, 64, 95, 126, 157], 33) rfl
theorem dX12_named__64 : decode cX12_named_ 64 = .ok (.aload_n 0, 1) := dr9 dk9_dX12_named__0_0.1 20 (64, .aload_n 0, 1) rfl
theorem dX12_named__65 : decode cX12_named_ 65 = .ok (.aload_n 0, 1) := dr9 dk9_dX12_named__0_0.1 21 (65, .aload_n 0, 1) rfl
theorem dX12_named__66 : decode cX12_named_ 66 = .ok (.getfield 46, 3) := dr9 dk9_dX12_named__0_0.1 22 (66, .getfield 46, 3) rfl
theorem dX12_named__69 : decode cX12_named_ 69 = .ok (.bipush 24, 2) := dr9 dk9_dX12_named__0_0.1 23 (69, .bipush 24, 2) rfl
theorem dX12_named__71 : decode cX12_named_ 71 = .ok (.aload_n 0, 1) := dr9 dk9_dX12_named__0_0.2.1 0 (71, .aload_n 0, 1) rfl
theorem dX12_named__72 : decode cX12_named_ 72 = .ok (.getfield 286, 3) := dr9 dk9_dX12_named__0_0.2.1 1 (72, .getfield 286, 3) rfl
theorem dX12_named__75 : decode cX12_named_ 75 = .ok (.imul, 1) := dr9 dk9_dX12_named__0_0.2.1 2 (75, .imul, 1) rfl
theorem dX12_named__76 : decode cX12_named_ 76 = .ok (.aload_n 0, 1) := dr9 dk9_dX12_named__0_0.2.1 3 (76, .aload_n 0, 1) rfl
theorem dX12_named__77 : decode cX12_named_ 77 = .ok (.getfield 43, 3) := dr9 dk9_dX12_named__0_0.2.1 4 (77, .getfield 43, 3) rfl
theorem dX12_named__80 : decode cX12_named_ 80 = .ok (.aload_n 0, 1) := dr9 dk9_dX12_named__0_0.2.1 5 (80, .aload_n 0, 1) rfl
theorem dX12_named__81 : decode cX12_named_ 81 = .ok (.getfield 286, 3) := dr9 dk9_dX12_named__0_0.2.1 6 (81, .getfield 286, 3) rfl
theorem dX12_named__84 : decode cX12_named_ 84 = .ok (.iaload, 1) := dr9 dk9_dX12_named__0_0.2.1 7 (84, .iaload, 1) rfl
theorem dX12_named__85 : decode cX12_named_ 85 = .ok (.aload_n 0, 1) := dr9 dk9_dX12_named__0_0.2.1 8 (85, .aload_n 0, 1) rfl
theorem dX12_named__86 : decode cX12_named_ 86 = .ok (.getfield 30, 3) := dr9 dk9_dX12_named__0_0.2.1 9 (86, .getfield 30, 3) rfl
theorem dX12_named__89 : decode cX12_named_ 89 = .ok (.iconst 0, 1) := dr9 dk9_dX12_named__0_0.2.1 10 (89, .iconst 0, 1) rfl
theorem dX12_named__90 : decode cX12_named_ 90 = .ok (.laload, 1) := dr9 dk9_dX12_named__0_0.2.1 11 (90, .laload, 1) rfl
theorem dX12_named__91 : decode cX12_named_ 91 = .ok (.invokevirtual 317, 3) := dr9 dk9_dX12_named__0_0.2.1 12 (91, .invokevirtual 317, 3) rfl
theorem dX12_named__94 : decode cX12_named_ 94 = .ok (.ireturn, 1) := dr9 dk9_dX12_named__0_0.2.1 13 (94, .ireturn, 1) rfl
theorem dX12_named__95 : decode cX12_named_ 95 = .ok (.aload_n 0, 1) := dr9 dk9_dX12_named__0_0.2.1 14 (95, .aload_n 0, 1) rfl
theorem dX12_named__96 : decode cX12_named_ 96 = .ok (.aload_n 0, 1) := dr9 dk9_dX12_named__0_0.2.1 15 (96, .aload_n 0, 1) rfl
theorem dX12_named__97 : decode cX12_named_ 97 = .ok (.getfield 56, 3) := dr9 dk9_dX12_named__0_0.2.1 16 (97, .getfield 56, 3) rfl
theorem dX12_named__100 : decode cX12_named_ 100 = .ok (.bipush 12, 2) := dr9 dk9_dX12_named__0_0.2.1 17 (100, .bipush 12, 2) rfl
theorem dX12_named__102 : decode cX12_named_ 102 = .ok (.aload_n 0, 1) := dr9 dk9_dX12_named__0_0.2.1 18 (102, .aload_n 0, 1) rfl
theorem dX12_named__103 : decode cX12_named_ 103 = .ok (.getfield 286, 3) := dr9 dk9_dX12_named__0_0.2.1 19 (103, .getfield 286, 3) rfl
theorem dX12_named__106 : decode cX12_named_ 106 = .ok (.imul, 1) := dr9 dk9_dX12_named__0_0.2.1 20 (106, .imul, 1) rfl
theorem dX12_named__107 : decode cX12_named_ 107 = .ok (.aload_n 0, 1) := dr9 dk9_dX12_named__0_0.2.1 21 (107, .aload_n 0, 1) rfl
theorem dX12_named__108 : decode cX12_named_ 108 = .ok (.getfield 53, 3) := dr9 dk9_dX12_named__0_0.2.1 22 (108, .getfield 53, 3) rfl
theorem dX12_named__111 : decode cX12_named_ 111 = .ok (.aload_n 0, 1) := dr9 dk9_dX12_named__0_0.2.1 23 (111, .aload_n 0, 1) rfl
theorem dX12_named__112 : decode cX12_named_ 112 = .ok (.getfield 286, 3) := dr9 dk9_dX12_named__0_0.2.2.1 0 (112, .getfield 286, 3) rfl
theorem dX12_named__115 : decode cX12_named_ 115 = .ok (.iaload, 1) := dr9 dk9_dX12_named__0_0.2.2.1 1 (115, .iaload, 1) rfl
theorem dX12_named__116 : decode cX12_named_ 116 = .ok (.aload_n 0, 1) := dr9 dk9_dX12_named__0_0.2.2.1 2 (116, .aload_n 0, 1) rfl
theorem dX12_named__117 : decode cX12_named_ 117 = .ok (.getfield 30, 3) := dr9 dk9_dX12_named__0_0.2.2.1 3 (117, .getfield 30, 3) rfl
theorem dX12_named__120 : decode cX12_named_ 120 = .ok (.iconst 0, 1) := dr9 dk9_dX12_named__0_0.2.2.1 4 (120, .iconst 0, 1) rfl
theorem dX12_named__121 : decode cX12_named_ 121 = .ok (.laload, 1) := dr9 dk9_dX12_named__0_0.2.2.1 5 (121, .laload, 1) rfl
theorem dX12_named__122 : decode cX12_named_ 122 = .ok (.invokevirtual 317, 3) := dr9 dk9_dX12_named__0_0.2.2.1 6 (122, .invokevirtual 317, 3) rfl
theorem dX12_named__125 : decode cX12_named_ 125 = .ok (.ireturn, 1) := dr9 dk9_dX12_named__0_0.2.2.1 7 (125, .ireturn, 1) rfl
theorem dX12_named__126 : decode cX12_named_ 126 = .ok (.aload_n 0, 1) := dr9 dk9_dX12_named__0_0.2.2.1 8 (126, .aload_n 0, 1) rfl
theorem dX12_named__127 : decode cX12_named_ 127 = .ok (.aload_n 0, 1) := dr9 dk9_dX12_named__0_0.2.2.1 9 (127, .aload_n 0, 1) rfl
theorem dX12_named__128 : decode cX12_named_ 128 = .ok (.getfield 65, 3) := dr9 dk9_dX12_named__0_0.2.2.1 10 (128, .getfield 65, 3) rfl
theorem dX12_named__131 : decode cX12_named_ 131 = .ok (.bipush 24, 2) := dr9 dk9_dX12_named__0_0.2.2.1 11 (131, .bipush 24, 2) rfl
theorem dX12_named__133 : decode cX12_named_ 133 = .ok (.aload_n 0, 1) := dr9 dk9_dX12_named__0_0.2.2.1 12 (133, .aload_n 0, 1) rfl
theorem dX12_named__134 : decode cX12_named_ 134 = .ok (.getfield 286, 3) := dr9 dk9_dX12_named__0_0.2.2.1 13 (134, .getfield 286, 3) rfl
theorem dX12_named__137 : decode cX12_named_ 137 = .ok (.imul, 1) := dr9 dk9_dX12_named__0_0.2.2.1 14 (137, .imul, 1) rfl
theorem dX12_named__138 : decode cX12_named_ 138 = .ok (.aload_n 0, 1) := dr9 dk9_dX12_named__0_0.2.2.1 15 (138, .aload_n 0, 1) rfl
theorem dX12_named__139 : decode cX12_named_ 139 = .ok (.getfield 62, 3) := dr9 dk9_dX12_named__0_0.2.2.1 16 (139, .getfield 62, 3) rfl
theorem dX12_named__142 : decode cX12_named_ 142 = .ok (.aload_n 0, 1) := dr9 dk9_dX12_named__0_0.2.2.1 17 (142, .aload_n 0, 1) rfl
theorem dX12_named__143 : decode cX12_named_ 143 = .ok (.getfield 286, 3) := dr9 dk9_dX12_named__0_0.2.2.1 18 (143, .getfield 286, 3) rfl
theorem dX12_named__146 : decode cX12_named_ 146 = .ok (.iaload, 1) := dr9 dk9_dX12_named__0_0.2.2.1 19 (146, .iaload, 1) rfl
theorem dX12_named__147 : decode cX12_named_ 147 = .ok (.aload_n 0, 1) := dr9 dk9_dX12_named__0_0.2.2.1 20 (147, .aload_n 0, 1) rfl
theorem dX12_named__148 : decode cX12_named_ 148 = .ok (.getfield 30, 3) := dr9 dk9_dX12_named__0_0.2.2.1 21 (148, .getfield 30, 3) rfl
theorem dX12_named__151 : decode cX12_named_ 151 = .ok (.iconst 0, 1) := dr9 dk9_dX12_named__0_0.2.2.1 22 (151, .iconst 0, 1) rfl
theorem dX12_named__152 : decode cX12_named_ 152 = .ok (.laload, 1) := dr9 dk9_dX12_named__0_0.2.2.1 23 (152, .laload, 1) rfl
theorem dX12_named__153 : decode cX12_named_ 153 = .ok (.invokevirtual 317, 3) := dr9 dk9_dX12_named__0_0.2.2.2.1 0 (153, .invokevirtual 317, 3) rfl
theorem dX12_named__156 : decode cX12_named_ 156 = .ok (.ireturn, 1) := dr9 dk9_dX12_named__0_0.2.2.2.1 1 (156, .ireturn, 1) rfl
theorem dX12_named__157 : decode cX12_named_ 157 = .ok (.aload_n 0, 1) := dr9 dk9_dX12_named__0_0.2.2.2.1 2 (157, .aload_n 0, 1) rfl
theorem dX12_named__158 : decode cX12_named_ 158 = .ok (.aload_n 0, 1) := dr9 dk9_dX12_named__0_0.2.2.2.1 3 (158, .aload_n 0, 1) rfl
theorem dX12_named__159 : decode cX12_named_ 159 = .ok (.getfield 113, 3) := dr9 dk9_dX12_named__0_0.2.2.2.1 4 (159, .getfield 113, 3) rfl
theorem dX12_named__162 : decode cX12_named_ 162 = .ok (.bipush 20, 2) := dr9 dk9_dX12_named__0_0.2.2.2.1 5 (162, .bipush 20, 2) rfl
theorem dX12_named__164 : decode cX12_named_ 164 = .ok (.aload_n 0, 1) := dr9 dk9_dX12_named__0_0.2.2.2.1 6 (164, .aload_n 0, 1) rfl
theorem dX12_named__165 : decode cX12_named_ 165 = .ok (.getfield 286, 3) := dr9 dk9_dX12_named__0_0.2.2.2.1 7 (165, .getfield 286, 3) rfl
theorem dX12_named__168 : decode cX12_named_ 168 = .ok (.imul, 1) := dr9 dk9_dX12_named__0_0.2.2.2.1 8 (168, .imul, 1) rfl
theorem dX12_named__169 : decode cX12_named_ 169 = .ok (.aload_n 0, 1) := dr9 dk9_dX12_named__0_0.2.2.2.1 9 (169, .aload_n 0, 1) rfl
theorem dX12_named__170 : decode cX12_named_ 170 = .ok (.getfield 110, 3) := dr9 dk9_dX12_named__0_0.2.2.2.1 10 (170, .getfield 110, 3) rfl
theorem dX12_named__173 : decode cX12_named_ 173 = .ok (.aload_n 0, 1) := dr9 dk9_dX12_named__0_0.2.2.2.1 11 (173, .aload_n 0, 1) rfl
theorem dX12_named__174 : decode cX12_named_ 174 = .ok (.getfield 286, 3) := dr9 dk9_dX12_named__0_0.2.2.2.1 12 (174, .getfield 286, 3) rfl
theorem dX12_named__177 : decode cX12_named_ 177 = .ok (.iaload, 1) := dr9 dk9_dX12_named__0_0.2.2.2.1 13 (177, .iaload, 1) rfl
theorem dX12_named__178 : decode cX12_named_ 178 = .ok (.aload_n 0, 1) := dr9 dk9_dX12_named__0_0.2.2.2.1 14 (178, .aload_n 0, 1) rfl
theorem dX12_named__179 : decode cX12_named_ 179 = .ok (.getfield 30, 3) := dr9 dk9_dX12_named__0_0.2.2.2.1 15 (179, .getfield 30, 3) rfl
theorem dX12_named__182 : decode cX12_named_ 182 = .ok (.iconst 0, 1) := dr9 dk9_dX12_named__0_0.2.2.2.1 16 (182, .iconst 0, 1) rfl
theorem dX12_named__183 : decode cX12_named_ 183 = .ok (.laload, 1) := dr9 dk9_dX12_named__0_0.2.2.2.1 17 (183, .laload, 1) rfl
theorem dX12_named__184 : decode cX12_named_ 184 = .ok (.invokevirtual 317, 3) := dr9 dk9_dX12_named__0_0.2.2.2.1 18 (184, .invokevirtual 317, 3) rfl
theorem dX12_named__187 : decode cX12_named_ 187 = .ok (.ireturn, 1) := dr9 dk9_dX12_named__0_0.2.2.2.1 19 (187, .ireturn, 1) rfl
theorem dX12_named__188 : decode cX12_named_ 188 = .ok (.aload_n 0, 1) := dr9 dk9_dX12_named__0_0.2.2.2.1 20 (188, .aload_n 0, 1) rfl
theorem dX12_named__189 : decode cX12_named_ 189 = .ok (.aload_n 0, 1) := dr9 dk9_dX12_named__0_0.2.2.2.1 21 (189, .aload_n 0, 1) rfl
theorem dX12_named__190 : decode cX12_named_ 190 = .ok (.getfield 119, 3) := dr9 dk9_dX12_named__0_0.2.2.2.1 22 (190, .getfield 119, 3) rfl
theorem dX12_named__193 : decode cX12_named_ 193 = .ok (.bipush 20, 2) := dr9 dk9_dX12_named__0_0.2.2.2.1 23 (193, .bipush 20, 2) rfl
theorem dX12_named__195 : decode cX12_named_ 195 = .ok (.aload_n 0, 1) := dr9 dk9_dX12_named__0_0.2.2.2.2 0 (195, .aload_n 0, 1) rfl
theorem dX12_named__196 : decode cX12_named_ 196 = .ok (.getfield 286, 3) := dr9 dk9_dX12_named__0_0.2.2.2.2 1 (196, .getfield 286, 3) rfl
theorem dX12_named__199 : decode cX12_named_ 199 = .ok (.imul, 1) := dr9 dk9_dX12_named__0_0.2.2.2.2 2 (199, .imul, 1) rfl
theorem dX12_named__200 : decode cX12_named_ 200 = .ok (.aload_n 0, 1) := dr9 dk9_dX12_named__0_0.2.2.2.2 3 (200, .aload_n 0, 1) rfl
theorem dX12_named__201 : decode cX12_named_ 201 = .ok (.getfield 116, 3) := dr9 dk9_dX12_named__0_0.2.2.2.2 4 (201, .getfield 116, 3) rfl
theorem dX12_named__204 : decode cX12_named_ 204 = .ok (.aload_n 0, 1) := dr9 dk9_dX12_named__0_0.2.2.2.2 5 (204, .aload_n 0, 1) rfl
theorem dX12_named__205 : decode cX12_named_ 205 = .ok (.getfield 286, 3) := dr9 dk9_dX12_named__0_0.2.2.2.2 6 (205, .getfield 286, 3) rfl
theorem dX12_named__208 : decode cX12_named_ 208 = .ok (.iaload, 1) := dr9 dk9_dX12_named__0_0.2.2.2.2 7 (208, .iaload, 1) rfl
theorem dX12_named__209 : decode cX12_named_ 209 = .ok (.aload_n 0, 1) := dr9 dk9_dX12_named__0_0.2.2.2.2 8 (209, .aload_n 0, 1) rfl
theorem dX12_named__210 : decode cX12_named_ 210 = .ok (.getfield 30, 3) := dr9 dk9_dX12_named__0_0.2.2.2.2 9 (210, .getfield 30, 3) rfl
theorem dX12_named__213 : decode cX12_named_ 213 = .ok (.iconst 0, 1) := dr9 dk9_dX12_named__0_0.2.2.2.2 10 (213, .iconst 0, 1) rfl
theorem dX12_named__214 : decode cX12_named_ 214 = .ok (.laload, 1) := dr9 dk9_dX12_named__0_0.2.2.2.2 11 (214, .laload, 1) rfl
theorem dX12_named__215 : decode cX12_named_ 215 = .ok (.invokevirtual 317, 3) := dr9 dk9_dX12_named__0_0.2.2.2.2 12 (215, .invokevirtual 317, 3) rfl
theorem dX12_named__218 : decode cX12_named_ 218 = .ok (.ireturn, 1) := dr9 dk9_dX12_named__0_0.2.2.2.2 13 (218, .ireturn, 1) rfl
theorem dX12_named__219 : decode cX12_named_ 219 = .ok (.iconst (-1), 1) := dr9 dk9_dX12_named__0_0.2.2.2.2 14 (219, .iconst (-1), 1) rfl
theorem dX12_named__220 : decode cX12_named_ 220 = .ok (.ireturn, 1) := dr9 dk9_dX12_named__0_0.2.2.2.2 15 (220, .ireturn, 1) rfl
abbrev r_s_namedI : Room := { frames := 3, cells := 0, slots := 0, locals := 66 }
abbrev q_s_namedI (D : va_G) (ks : KS) (ad : Nat → Nat) (kk : Nat → ClassId) (V : Vf) (L : Lf) (p0 : Int32) (A : Nat → Prop) : Array Value → State → Outcome → State → Prop := va_Qi (fun (r : Int32) (u : Vf × Lf) => rgd bM u.1 ∧ agr [(0, 0), (0, 2), (0, 3), (0, 7), (0, 8)] [4, 5, 6] V u.1 ∧ agL [4, 5, 6] L u.2 ∧ ((u.1 0 2).toInt = 0)) (fun u t => gq D A (mw ad kk ks.1 u.1 u.2) (mty kk) t) A
set_option maxHeartbeats 4000000 in
set_option maxRecDepth 100000 in
theorem s_namedI (l : Launch) (D : va_G) (ks : KS) (sz : Nat) (ad : Nat → Nat) (kk : Nat → ClassId) (V : Vf) (L : Lf) (p0 : Int32) (hMV : rgd bM V)  : Met l yX12_named_ (Cond.code yX12_named_ cX12_named_ 2 (some .int) :: GW) r_s_namedI (va_Pc [.ref (ad 0), .int p0] (gp D ks (mw ad kk ks.1 V L) (mty kk) sz)) (q_s_namedI D ks ad kk V L p0 (va_A (mw ad kk ks.1 V L) sz)) 0 0 (va_A (mw ad kk ks.1 V L) sz) := by
  refine g_met (q_s_namedI D ks ad kk V L p0) (by decide) (Nat.le_of_ble_eq_true rfl) ?_
  intro p e s m below meth c A ls H locs hx hb hr hml hown hg hlocks hin hnw hgk hP hK hD hS hA hl
  replace hown : s.vm.findClass RX12 = some m.cls := hown
  replace hl : lv_has ls 2 [(0, .ref (ad 0)), (1, .int p0)] := hl
  replace hP : va_P D vwCl (mw ad kk ks.1 V L) H := hP
  replace hD : va_D A (mw ad kk ks.1 V L) := hD
  replace hK : va_K D vwCl (mty kk) s := hK
  have agV : agr [(0, 0), (0, 2), (0, 3), (0, 7), (0, 8)] [4, 5, 6] V V := agr.rf
  have alL : agL [4, 5, 6] L L := agL.rf
  refine lv_aload_n hx hb dX12_named__0 rfl (lv_at hl 0 rfl) ?_
  refine lv_iconst (v := 0) hx hb dX12_named__1 (by decide) ?_
  refine va_put (D := D) (ci := 12) (v := .int 0) (ty := tyX12 0) (C := RX12) (T := TX12) (N := 100) hx hb hg inX12 tyX12 tyX12_ok nmX12 hown hK hP hD hS 0 rfl rfl 0 (by decide) (hg _ w1706) (fun _ h9 => h9) rfl (tyX12_ok 0 (by decide)) rfl rfl (Nat.le_of_ble_eq_true rfl) dX12_named__2 (fun H locs hP hD hS => ?_)
  obtain ⟨V1, hV1⟩ : ∃ z, z = up2 V 0 0 0 := ⟨_, rfl⟩
  have hP : va_P D vwCl (mw ad kk ks.1 V1 L) H := by rw [hV1]; exact hP
  have hD : va_D A (mw ad kk ks.1 V1 L) := by rw [hV1]; exact hD
  have hMV1 : rgd bM V1 := hMV.put hV1 (i_full _)
  have agV1 : agr [(0, 0), (0, 2), (0, 3), (0, 7), (0, 8)] [4, 5, 6] V V1 := agV.up hV1 rfl
  refine lv_aload_n hx hb dX12_named__5 rfl (lv_at hl 0 rfl) ?_
  refine gA_void (gA_runV (As := []) (rest := []) (ci := 12) (q0 := 0) hx hb hml hown hg hP hD hK hS hA hnw hgk (s_cutAll l D ks H.size ad kk V1 L  hMV1 ) w2011 w2013 w82 w172 w2014 rfl rfl hdV_yX12_cutAll ⟨Nat.le_of_ble_eq_true rfl, Nat.le_of_ble_eq_true rfl⟩ rfl hl.1 rfl (Nat.le_of_ble_eq_true rfl) dX12_named__6 ⟨Nat.le_of_ble_eq_true rfl, Nat.le_of_ble_eq_true rfl⟩) hP hD hK hS hA (fun u3 H locs w4 hP hD hK hS => ?_)
  obtain ⟨V9, L10⟩ := u3
  obtain ⟨hMV9, ajV9, axL10, t5, t6, t7, t8⟩ := w4
  have alL10 : agL [4, 5, 6] L L10 := agL.tr alL axL10 (by decide)
  replace hP : va_P D vwCl (mw ad kk ks.1 V9 L10) H := hP
  replace hD : va_D A (mw ad kk ks.1 V9 L10) := hD
  replace hMV9 : rgd bM V9 := hMV9
  replace ajV9 : agr [(0, 2), (0, 3), (0, 7), (0, 8)] [4, 5, 6] V1 V9 := ajV9
  have agV9 : agr [(0, 0), (0, 2), (0, 3), (0, 7), (0, 8)] [4, 5, 6] V V9 := agV1.tr ajV9 (by decide) (by decide)
  replace t5 : (V9 0 8).toInt = 0 := t5
  replace t6 : (V9 0 7).toInt = 0 := t6
  replace t7 : (V9 0 2).toInt = 0 := t7
  replace t8 : ∃ n : Nat, n ≤ 4000 ∧ (V9 4 n).toInt = 0 := t8
  have r11 : 0 ≤ ((V9 0 8)).toInt ∧ ((V9 0 8)).toInt ≤ 70000 := hMV9 0 8
  have r12 : 0 ≤ ((V9 0 2)).toInt ∧ ((V9 0 2)).toInt ≤ 4000 := hMV9 0 2
  refine lv_aload_n hx hb dX12_named__9 rfl (lv_at hl 0 rfl) ?_
  refine va_get (D := D) (ci := 12) (v := .ref (ad 4)) (C := RX12) (T := TX12) (N := 100) hx hb hg inX12 hown hK hP 0 rfl rfl 4 (by decide) (hg _ w1710) (fun _ h9 => h9) rfl dX12_named__10 ?_
  refine lv_iconst (v := 0) hx hb dX12_named__13 (by decide) ?_
  refine va_iald (D := D) (i := 0) hx hb hK hP 2 1 rfl rfl (i_in (a := 0) (by decide) (by decide)) dX12_named__14 ?_
  refine g_top (v := V9 4 0) (congrArg (V9 4) (by decide)) ?_
  refine lv_iconst (v := 1) hx hb dX12_named__15 (by decide) ?_
  refine lv_icmp_ne (tgt := 28) hx hb dX12_named__16 (by decide) (fun c13 => ?_) (fun c13 => ?_)
  · skip
    have f14 : ((V9 4 0)).toInt ≠ 1 := b_neq rfl (by decide) c13
    refine lv_iconst (v := (-1)) hx hb dX12_named__28 (by decide) ?_
    exact W.iret (v := (-1)) hx hb hr (fun t ht hW => ⟨⟨(-1), (V9, L10), rfl, ⟨hMV9, agV9, alL10, (show (V9 0 2).toInt = 0 from by omega)⟩, by rw [ht]; exact hP, va_K.moved hW.alike hK, hD⟩, hS.F ht⟩) hS.2.2 dX12_named__29
  · skip
    have f15 : ((V9 4 0)).toInt = 1 := b_eq rfl (by decide) c13
    refine lv_aload_n hx hb dX12_named__19 rfl (lv_at hl 0 rfl) ?_
    refine va_get (D := D) (ci := 12) (v := .ref (ad 4)) (C := RX12) (T := TX12) (N := 100) hx hb hg inX12 hown hK hP 0 rfl rfl 4 (by decide) (hg _ w1710) (fun _ h9 => h9) rfl dX12_named__20 ?_
    refine lv_iconst (v := 1) hx hb dX12_named__23 (by decide) ?_
    refine va_iald (D := D) (i := 1) hx hb hK hP 2 1 rfl rfl (i_in (a := 1) (by decide) (by decide)) dX12_named__24 ?_
    refine g_top (v := V9 4 1) (congrArg (V9 4) (by decide)) ?_
    refine lv_if_eq (tgt := 30) hx hb dX12_named__25 (by decide) (fun c16 => ?_) (fun c16 => ?_)
    · skip
      have f17 : ((V9 4 1)).toInt = 0 := b_eq rfl (by decide) c16
      refine lv_iload_n hx hb dX12_named__30 rfl (lv_at hl 1 rfl) ?_
      by_cases q18 : p0 = 0
      · refine g_top (v := 0) q18 ?_
        have fq18 : p0.toInt = 0 := b_eq rfl (by decide) q18
        refine lv_tableIn (x := 0) (off := 33) (tgt := 64) hx hb dX12_named__31 (by decide) (by decide) (by decide) (by decide) ?_
        refine lv_aload_n hx hb dX12_named__64 rfl (lv_at hl 0 rfl) ?_
        refine lv_aload_n hx hb dX12_named__65 rfl (lv_at hl 0 rfl) ?_
        refine va_get (D := D) (ci := 12) (v := .ref (ad 14)) (C := RX12) (T := TX12) (N := 100) hx hb hg inX12 hown hK hP 0 rfl rfl 14 (by decide) (hg _ w1720) (fun _ h9 => h9) rfl dX12_named__66 ?_
        refine lv_bipush (v := 24) hx hb dX12_named__69 (by decide) ?_
        refine lv_aload_n hx hb dX12_named__71 rfl (lv_at hl 0 rfl) ?_
        refine va_get (D := D) (ci := 12) (v := .int (V9 0 11)) (C := RX12) (T := TX12) (N := 100) hx hb hg inX12 hown hK hP 0 rfl rfl 11 (by decide) (hg _ w1717) (fun _ h9 => h9) rfl dX12_named__72 ?_
        refine g_top (v := (V 0 11)) ((ajV9 0 11 rfl).trans (up2_k hV1 (by decide))) ?_
        have r19 : 0 ≤ ((V 0 11)).toInt ∧ ((V 0 11)).toInt ≤ 1 := hMV 0 11
        refine lv_imul hx hb dX12_named__75 ?_
        refine lv_topi (fun z20 ez20 => ?_)
        have hz20 : z20.toInt = 24 * ((V 0 11)).toInt := i_mul ez20 (by decide) rfl (by omega)
        refine lv_aload_n hx hb dX12_named__76 rfl (lv_at hl 0 rfl) ?_
        refine va_get (D := D) (ci := 12) (v := .ref (ad 13)) (C := RX12) (T := TX12) (N := 100) hx hb hg inX12 hown hK hP 0 rfl rfl 13 (by decide) (hg _ w1719) (fun _ h9 => h9) rfl dX12_named__77 ?_
        refine lv_aload_n hx hb dX12_named__80 rfl (lv_at hl 0 rfl) ?_
        refine va_get (D := D) (ci := 12) (v := .int (V9 0 11)) (C := RX12) (T := TX12) (N := 100) hx hb hg inX12 hown hK hP 0 rfl rfl 11 (by decide) (hg _ w1717) (fun _ h9 => h9) rfl dX12_named__81 ?_
        refine g_top (v := (V 0 11)) ((ajV9 0 11 rfl).trans (up2_k hV1 (by decide))) ?_
        refine va_iald (D := D) (i := (V 0 11)) hx hb hK hP 6 5 rfl rfl (i_in (a := ((V 0 11)).toInt) rfl (by omega)) dX12_named__84 ?_
        refine g_top (v := (V 13 (Int32.toNatClampNeg (V 0 11)))) ((ajV9 13 (Int32.toNatClampNeg (V 0 11)) rfl).trans (up2_o hV1 (by decide))) ?_
        have r21 : 0 ≤ ((V 13 (Int32.toNatClampNeg (V 0 11)))).toInt ∧ ((V 13 (Int32.toNatClampNeg (V 0 11)))).toInt ≤ 24 := hMV 13 (Int32.toNatClampNeg (V 0 11))
        refine lv_aload_n hx hb dX12_named__85 rfl (lv_at hl 0 rfl) ?_
        refine va_get (D := D) (ci := 12) (v := .ref (ad 6)) (C := RX12) (T := TX12) (N := 100) hx hb hg inX12 hown hK hP 0 rfl rfl 6 (by decide) (hg _ w1712) (fun _ h9 => h9) rfl dX12_named__86 ?_
        refine lv_iconst (v := 0) hx hb dX12_named__89 (by decide) ?_
        refine va_lald (D := D) (i := 0) hx hb hK hP 4 3 rfl rfl (i_in (a := 0) (by decide) (by decide)) dX12_named__90 ?_
        refine lv_topl (fun w22 ew22 => ?_)
        refine gA_int (gA_runV (As := [.ref (ad 14), .int z20, .int (V 13 (Int32.toNatClampNeg (V 0 11))), .long w22]) (rest := []) (ci := 12) (q0 := 0) hx hb hml hown hg hP hD hK hS hA hnw hgk (s_find_typeName l D ks H.size ad kk V9 L10 z20 (V 13 (Int32.toNatClampNeg (V 0 11))) w22 hMV9 (by omega) (by omega) (show z20.toInt + ((V 13 (Int32.toNatClampNeg (V 0 11)))).toInt ≤ 48 from by omega)) w2047 w2049 w89 w172 w2050 rfl rfl hdV_yX12_find ⟨Nat.le_of_ble_eq_true rfl, Nat.le_of_ble_eq_true rfl⟩ rfl hl.1 rfl (Nat.le_of_ble_eq_true rfl) dX12_named__91 ⟨Nat.le_of_ble_eq_true rfl, Nat.le_of_ble_eq_true rfl⟩) hP hD hK hS hA (fun z23 u24 H locs w25 hP hD hK hS => ?_)
        obtain ⟨rgz23, t26⟩ := w25
        replace rgz23 : (-1) ≤ z23.toInt ∧ z23.toInt ≤ 47 := rgz23
        replace t26 : z23.toInt < ((V 13 (Int32.toNatClampNeg (V 0 11)))).toInt := t26
        exact W.iret (v := z23) hx hb hr (fun t ht hW => ⟨⟨z23, (V9, L10), rfl, ⟨hMV9, agV9, alL10, (show (V9 0 2).toInt = 0 from by omega)⟩, by rw [ht]; exact hP, va_K.moved hW.alike hK, hD⟩, hS.F ht⟩) hS.2.2 dX12_named__94
      by_cases q27 : p0 = 1
      · refine g_top (v := 1) q27 ?_
        have fq27 : p0.toInt = 1 := b_eq rfl (by decide) q27
        refine lv_tableIn (x := 1) (off := 64) (tgt := 95) hx hb dX12_named__31 (by decide) (by decide) (by decide) (by decide) ?_
        refine lv_aload_n hx hb dX12_named__95 rfl (lv_at hl 0 rfl) ?_
        refine lv_aload_n hx hb dX12_named__96 rfl (lv_at hl 0 rfl) ?_
        refine va_get (D := D) (ci := 12) (v := .ref (ad 17)) (C := RX12) (T := TX12) (N := 100) hx hb hg inX12 hown hK hP 0 rfl rfl 17 (by decide) (hg _ w1723) (fun _ h9 => h9) rfl dX12_named__97 ?_
        refine lv_bipush (v := 12) hx hb dX12_named__100 (by decide) ?_
        refine lv_aload_n hx hb dX12_named__102 rfl (lv_at hl 0 rfl) ?_
        refine va_get (D := D) (ci := 12) (v := .int (V9 0 11)) (C := RX12) (T := TX12) (N := 100) hx hb hg inX12 hown hK hP 0 rfl rfl 11 (by decide) (hg _ w1717) (fun _ h9 => h9) rfl dX12_named__103 ?_
        refine g_top (v := (V 0 11)) ((ajV9 0 11 rfl).trans (up2_k hV1 (by decide))) ?_
        have r28 : 0 ≤ ((V 0 11)).toInt ∧ ((V 0 11)).toInt ≤ 1 := hMV 0 11
        refine lv_imul hx hb dX12_named__106 ?_
        refine lv_topi (fun z29 ez29 => ?_)
        have hz29 : z29.toInt = 12 * ((V 0 11)).toInt := i_mul ez29 (by decide) rfl (by omega)
        refine lv_aload_n hx hb dX12_named__107 rfl (lv_at hl 0 rfl) ?_
        refine va_get (D := D) (ci := 12) (v := .ref (ad 16)) (C := RX12) (T := TX12) (N := 100) hx hb hg inX12 hown hK hP 0 rfl rfl 16 (by decide) (hg _ w1722) (fun _ h9 => h9) rfl dX12_named__108 ?_
        refine lv_aload_n hx hb dX12_named__111 rfl (lv_at hl 0 rfl) ?_
        refine va_get (D := D) (ci := 12) (v := .int (V9 0 11)) (C := RX12) (T := TX12) (N := 100) hx hb hg inX12 hown hK hP 0 rfl rfl 11 (by decide) (hg _ w1717) (fun _ h9 => h9) rfl dX12_named__112 ?_
        refine g_top (v := (V 0 11)) ((ajV9 0 11 rfl).trans (up2_k hV1 (by decide))) ?_
        refine va_iald (D := D) (i := (V 0 11)) hx hb hK hP 9 8 rfl rfl (i_in (a := ((V 0 11)).toInt) rfl (by omega)) dX12_named__115 ?_
        refine g_top (v := (V 16 (Int32.toNatClampNeg (V 0 11)))) ((ajV9 16 (Int32.toNatClampNeg (V 0 11)) rfl).trans (up2_o hV1 (by decide))) ?_
        have r30 : 0 ≤ ((V 16 (Int32.toNatClampNeg (V 0 11)))).toInt ∧ ((V 16 (Int32.toNatClampNeg (V 0 11)))).toInt ≤ 12 := hMV 16 (Int32.toNatClampNeg (V 0 11))
        refine lv_aload_n hx hb dX12_named__116 rfl (lv_at hl 0 rfl) ?_
        refine va_get (D := D) (ci := 12) (v := .ref (ad 6)) (C := RX12) (T := TX12) (N := 100) hx hb hg inX12 hown hK hP 0 rfl rfl 6 (by decide) (hg _ w1712) (fun _ h9 => h9) rfl dX12_named__117 ?_
        refine lv_iconst (v := 0) hx hb dX12_named__120 (by decide) ?_
        refine va_lald (D := D) (i := 0) hx hb hK hP 4 3 rfl rfl (i_in (a := 0) (by decide) (by decide)) dX12_named__121 ?_
        refine lv_topl (fun w31 ew31 => ?_)
        refine gA_int (gA_runV (As := [.ref (ad 17), .int z29, .int (V 16 (Int32.toNatClampNeg (V 0 11))), .long w31]) (rest := []) (ci := 12) (q0 := 0) hx hb hml hown hg hP hD hK hS hA hnw hgk (s_find_settingName l D ks H.size ad kk V9 L10 z29 (V 16 (Int32.toNatClampNeg (V 0 11))) w31 hMV9 (by omega) (by omega) (show z29.toInt + ((V 16 (Int32.toNatClampNeg (V 0 11)))).toInt ≤ 24 from by omega)) w2047 w2049 w89 w172 w2050 rfl rfl hdV_yX12_find ⟨Nat.le_of_ble_eq_true rfl, Nat.le_of_ble_eq_true rfl⟩ rfl hl.1 rfl (Nat.le_of_ble_eq_true rfl) dX12_named__122 ⟨Nat.le_of_ble_eq_true rfl, Nat.le_of_ble_eq_true rfl⟩) hP hD hK hS hA (fun z32 u33 H locs w34 hP hD hK hS => ?_)
        obtain ⟨rgz32, t35⟩ := w34
        replace rgz32 : (-1) ≤ z32.toInt ∧ z32.toInt ≤ 47 := rgz32
        replace t35 : z32.toInt < ((V 16 (Int32.toNatClampNeg (V 0 11)))).toInt := t35
        exact W.iret (v := z32) hx hb hr (fun t ht hW => ⟨⟨z32, (V9, L10), rfl, ⟨hMV9, agV9, alL10, (show (V9 0 2).toInt = 0 from by omega)⟩, by rw [ht]; exact hP, va_K.moved hW.alike hK, hD⟩, hS.F ht⟩) hS.2.2 dX12_named__125
      by_cases q36 : p0 = 2
      · refine g_top (v := 2) q36 ?_
        have fq36 : p0.toInt = 2 := b_eq rfl (by decide) q36
        refine lv_tableIn (x := 2) (off := 95) (tgt := 126) hx hb dX12_named__31 (by decide) (by decide) (by decide) (by decide) ?_
        refine lv_aload_n hx hb dX12_named__126 rfl (lv_at hl 0 rfl) ?_
        refine lv_aload_n hx hb dX12_named__127 rfl (lv_at hl 0 rfl) ?_
        refine va_get (D := D) (ci := 12) (v := .ref (ad 20)) (C := RX12) (T := TX12) (N := 100) hx hb hg inX12 hown hK hP 0 rfl rfl 20 (by decide) (hg _ w1726) (fun _ h9 => h9) rfl dX12_named__128 ?_
        refine lv_bipush (v := 24) hx hb dX12_named__131 (by decide) ?_
        refine lv_aload_n hx hb dX12_named__133 rfl (lv_at hl 0 rfl) ?_
        refine va_get (D := D) (ci := 12) (v := .int (V9 0 11)) (C := RX12) (T := TX12) (N := 100) hx hb hg inX12 hown hK hP 0 rfl rfl 11 (by decide) (hg _ w1717) (fun _ h9 => h9) rfl dX12_named__134 ?_
        refine g_top (v := (V 0 11)) ((ajV9 0 11 rfl).trans (up2_k hV1 (by decide))) ?_
        have r37 : 0 ≤ ((V 0 11)).toInt ∧ ((V 0 11)).toInt ≤ 1 := hMV 0 11
        refine lv_imul hx hb dX12_named__137 ?_
        refine lv_topi (fun z38 ez38 => ?_)
        have hz38 : z38.toInt = 24 * ((V 0 11)).toInt := i_mul ez38 (by decide) rfl (by omega)
        refine lv_aload_n hx hb dX12_named__138 rfl (lv_at hl 0 rfl) ?_
        refine va_get (D := D) (ci := 12) (v := .ref (ad 19)) (C := RX12) (T := TX12) (N := 100) hx hb hg inX12 hown hK hP 0 rfl rfl 19 (by decide) (hg _ w1725) (fun _ h9 => h9) rfl dX12_named__139 ?_
        refine lv_aload_n hx hb dX12_named__142 rfl (lv_at hl 0 rfl) ?_
        refine va_get (D := D) (ci := 12) (v := .int (V9 0 11)) (C := RX12) (T := TX12) (N := 100) hx hb hg inX12 hown hK hP 0 rfl rfl 11 (by decide) (hg _ w1717) (fun _ h9 => h9) rfl dX12_named__143 ?_
        refine g_top (v := (V 0 11)) ((ajV9 0 11 rfl).trans (up2_k hV1 (by decide))) ?_
        refine va_iald (D := D) (i := (V 0 11)) hx hb hK hP 12 11 rfl rfl (i_in (a := ((V 0 11)).toInt) rfl (by omega)) dX12_named__146 ?_
        refine g_top (v := (V 19 (Int32.toNatClampNeg (V 0 11)))) ((ajV9 19 (Int32.toNatClampNeg (V 0 11)) rfl).trans (up2_o hV1 (by decide))) ?_
        have r39 : 0 ≤ ((V 19 (Int32.toNatClampNeg (V 0 11)))).toInt ∧ ((V 19 (Int32.toNatClampNeg (V 0 11)))).toInt ≤ 24 := hMV 19 (Int32.toNatClampNeg (V 0 11))
        refine lv_aload_n hx hb dX12_named__147 rfl (lv_at hl 0 rfl) ?_
        refine va_get (D := D) (ci := 12) (v := .ref (ad 6)) (C := RX12) (T := TX12) (N := 100) hx hb hg inX12 hown hK hP 0 rfl rfl 6 (by decide) (hg _ w1712) (fun _ h9 => h9) rfl dX12_named__148 ?_
        refine lv_iconst (v := 0) hx hb dX12_named__151 (by decide) ?_
        refine va_lald (D := D) (i := 0) hx hb hK hP 4 3 rfl rfl (i_in (a := 0) (by decide) (by decide)) dX12_named__152 ?_
        refine lv_topl (fun w40 ew40 => ?_)
        refine gA_int (gA_runV (As := [.ref (ad 20), .int z38, .int (V 19 (Int32.toNatClampNeg (V 0 11))), .long w40]) (rest := []) (ci := 12) (q0 := 0) hx hb hml hown hg hP hD hK hS hA hnw hgk (s_find_componentName l D ks H.size ad kk V9 L10 z38 (V 19 (Int32.toNatClampNeg (V 0 11))) w40 hMV9 (by omega) (by omega) (show z38.toInt + ((V 19 (Int32.toNatClampNeg (V 0 11)))).toInt ≤ 48 from by omega)) w2047 w2049 w89 w172 w2050 rfl rfl hdV_yX12_find ⟨Nat.le_of_ble_eq_true rfl, Nat.le_of_ble_eq_true rfl⟩ rfl hl.1 rfl (Nat.le_of_ble_eq_true rfl) dX12_named__153 ⟨Nat.le_of_ble_eq_true rfl, Nat.le_of_ble_eq_true rfl⟩) hP hD hK hS hA (fun z41 u42 H locs w43 hP hD hK hS => ?_)
        obtain ⟨rgz41, t44⟩ := w43
        replace rgz41 : (-1) ≤ z41.toInt ∧ z41.toInt ≤ 47 := rgz41
        replace t44 : z41.toInt < ((V 19 (Int32.toNatClampNeg (V 0 11)))).toInt := t44
        exact W.iret (v := z41) hx hb hr (fun t ht hW => ⟨⟨z41, (V9, L10), rfl, ⟨hMV9, agV9, alL10, (show (V9 0 2).toInt = 0 from by omega)⟩, by rw [ht]; exact hP, va_K.moved hW.alike hK, hD⟩, hS.F ht⟩) hS.2.2 dX12_named__156
      by_cases q45 : p0 = 3
      · refine g_top (v := 3) q45 ?_
        have fq45 : p0.toInt = 3 := b_eq rfl (by decide) q45
        refine lv_tableIn (x := 3) (off := 126) (tgt := 157) hx hb dX12_named__31 (by decide) (by decide) (by decide) (by decide) ?_
        refine lv_aload_n hx hb dX12_named__157 rfl (lv_at hl 0 rfl) ?_
        refine lv_aload_n hx hb dX12_named__158 rfl (lv_at hl 0 rfl) ?_
        refine va_get (D := D) (ci := 12) (v := .ref (ad 36)) (C := RX12) (T := TX12) (N := 100) hx hb hg inX12 hown hK hP 0 rfl rfl 36 (by decide) (hg _ w1742) (fun _ h9 => h9) rfl dX12_named__159 ?_
        refine lv_bipush (v := 20) hx hb dX12_named__162 (by decide) ?_
        refine lv_aload_n hx hb dX12_named__164 rfl (lv_at hl 0 rfl) ?_
        refine va_get (D := D) (ci := 12) (v := .int (V9 0 11)) (C := RX12) (T := TX12) (N := 100) hx hb hg inX12 hown hK hP 0 rfl rfl 11 (by decide) (hg _ w1717) (fun _ h9 => h9) rfl dX12_named__165 ?_
        refine g_top (v := (V 0 11)) ((ajV9 0 11 rfl).trans (up2_k hV1 (by decide))) ?_
        have r46 : 0 ≤ ((V 0 11)).toInt ∧ ((V 0 11)).toInt ≤ 1 := hMV 0 11
        refine lv_imul hx hb dX12_named__168 ?_
        refine lv_topi (fun z47 ez47 => ?_)
        have hz47 : z47.toInt = 20 * ((V 0 11)).toInt := i_mul ez47 (by decide) rfl (by omega)
        refine lv_aload_n hx hb dX12_named__169 rfl (lv_at hl 0 rfl) ?_
        refine va_get (D := D) (ci := 12) (v := .ref (ad 35)) (C := RX12) (T := TX12) (N := 100) hx hb hg inX12 hown hK hP 0 rfl rfl 35 (by decide) (hg _ w1741) (fun _ h9 => h9) rfl dX12_named__170 ?_
        refine lv_aload_n hx hb dX12_named__173 rfl (lv_at hl 0 rfl) ?_
        refine va_get (D := D) (ci := 12) (v := .int (V9 0 11)) (C := RX12) (T := TX12) (N := 100) hx hb hg inX12 hown hK hP 0 rfl rfl 11 (by decide) (hg _ w1717) (fun _ h9 => h9) rfl dX12_named__174 ?_
        refine g_top (v := (V 0 11)) ((ajV9 0 11 rfl).trans (up2_k hV1 (by decide))) ?_
        refine va_iald (D := D) (i := (V 0 11)) hx hb hK hP 28 27 rfl rfl (i_in (a := ((V 0 11)).toInt) rfl (by omega)) dX12_named__177 ?_
        refine g_top (v := (V 35 (Int32.toNatClampNeg (V 0 11)))) ((ajV9 35 (Int32.toNatClampNeg (V 0 11)) rfl).trans (up2_o hV1 (by decide))) ?_
        have r48 : 0 ≤ ((V 35 (Int32.toNatClampNeg (V 0 11)))).toInt ∧ ((V 35 (Int32.toNatClampNeg (V 0 11)))).toInt ≤ 20 := hMV 35 (Int32.toNatClampNeg (V 0 11))
        refine lv_aload_n hx hb dX12_named__178 rfl (lv_at hl 0 rfl) ?_
        refine va_get (D := D) (ci := 12) (v := .ref (ad 6)) (C := RX12) (T := TX12) (N := 100) hx hb hg inX12 hown hK hP 0 rfl rfl 6 (by decide) (hg _ w1712) (fun _ h9 => h9) rfl dX12_named__179 ?_
        refine lv_iconst (v := 0) hx hb dX12_named__182 (by decide) ?_
        refine va_lald (D := D) (i := 0) hx hb hK hP 4 3 rfl rfl (i_in (a := 0) (by decide) (by decide)) dX12_named__183 ?_
        refine lv_topl (fun w49 ew49 => ?_)
        refine gA_int (gA_runV (As := [.ref (ad 36), .int z47, .int (V 35 (Int32.toNatClampNeg (V 0 11))), .long w49]) (rest := []) (ci := 12) (q0 := 0) hx hb hml hown hg hP hD hK hS hA hnw hgk (s_find_methodName l D ks H.size ad kk V9 L10 z47 (V 35 (Int32.toNatClampNeg (V 0 11))) w49 hMV9 (by omega) (by omega) (show z47.toInt + ((V 35 (Int32.toNatClampNeg (V 0 11)))).toInt ≤ 40 from by omega)) w2047 w2049 w89 w172 w2050 rfl rfl hdV_yX12_find ⟨Nat.le_of_ble_eq_true rfl, Nat.le_of_ble_eq_true rfl⟩ rfl hl.1 rfl (Nat.le_of_ble_eq_true rfl) dX12_named__184 ⟨Nat.le_of_ble_eq_true rfl, Nat.le_of_ble_eq_true rfl⟩) hP hD hK hS hA (fun z50 u51 H locs w52 hP hD hK hS => ?_)
        obtain ⟨rgz50, t53⟩ := w52
        replace rgz50 : (-1) ≤ z50.toInt ∧ z50.toInt ≤ 47 := rgz50
        replace t53 : z50.toInt < ((V 35 (Int32.toNatClampNeg (V 0 11)))).toInt := t53
        exact W.iret (v := z50) hx hb hr (fun t ht hW => ⟨⟨z50, (V9, L10), rfl, ⟨hMV9, agV9, alL10, (show (V9 0 2).toInt = 0 from by omega)⟩, by rw [ht]; exact hP, va_K.moved hW.alike hK, hD⟩, hS.F ht⟩) hS.2.2 dX12_named__187
      by_cases q54 : p0 = 4
      · refine g_top (v := 4) q54 ?_
        have fq54 : p0.toInt = 4 := b_eq rfl (by decide) q54
        refine lv_tableIn (x := 4) (off := 157) (tgt := 188) hx hb dX12_named__31 (by decide) (by decide) (by decide) (by decide) ?_
        refine lv_aload_n hx hb dX12_named__188 rfl (lv_at hl 0 rfl) ?_
        refine lv_aload_n hx hb dX12_named__189 rfl (lv_at hl 0 rfl) ?_
        refine va_get (D := D) (ci := 12) (v := .ref (ad 38)) (C := RX12) (T := TX12) (N := 100) hx hb hg inX12 hown hK hP 0 rfl rfl 38 (by decide) (hg _ w1744) (fun _ h9 => h9) rfl dX12_named__190 ?_
        refine lv_bipush (v := 20) hx hb dX12_named__193 (by decide) ?_
        refine lv_aload_n hx hb dX12_named__195 rfl (lv_at hl 0 rfl) ?_
        refine va_get (D := D) (ci := 12) (v := .int (V9 0 11)) (C := RX12) (T := TX12) (N := 100) hx hb hg inX12 hown hK hP 0 rfl rfl 11 (by decide) (hg _ w1717) (fun _ h9 => h9) rfl dX12_named__196 ?_
        refine g_top (v := (V 0 11)) ((ajV9 0 11 rfl).trans (up2_k hV1 (by decide))) ?_
        have r55 : 0 ≤ ((V 0 11)).toInt ∧ ((V 0 11)).toInt ≤ 1 := hMV 0 11
        refine lv_imul hx hb dX12_named__199 ?_
        refine lv_topi (fun z56 ez56 => ?_)
        have hz56 : z56.toInt = 20 * ((V 0 11)).toInt := i_mul ez56 (by decide) rfl (by omega)
        refine lv_aload_n hx hb dX12_named__200 rfl (lv_at hl 0 rfl) ?_
        refine va_get (D := D) (ci := 12) (v := .ref (ad 37)) (C := RX12) (T := TX12) (N := 100) hx hb hg inX12 hown hK hP 0 rfl rfl 37 (by decide) (hg _ w1743) (fun _ h9 => h9) rfl dX12_named__201 ?_
        refine lv_aload_n hx hb dX12_named__204 rfl (lv_at hl 0 rfl) ?_
        refine va_get (D := D) (ci := 12) (v := .int (V9 0 11)) (C := RX12) (T := TX12) (N := 100) hx hb hg inX12 hown hK hP 0 rfl rfl 11 (by decide) (hg _ w1717) (fun _ h9 => h9) rfl dX12_named__205 ?_
        refine g_top (v := (V 0 11)) ((ajV9 0 11 rfl).trans (up2_k hV1 (by decide))) ?_
        refine va_iald (D := D) (i := (V 0 11)) hx hb hK hP 30 29 rfl rfl (i_in (a := ((V 0 11)).toInt) rfl (by omega)) dX12_named__208 ?_
        refine g_top (v := (V 37 (Int32.toNatClampNeg (V 0 11)))) ((ajV9 37 (Int32.toNatClampNeg (V 0 11)) rfl).trans (up2_o hV1 (by decide))) ?_
        have r57 : 0 ≤ ((V 37 (Int32.toNatClampNeg (V 0 11)))).toInt ∧ ((V 37 (Int32.toNatClampNeg (V 0 11)))).toInt ≤ 20 := hMV 37 (Int32.toNatClampNeg (V 0 11))
        refine lv_aload_n hx hb dX12_named__209 rfl (lv_at hl 0 rfl) ?_
        refine va_get (D := D) (ci := 12) (v := .ref (ad 6)) (C := RX12) (T := TX12) (N := 100) hx hb hg inX12 hown hK hP 0 rfl rfl 6 (by decide) (hg _ w1712) (fun _ h9 => h9) rfl dX12_named__210 ?_
        refine lv_iconst (v := 0) hx hb dX12_named__213 (by decide) ?_
        refine va_lald (D := D) (i := 0) hx hb hK hP 4 3 rfl rfl (i_in (a := 0) (by decide) (by decide)) dX12_named__214 ?_
        refine lv_topl (fun w58 ew58 => ?_)
        refine gA_int (gA_runV (As := [.ref (ad 38), .int z56, .int (V 37 (Int32.toNatClampNeg (V 0 11))), .long w58]) (rest := []) (ci := 12) (q0 := 0) hx hb hml hown hg hP hD hK hS hA hnw hgk (s_find_callName l D ks H.size ad kk V9 L10 z56 (V 37 (Int32.toNatClampNeg (V 0 11))) w58 hMV9 (by omega) (by omega) (show z56.toInt + ((V 37 (Int32.toNatClampNeg (V 0 11)))).toInt ≤ 40 from by omega)) w2047 w2049 w89 w172 w2050 rfl rfl hdV_yX12_find ⟨Nat.le_of_ble_eq_true rfl, Nat.le_of_ble_eq_true rfl⟩ rfl hl.1 rfl (Nat.le_of_ble_eq_true rfl) dX12_named__215 ⟨Nat.le_of_ble_eq_true rfl, Nat.le_of_ble_eq_true rfl⟩) hP hD hK hS hA (fun z59 u60 H locs w61 hP hD hK hS => ?_)
        obtain ⟨rgz59, t62⟩ := w61
        replace rgz59 : (-1) ≤ z59.toInt ∧ z59.toInt ≤ 47 := rgz59
        replace t62 : z59.toInt < ((V 37 (Int32.toNatClampNeg (V 0 11)))).toInt := t62
        exact W.iret (v := z59) hx hb hr (fun t ht hW => ⟨⟨z59, (V9, L10), rfl, ⟨hMV9, agV9, alL10, (show (V9 0 2).toInt = 0 from by omega)⟩, by rw [ht]; exact hP, va_K.moved hW.alike hK, hD⟩, hS.F ht⟩) hS.2.2 dX12_named__218
      refine lv_tableOut (x := p0) (tgt := 219) hx hb dX12_named__31 (tab_out p0 4 (by decide) (fun k hk => match k, hk with | 0, _ => q18 | 1, _ => q27 | 2, _ => q36 | 3, _ => q45 | 4, _ => q54 | k + 5, hk => absurd hk (by omega))) (by decide) ?_
      refine lv_iconst (v := (-1)) hx hb dX12_named__219 (by decide) ?_
      exact W.iret (v := (-1)) hx hb hr (fun t ht hW => ⟨⟨(-1), (V9, L10), rfl, ⟨hMV9, agV9, alL10, (show (V9 0 2).toInt = 0 from by omega)⟩, by rw [ht]; exact hP, va_K.moved hW.alike hK, hD⟩, hS.F ht⟩) hS.2.2 dX12_named__220
    · skip
      have f63 : ((V9 4 1)).toInt ≠ 0 := b_neq rfl (by decide) c16
      refine lv_iconst (v := (-1)) hx hb dX12_named__28 (by decide) ?_
      exact W.iret (v := (-1)) hx hb hr (fun t ht hW => ⟨⟨(-1), (V9, L10), rfl, ⟨hMV9, agV9, alL10, (show (V9 0 2).toInt = 0 from by omega)⟩, by rw [ht]; exact hP, va_K.moved hW.alike hK, hD⟩, hS.F ht⟩) hS.2.2 dX12_named__29
