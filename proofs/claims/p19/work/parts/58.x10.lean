section
theorem n601 : lw_tbl[601]? = some (Cond.fieldLinkNest RX1 113 "WiringHouse$Book" "names" "LWiringHouse$Names;" "WiringHouse") := la9 (n := 155) (i := 446) lz9 (la9 (n := 240) (i := 206) ln9_1 (lb9 (i := 206) (by decide +kernel)))
theorem n616 : lw_tbl[616]? = some (Cond.fieldLinkNest RX1 116 "WiringHouse$Book" "components" "[LWiringHouse$Component;" "WiringHouse") := la9 (n := 155) (i := 461) lz9 (la9 (n := 240) (i := 221) ln9_1 (lb9 (i := 221) (by decide +kernel)))
theorem n484 : lw_tbl[484]? = some (Cond.fieldLinkNest RX1 120 "WiringHouse$Names" "size" "I" "WiringHouse") := la9 (n := 155) (i := 329) lz9 (la9 (n := 240) (i := 89) ln9_1 (lb9 (i := 89) (by decide +kernel)))
theorem w917 : Cond.code yX3_clear cX3_clear 1 none ∈ GW := gw_k tk9_4 42 (rfl) rfl
theorem w914 : Cond.methodLink RX1 123 yX3_clear ∈ GW := gw_k tk9_4 39 (by decide +kernel) rfl
theorem w915 : Cond.instanceMethod yX3_clear ∈ GW := gw_k tk9_4 40 (by decide +kernel) rfl
theorem w916 : Cond.selects RX3 yX3_clear yX3_clear ∈ GW := gw_k tk9_4 41 (by decide +kernel) rfl
theorem hdV_yX3_clear : yX3_clear.cls = RX3 ∧ yX3_clear.cls ≠ "java/lang/invoke/MethodHandle" ∧ yX3_clear.cls ≠ "java/lang/invoke/VarHandle" ∧ (parseMethodDescriptor yX3_clear.desc).map (fun d => d.parameters.length) = some 0 := by decide +kernel
theorem n516 : lw_tbl[516]? = some (Cond.fieldLinkNest RX1 126 "WiringHouse$Component" "under" "I" "WiringHouse") := la9 (n := 155) (i := 361) lz9 (la9 (n := 240) (i := 121) ln9_1 (lb9 (i := 121) (by decide +kernel)))
theorem n520 : lw_tbl[520]? = some (Cond.fieldLinkNest RX1 127 "WiringHouse$Component" "scope" "I" "WiringHouse") := la9 (n := 155) (i := 365) lz9 (la9 (n := 240) (i := 125) ln9_1 (lb9 (i := 125) (by decide +kernel)))
theorem w922 : Cond.code yX1_readExtras cX1_readExtras 2 (some .boolean) ∈ GW := gw_k tk9_4 47 (rfl) rfl
theorem w919 : Cond.methodLink RX1 130 yX1_readExtras ∈ GW := gw_k tk9_4 44 (by decide +kernel) rfl
theorem w921 : Cond.instanceMethod yX1_readExtras ∈ GW := gw_k tk9_4 46 (by decide +kernel) rfl
theorem w14 : Cond.selects RX1 yX1_readExtras yX1_readExtras ∈ GW := gw_mem 14 (by decide +kernel) rfl
theorem hdV_yX1_readExtras : yX1_readExtras.cls = RX1 ∧ yX1_readExtras.cls ≠ "java/lang/invoke/MethodHandle" ∧ yX1_readExtras.cls ≠ "java/lang/invoke/VarHandle" ∧ (parseMethodDescriptor yX1_readExtras.desc).map (fun d => d.parameters.length) = some 1 := by decide +kernel
theorem w862 : Cond.code yX1_readType cX1_readType 4 (some .boolean) ∈ GW := gw_k tk9_3 227 (rfl) rfl
theorem w859 : Cond.methodLink RX1 51 yX1_readType ∈ GW := gw_k tk9_3 224 (by decide +kernel) rfl
theorem w861 : Cond.instanceMethod yX1_readType ∈ GW := gw_k tk9_3 226 (by decide +kernel) rfl
theorem w5 : Cond.selects RX1 yX1_readType yX1_readType ∈ GW := gw_mem 5 (by decide +kernel) rfl
theorem hdV_yX1_readType : yX1_readType.cls = RX1 ∧ yX1_readType.cls ≠ "java/lang/invoke/MethodHandle" ∧ yX1_readType.cls ≠ "java/lang/invoke/VarHandle" ∧ (parseMethodDescriptor yX1_readType.desc).map (fun d => d.parameters.length) = some 0 := by decide +kernel
theorem w904 : Cond.code yX1_readSetting cX1_readSetting 4 (some .boolean) ∈ GW := gw_k tk9_4 29 (rfl) rfl
theorem w901 : Cond.methodLink RX1 54 yX1_readSetting ∈ GW := gw_k tk9_4 26 (by decide +kernel) rfl
theorem w903 : Cond.instanceMethod yX1_readSetting ∈ GW := gw_k tk9_4 28 (by decide +kernel) rfl
theorem w11 : Cond.selects RX1 yX1_readSetting yX1_readSetting ∈ GW := gw_mem 11 (by decide +kernel) rfl
theorem hdV_yX1_readSetting : yX1_readSetting.cls = RX1 ∧ yX1_readSetting.cls ≠ "java/lang/invoke/MethodHandle" ∧ yX1_readSetting.cls ≠ "java/lang/invoke/VarHandle" ∧ (parseMethodDescriptor yX1_readSetting.desc).map (fun d => d.parameters.length) = some 0 := by decide +kernel
theorem w913 : Cond.code yX1_readComponent cX1_readComponent 4 (some .boolean) ∈ GW := gw_k tk9_4 38 (rfl) rfl
theorem w910 : Cond.methodLink RX1 57 yX1_readComponent ∈ GW := gw_k tk9_4 35 (by decide +kernel) rfl
theorem w912 : Cond.instanceMethod yX1_readComponent ∈ GW := gw_k tk9_4 37 (by decide +kernel) rfl
theorem w13 : Cond.selects RX1 yX1_readComponent yX1_readComponent ∈ GW := gw_mem 13 (by decide +kernel) rfl
theorem hdV_yX1_readComponent : yX1_readComponent.cls = RX1 ∧ yX1_readComponent.cls ≠ "java/lang/invoke/MethodHandle" ∧ yX1_readComponent.cls ≠ "java/lang/invoke/VarHandle" ∧ (parseMethodDescriptor yX1_readComponent.desc).map (fun d => d.parameters.length) = some 0 := by decide +kernel
theorem w938 : Cond.code yX1_readWrap cX1_readWrap 6 (some .boolean) ∈ GW := gw_k tk9_4 63 (rfl) rfl
theorem w935 : Cond.methodLink RX1 60 yX1_readWrap ∈ GW := gw_k tk9_4 60 (by decide +kernel) rfl
theorem w937 : Cond.instanceMethod yX1_readWrap ∈ GW := gw_k tk9_4 62 (by decide +kernel) rfl
theorem w18 : Cond.selects RX1 yX1_readWrap yX1_readWrap ∈ GW := gw_mem 18 (by decide +kernel) rfl
theorem hdV_yX1_readWrap : yX1_readWrap.cls = RX1 ∧ yX1_readWrap.cls ≠ "java/lang/invoke/MethodHandle" ∧ yX1_readWrap.cls ≠ "java/lang/invoke/VarHandle" ∧ (parseMethodDescriptor yX1_readWrap.desc).map (fun d => d.parameters.length) = some 0 := by decide +kernel
theorem dk9_dX1_readComponent_0_0 : dOk cX1_readComponent [(0, .aload_n 0, 1), (1, .getfield 15, 3), (4, .getfield 113, 3), (7, .invokevirtual 67, 3), (10, .ifCond .eq 9, 3), (19, .aload_n 0, 1), (20, .getfield 9, 3), (23, .invokevirtual 72, 3), (26, .aload_n 0, 1), (27, .invokevirtual 75, 3), (30, .ifCond .ne 5, 3), (35, .aload_n 0, 1), (36, .getfield 78, 3), (39, .lstore_n 1, 1), (40, .aload_n 0, 1), (41, .sipush 132, 3), (44, .invokevirtual 88, 3), (47, .ifCond .eq 10, 3), (57, .iconst 0, 1), (58, .ireturn, 1), (50, .aload_n 0, 1), (51, .invokevirtual 85, 3), (54, .ifCond .ne 5, 3), (59, .aload_n 0, 1)] = true ∧ dOk cX1_readComponent [(60, .getfield 9, 3), (63, .getfield 37, 3), (66, .sipush 148, 3), (69, .if_icmp .lt 16, 3), (85, .aload_n 0, 1), (86, .iconst 1, 1), (87, .invokevirtual 47, 3), (90, .ireturn, 1), (72, .aload_n 0, 1), (73, .getfield 9, 3), (76, .getfield 37, 3), (79, .sipush 151, 3), (82, .if_icmp .le 9, 3), (91, .aload_n 0, 1), (92, .getfield 15, 3), (95, .getfield 116, 3), (98, .aload_n 0, 1), (99, .getfield 15, 3), (102, .getfield 113, 3), (105, .getfield 120, 3), (108, .aaload, 1), (109, .astore_n 3, 1), (110, .aload_n 3, 1), (111, .invokevirtual 123, 3)] = true ∧ dOk cX1_readComponent [(114, .aload_n 3, 1), (115, .aload_n 0, 1), (116, .getfield 82, 3), (119, .putfield 126, 3), (122, .aload_n 3, 1), (123, .aload_n 0, 1), (124, .getfield 9, 3), (127, .getfield 37, 3), (130, .sipush 148, 3), (133, .isub, 1), (134, .putfield 127, 3), (137, .aload_n 0, 1), (138, .getfield 9, 3), (141, .invokevirtual 72, 3), (144, .aload_n 0, 1), (145, .aload_n 3, 1), (146, .invokevirtual 130, 3), (149, .ifCond .eq 12, 3), (161, .iconst 0, 1), (162, .ireturn, 1), (152, .aload_n 0, 1), (153, .bipush 123, 2), (155, .invokevirtual 88, 3), (158, .ifCond .ne 5, 3)] = true ∧ dOk cX1_readComponent [(163, .aload_n 0, 1), (164, .getfield 15, 3), (167, .getfield 113, 3), (170, .lload_n 1, 1), (171, .invokevirtual 91, 3), (174, .pop, 1), (175, .aload_n 0, 1), (176, .aload_n 3, 1), (177, .putfield 24, 3), (180, .iconst 1, 1), (181, .ireturn, 1), (33, .iconst 0, 1), (34, .ireturn, 1), (13, .aload_n 0, 1), (14, .iconst 5, 1), (15, .invokevirtual 47, 3), (18, .ireturn, 1)] = true := by decide +kernel
theorem dX1_readComponent_0 : decode cX1_readComponent 0 = .ok (.aload_n 0, 1) := dr9 dk9_dX1_readComponent_0_0.1 0 (0, .aload_n 0, 1) rfl
theorem dX1_readComponent_1 : decode cX1_readComponent 1 = .ok (.getfield 15, 3) := dr9 dk9_dX1_readComponent_0_0.1 1 (1, .getfield 15, 3) rfl
theorem dX1_readComponent_4 : decode cX1_readComponent 4 = .ok (.getfield 113, 3) := dr9 dk9_dX1_readComponent_0_0.1 2 (4, .getfield 113, 3) rfl
theorem dX1_readComponent_7 : decode cX1_readComponent 7 = .ok (.invokevirtual 67, 3) := dr9 dk9_dX1_readComponent_0_0.1 3 (7, .invokevirtual 67, 3) rfl
theorem dX1_readComponent_10 : decode cX1_readComponent 10 = .ok (.ifCond .eq 9, 3) := dr9 dk9_dX1_readComponent_0_0.1 4 (10, .ifCond .eq 9, 3) rfl
theorem dX1_readComponent_19 : decode cX1_readComponent 19 = .ok (.aload_n 0, 1) := dr9 dk9_dX1_readComponent_0_0.1 5 (19, .aload_n 0, 1) rfl
theorem dX1_readComponent_20 : decode cX1_readComponent 20 = .ok (.getfield 9, 3) := dr9 dk9_dX1_readComponent_0_0.1 6 (20, .getfield 9, 3) rfl
theorem dX1_readComponent_23 : decode cX1_readComponent 23 = .ok (.invokevirtual 72, 3) := dr9 dk9_dX1_readComponent_0_0.1 7 (23, .invokevirtual 72, 3) rfl
theorem dX1_readComponent_26 : decode cX1_readComponent 26 = .ok (.aload_n 0, 1) := dr9 dk9_dX1_readComponent_0_0.1 8 (26, .aload_n 0, 1) rfl
theorem dX1_readComponent_27 : decode cX1_readComponent 27 = .ok (.invokevirtual 75, 3) := dr9 dk9_dX1_readComponent_0_0.1 9 (27, .invokevirtual 75, 3) rfl
theorem dX1_readComponent_30 : decode cX1_readComponent 30 = .ok (.ifCond .ne 5, 3) := dr9 dk9_dX1_readComponent_0_0.1 10 (30, .ifCond .ne 5, 3) rfl
theorem dX1_readComponent_35 : decode cX1_readComponent 35 = .ok (.aload_n 0, 1) := dr9 dk9_dX1_readComponent_0_0.1 11 (35, .aload_n 0, 1) rfl
theorem dX1_readComponent_36 : decode cX1_readComponent 36 = .ok (.getfield 78, 3) := dr9 dk9_dX1_readComponent_0_0.1 12 (36, .getfield 78, 3) rfl
theorem dX1_readComponent_39 : decode cX1_readComponent 39 = .ok (.lstore_n 1, 1) := dr9 dk9_dX1_readComponent_0_0.1 13 (39, .lstore_n 1, 1) rfl
theorem dX1_readComponent_40 : decode cX1_readComponent 40 = .ok (.aload_n 0, 1) := dr9 dk9_dX1_readComponent_0_0.1 14 (40, .aload_n 0, 1) rfl
theorem dX1_readComponent_41 : decode cX1_readComponent 41 = .ok (.sipush 132, 3) := dr9 dk9_dX1_readComponent_0_0.1 15 (41, .sipush 132, 3) rfl
theorem dX1_readComponent_44 : decode cX1_readComponent 44 = .ok (.invokevirtual 88, 3) := dr9 dk9_dX1_readComponent_0_0.1 16 (44, .invokevirtual 88, 3) rfl
theorem dX1_readComponent_47 : decode cX1_readComponent 47 = .ok (.ifCond .eq 10, 3) := dr9 dk9_dX1_readComponent_0_0.1 17 (47, .ifCond .eq 10, 3) rfl
theorem dX1_readComponent_57 : decode cX1_readComponent 57 = .ok (.iconst 0, 1) := dr9 dk9_dX1_readComponent_0_0.1 18 (57, .iconst 0, 1) rfl
theorem dX1_readComponent_58 : decode cX1_readComponent 58 = .ok (.ireturn, 1) := dr9 dk9_dX1_readComponent_0_0.1 19 (58, .ireturn, 1) rfl
theorem dX1_readComponent_50 : decode cX1_readComponent 50 = .ok (.aload_n 0, 1) := dr9 dk9_dX1_readComponent_0_0.1 20 (50, .aload_n 0, 1) rfl
theorem dX1_readComponent_51 : decode cX1_readComponent 51 = .ok (.invokevirtual 85, 3) := dr9 dk9_dX1_readComponent_0_0.1 21 (51, .invokevirtual 85, 3) rfl
theorem dX1_readComponent_54 : decode cX1_readComponent 54 = .ok (.ifCond .ne 5, 3) := dr9 dk9_dX1_readComponent_0_0.1 22 (54, .ifCond .ne 5, 3) rfl
theorem dX1_readComponent_59 : decode cX1_readComponent 59 = .ok (.aload_n 0, 1) := dr9 dk9_dX1_readComponent_0_0.1 23 (59, .aload_n 0, 1) rfl
theorem dX1_readComponent_60 : decode cX1_readComponent 60 = .ok (.getfield 9, 3) := dr9 dk9_dX1_readComponent_0_0.2.1 0 (60, .getfield 9, 3) rfl
theorem dX1_readComponent_63 : decode cX1_readComponent 63 = .ok (.getfield 37, 3) := dr9 dk9_dX1_readComponent_0_0.2.1 1 (63, .getfield 37, 3) rfl
theorem dX1_readComponent_66 : decode cX1_readComponent 66 = .ok (.sipush 148, 3) := dr9 dk9_dX1_readComponent_0_0.2.1 2 (66, .sipush 148, 3) rfl
theorem dX1_readComponent_69 : decode cX1_readComponent 69 = .ok (.if_icmp .lt 16, 3) := dr9 dk9_dX1_readComponent_0_0.2.1 3 (69, .if_icmp .lt 16, 3) rfl
theorem dX1_readComponent_85 : decode cX1_readComponent 85 = .ok (.aload_n 0, 1) := dr9 dk9_dX1_readComponent_0_0.2.1 4 (85, .aload_n 0, 1) rfl
theorem dX1_readComponent_86 : decode cX1_readComponent 86 = .ok (.iconst 1, 1) := dr9 dk9_dX1_readComponent_0_0.2.1 5 (86, .iconst 1, 1) rfl
theorem dX1_readComponent_87 : decode cX1_readComponent 87 = .ok (.invokevirtual 47, 3) := dr9 dk9_dX1_readComponent_0_0.2.1 6 (87, .invokevirtual 47, 3) rfl
theorem dX1_readComponent_90 : decode cX1_readComponent 90 = .ok (.ireturn, 1) := dr9 dk9_dX1_readComponent_0_0.2.1 7 (90, .ireturn, 1) rfl
theorem dX1_readComponent_72 : decode cX1_readComponent 72 = .ok (.aload_n 0, 1) := dr9 dk9_dX1_readComponent_0_0.2.1 8 (72, .aload_n 0, 1) rfl
theorem dX1_readComponent_73 : decode cX1_readComponent 73 = .ok (.getfield 9, 3) := dr9 dk9_dX1_readComponent_0_0.2.1 9 (73, .getfield 9, 3) rfl
theorem dX1_readComponent_76 : decode cX1_readComponent 76 = .ok (.getfield 37, 3) := dr9 dk9_dX1_readComponent_0_0.2.1 10 (76, .getfield 37, 3) rfl
theorem dX1_readComponent_79 : decode cX1_readComponent 79 = .ok (.sipush 151, 3) := dr9 dk9_dX1_readComponent_0_0.2.1 11 (79, .sipush 151, 3) rfl
theorem dX1_readComponent_82 : decode cX1_readComponent 82 = .ok (.if_icmp .le 9, 3) := dr9 dk9_dX1_readComponent_0_0.2.1 12 (82, .if_icmp .le 9, 3) rfl
theorem dX1_readComponent_91 : decode cX1_readComponent 91 = .ok (.aload_n 0, 1) := dr9 dk9_dX1_readComponent_0_0.2.1 13 (91, .aload_n 0, 1) rfl
theorem dX1_readComponent_92 : decode cX1_readComponent 92 = .ok (.getfield 15, 3) := dr9 dk9_dX1_readComponent_0_0.2.1 14 (92, .getfield 15, 3) rfl
theorem dX1_readComponent_95 : decode cX1_readComponent 95 = .ok (.getfield 116, 3) := dr9 dk9_dX1_readComponent_0_0.2.1 15 (95, .getfield 116, 3) rfl
theorem dX1_readComponent_98 : decode cX1_readComponent 98 = .ok (.aload_n 0, 1) := dr9 dk9_dX1_readComponent_0_0.2.1 16 (98, .aload_n 0, 1) rfl
theorem dX1_readComponent_99 : decode cX1_readComponent 99 = .ok (.getfield 15, 3) := dr9 dk9_dX1_readComponent_0_0.2.1 17 (99, .getfield 15, 3) rfl
theorem dX1_readComponent_102 : decode cX1_readComponent 102 = .ok (.getfield 113, 3) := dr9 dk9_dX1_readComponent_0_0.2.1 18 (102, .getfield 113, 3) rfl
theorem dX1_readComponent_105 : decode cX1_readComponent 105 = .ok (.getfield 120, 3) := dr9 dk9_dX1_readComponent_0_0.2.1 19 (105, .getfield 120, 3) rfl
theorem dX1_readComponent_108 : decode cX1_readComponent 108 = .ok (.aaload, 1) := dr9 dk9_dX1_readComponent_0_0.2.1 20 (108, .aaload, 1) rfl
theorem dX1_readComponent_109 : decode cX1_readComponent 109 = .ok (.astore_n 3, 1) := dr9 dk9_dX1_readComponent_0_0.2.1 21 (109, .astore_n 3, 1) rfl
theorem dX1_readComponent_110 : decode cX1_readComponent 110 = .ok (.aload_n 3, 1) := dr9 dk9_dX1_readComponent_0_0.2.1 22 (110, .aload_n 3, 1) rfl
theorem dX1_readComponent_111 : decode cX1_readComponent 111 = .ok (.invokevirtual 123, 3) := dr9 dk9_dX1_readComponent_0_0.2.1 23 (111, .invokevirtual 123, 3) rfl
theorem dX1_readComponent_114 : decode cX1_readComponent 114 = .ok (.aload_n 3, 1) := dr9 dk9_dX1_readComponent_0_0.2.2.1 0 (114, .aload_n 3, 1) rfl
theorem dX1_readComponent_115 : decode cX1_readComponent 115 = .ok (.aload_n 0, 1) := dr9 dk9_dX1_readComponent_0_0.2.2.1 1 (115, .aload_n 0, 1) rfl
theorem dX1_readComponent_116 : decode cX1_readComponent 116 = .ok (.getfield 82, 3) := dr9 dk9_dX1_readComponent_0_0.2.2.1 2 (116, .getfield 82, 3) rfl
theorem dX1_readComponent_119 : decode cX1_readComponent 119 = .ok (.putfield 126, 3) := dr9 dk9_dX1_readComponent_0_0.2.2.1 3 (119, .putfield 126, 3) rfl
theorem dX1_readComponent_122 : decode cX1_readComponent 122 = .ok (.aload_n 3, 1) := dr9 dk9_dX1_readComponent_0_0.2.2.1 4 (122, .aload_n 3, 1) rfl
theorem dX1_readComponent_123 : decode cX1_readComponent 123 = .ok (.aload_n 0, 1) := dr9 dk9_dX1_readComponent_0_0.2.2.1 5 (123, .aload_n 0, 1) rfl
theorem dX1_readComponent_124 : decode cX1_readComponent 124 = .ok (.getfield 9, 3) := dr9 dk9_dX1_readComponent_0_0.2.2.1 6 (124, .getfield 9, 3) rfl
theorem dX1_readComponent_127 : decode cX1_readComponent 127 = .ok (.getfield 37, 3) := dr9 dk9_dX1_readComponent_0_0.2.2.1 7 (127, .getfield 37, 3) rfl
theorem dX1_readComponent_130 : decode cX1_readComponent 130 = .ok (.sipush 148, 3) := dr9 dk9_dX1_readComponent_0_0.2.2.1 8 (130, .sipush 148, 3) rfl
theorem dX1_readComponent_133 : decode cX1_readComponent 133 = .ok (.isub, 1) := dr9 dk9_dX1_readComponent_0_0.2.2.1 9 (133, .isub, 1) rfl
theorem dX1_readComponent_134 : decode cX1_readComponent 134 = .ok (.putfield 127, 3) := dr9 dk9_dX1_readComponent_0_0.2.2.1 10 (134, .putfield 127, 3) rfl
theorem dX1_readComponent_137 : decode cX1_readComponent 137 = .ok (.aload_n 0, 1) := dr9 dk9_dX1_readComponent_0_0.2.2.1 11 (137, .aload_n 0, 1) rfl
theorem dX1_readComponent_138 : decode cX1_readComponent 138 = .ok (.getfield 9, 3) := dr9 dk9_dX1_readComponent_0_0.2.2.1 12 (138, .getfield 9, 3) rfl
theorem dX1_readComponent_141 : decode cX1_readComponent 141 = .ok (.invokevirtual 72, 3) := dr9 dk9_dX1_readComponent_0_0.2.2.1 13 (141, .invokevirtual 72, 3) rfl
theorem dX1_readComponent_144 : decode cX1_readComponent 144 = .ok (.aload_n 0, 1) := dr9 dk9_dX1_readComponent_0_0.2.2.1 14 (144, .aload_n 0, 1) rfl
theorem dX1_readComponent_145 : decode cX1_readComponent 145 = .ok (.aload_n 3, 1) := dr9 dk9_dX1_readComponent_0_0.2.2.1 15 (145, .aload_n 3, 1) rfl
theorem dX1_readComponent_146 : decode cX1_readComponent 146 = .ok (.invokevirtual 130, 3) := dr9 dk9_dX1_readComponent_0_0.2.2.1 16 (146, .invokevirtual 130, 3) rfl
theorem dX1_readComponent_149 : decode cX1_readComponent 149 = .ok (.ifCond .eq 12, 3) := dr9 dk9_dX1_readComponent_0_0.2.2.1 17 (149, .ifCond .eq 12, 3) rfl
theorem dX1_readComponent_161 : decode cX1_readComponent 161 = .ok (.iconst 0, 1) := dr9 dk9_dX1_readComponent_0_0.2.2.1 18 (161, .iconst 0, 1) rfl
theorem dX1_readComponent_162 : decode cX1_readComponent 162 = .ok (.ireturn, 1) := dr9 dk9_dX1_readComponent_0_0.2.2.1 19 (162, .ireturn, 1) rfl
theorem dX1_readComponent_152 : decode cX1_readComponent 152 = .ok (.aload_n 0, 1) := dr9 dk9_dX1_readComponent_0_0.2.2.1 20 (152, .aload_n 0, 1) rfl
theorem dX1_readComponent_153 : decode cX1_readComponent 153 = .ok (.bipush 123, 2) := dr9 dk9_dX1_readComponent_0_0.2.2.1 21 (153, .bipush 123, 2) rfl
theorem dX1_readComponent_155 : decode cX1_readComponent 155 = .ok (.invokevirtual 88, 3) := dr9 dk9_dX1_readComponent_0_0.2.2.1 22 (155, .invokevirtual 88, 3) rfl
theorem dX1_readComponent_158 : decode cX1_readComponent 158 = .ok (.ifCond .ne 5, 3) := dr9 dk9_dX1_readComponent_0_0.2.2.1 23 (158, .ifCond .ne 5, 3) rfl
theorem dX1_readComponent_163 : decode cX1_readComponent 163 = .ok (.aload_n 0, 1) := dr9 dk9_dX1_readComponent_0_0.2.2.2 0 (163, .aload_n 0, 1) rfl
theorem dX1_readComponent_164 : decode cX1_readComponent 164 = .ok (.getfield 15, 3) := dr9 dk9_dX1_readComponent_0_0.2.2.2 1 (164, .getfield 15, 3) rfl
theorem dX1_readComponent_167 : decode cX1_readComponent 167 = .ok (.getfield 113, 3) := dr9 dk9_dX1_readComponent_0_0.2.2.2 2 (167, .getfield 113, 3) rfl
theorem dX1_readComponent_170 : decode cX1_readComponent 170 = .ok (.lload_n 1, 1) := dr9 dk9_dX1_readComponent_0_0.2.2.2 3 (170, .lload_n 1, 1) rfl
theorem dX1_readComponent_171 : decode cX1_readComponent 171 = .ok (.invokevirtual 91, 3) := dr9 dk9_dX1_readComponent_0_0.2.2.2 4 (171, .invokevirtual 91, 3) rfl
theorem dX1_readComponent_174 : decode cX1_readComponent 174 = .ok (.pop, 1) := dr9 dk9_dX1_readComponent_0_0.2.2.2 5 (174, .pop, 1) rfl
theorem dX1_readComponent_175 : decode cX1_readComponent 175 = .ok (.aload_n 0, 1) := dr9 dk9_dX1_readComponent_0_0.2.2.2 6 (175, .aload_n 0, 1) rfl
theorem dX1_readComponent_176 : decode cX1_readComponent 176 = .ok (.aload_n 3, 1) := dr9 dk9_dX1_readComponent_0_0.2.2.2 7 (176, .aload_n 3, 1) rfl
theorem dX1_readComponent_177 : decode cX1_readComponent 177 = .ok (.putfield 24, 3) := dr9 dk9_dX1_readComponent_0_0.2.2.2 8 (177, .putfield 24, 3) rfl
theorem dX1_readComponent_180 : decode cX1_readComponent 180 = .ok (.iconst 1, 1) := dr9 dk9_dX1_readComponent_0_0.2.2.2 9 (180, .iconst 1, 1) rfl
theorem dX1_readComponent_181 : decode cX1_readComponent 181 = .ok (.ireturn, 1) := dr9 dk9_dX1_readComponent_0_0.2.2.2 10 (181, .ireturn, 1) rfl
theorem dX1_readComponent_33 : decode cX1_readComponent 33 = .ok (.iconst 0, 1) := dr9 dk9_dX1_readComponent_0_0.2.2.2 11 (33, .iconst 0, 1) rfl
theorem dX1_readComponent_34 : decode cX1_readComponent 34 = .ok (.ireturn, 1) := dr9 dk9_dX1_readComponent_0_0.2.2.2 12 (34, .ireturn, 1) rfl
theorem dX1_readComponent_13 : decode cX1_readComponent 13 = .ok (.aload_n 0, 1) := dr9 dk9_dX1_readComponent_0_0.2.2.2 13 (13, .aload_n 0, 1) rfl
theorem dX1_readComponent_14 : decode cX1_readComponent 14 = .ok (.iconst 5, 1) := dr9 dk9_dX1_readComponent_0_0.2.2.2 14 (14, .iconst 5, 1) rfl
theorem dX1_readComponent_15 : decode cX1_readComponent 15 = .ok (.invokevirtual 47, 3) := dr9 dk9_dX1_readComponent_0_0.2.2.2 15 (15, .invokevirtual 47, 3) rfl
theorem dX1_readComponent_18 : decode cX1_readComponent 18 = .ok (.ireturn, 1) := dr9 dk9_dX1_readComponent_0_0.2.2.2 16 (18, .ireturn, 1) rfl
theorem dk9_dX1_readStatement_0_0 : dOk cX1_readStatement [(0, .aload_n 0, 1), (1, .getfield 9, 3), (4, .getfield 37, 3), (7, .tableswitch 69 128 136 #[49, 69, 54, 59, 69, 69, 69, 69, 64], 49), (56, .aload_n 0, 1), (57, .invokevirtual 51, 3), (60, .ireturn, 1), (76, .aload_n 0, 1), (77, .iconst 1, 1), (78, .invokevirtual 47, 3), (81, .ireturn, 1), (61, .aload_n 0, 1), (62, .invokevirtual 54, 3), (65, .ireturn, 1), (66, .aload_n 0, 1), (67, .invokevirtual 57, 3), (70, .ireturn, 1), (71, .aload_n 0, 1), (72, .invokevirtual 60, 3), (75, .ireturn, 1)] = true := by decide +kernel
theorem dX1_readStatement_0 : decode cX1_readStatement 0 = .ok (.aload_n 0, 1) := dr9 dk9_dX1_readStatement_0_0 0 (0, .aload_n 0, 1) rfl
theorem dX1_readStatement_1 : decode cX1_readStatement 1 = .ok (.getfield 9, 3) := dr9 dk9_dX1_readStatement_0_0 1 (1, .getfield 9, 3) rfl
theorem dX1_readStatement_4 : decode cX1_readStatement 4 = .ok (.getfield 37, 3) := dr9 dk9_dX1_readStatement_0_0 2 (4, .getfield 37, 3) rfl
theorem dX1_readStatement_7 : decode cX1_readStatement 7 = .ok (.tableswitch 69 128 136 #[49, 69, 54, 59, 69, 69, 69, 69, 64], 49) := dr9 dk9_dX1_readStatement_0_0 3 (7, .tableswitch 69 128 136 #[49, 69, 54, 59, 69, 69, 69, 69, 64], 49) rfl
theorem dX1_readStatement_56 : decode cX1_readStatement 56 = .ok (.aload_n 0, 1) := dr9 dk9_dX1_readStatement_0_0 4 (56, .aload_n 0, 1) rfl
theorem dX1_readStatement_57 : decode cX1_readStatement 57 = .ok (.invokevirtual 51, 3) := dr9 dk9_dX1_readStatement_0_0 5 (57, .invokevirtual 51, 3) rfl
theorem dX1_readStatement_60 : decode cX1_readStatement 60 = .ok (.ireturn, 1) := dr9 dk9_dX1_readStatement_0_0 6 (60, .ireturn, 1) rfl
theorem dX1_readStatement_76 : decode cX1_readStatement 76 = .ok (.aload_n 0, 1) := dr9 dk9_dX1_readStatement_0_0 7 (76, .aload_n 0, 1) rfl
theorem dX1_readStatement_77 : decode cX1_readStatement 77 = .ok (.iconst 1, 1) := dr9 dk9_dX1_readStatement_0_0 8 (77, .iconst 1, 1) rfl
theorem dX1_readStatement_78 : decode cX1_readStatement 78 = .ok (.invokevirtual 47, 3) := dr9 dk9_dX1_readStatement_0_0 9 (78, .invokevirtual 47, 3) rfl
theorem dX1_readStatement_81 : decode cX1_readStatement 81 = .ok (.ireturn, 1) := dr9 dk9_dX1_readStatement_0_0 10 (81, .ireturn, 1) rfl
theorem dX1_readStatement_61 : decode cX1_readStatement 61 = .ok (.aload_n 0, 1) := dr9 dk9_dX1_readStatement_0_0 11 (61, .aload_n 0, 1) rfl
theorem dX1_readStatement_62 : decode cX1_readStatement 62 = .ok (.invokevirtual 54, 3) := dr9 dk9_dX1_readStatement_0_0 12 (62, .invokevirtual 54, 3) rfl
theorem dX1_readStatement_65 : decode cX1_readStatement 65 = .ok (.ireturn, 1) := dr9 dk9_dX1_readStatement_0_0 13 (65, .ireturn, 1) rfl
theorem dX1_readStatement_66 : decode cX1_readStatement 66 = .ok (.aload_n 0, 1) := dr9 dk9_dX1_readStatement_0_0 14 (66, .aload_n 0, 1) rfl
theorem dX1_readStatement_67 : decode cX1_readStatement 67 = .ok (.invokevirtual 57, 3) := dr9 dk9_dX1_readStatement_0_0 15 (67, .invokevirtual 57, 3) rfl
theorem dX1_readStatement_70 : decode cX1_readStatement 70 = .ok (.ireturn, 1) := dr9 dk9_dX1_readStatement_0_0 16 (70, .ireturn, 1) rfl
theorem dX1_readStatement_71 : decode cX1_readStatement 71 = .ok (.aload_n 0, 1) := dr9 dk9_dX1_readStatement_0_0 17 (71, .aload_n 0, 1) rfl
theorem dX1_readStatement_72 : decode cX1_readStatement 72 = .ok (.invokevirtual 60, 3) := dr9 dk9_dX1_readStatement_0_0 18 (72, .invokevirtual 60, 3) rfl
theorem dX1_readStatement_75 : decode cX1_readStatement 75 = .ok (.ireturn, 1) := dr9 dk9_dX1_readStatement_0_0 19 (75, .ireturn, 1) rfl
abbrev r_x_readComponent : Room := { frames := 4, cells := 0, slots := 0, locals := 85 }
abbrev q_x_readComponent (D : va_G) (ks : KS) (ad : Nat → Nat) (kk : Nat → ClassId) (V : Vf) (L : Lf) (Z : XZ) (b : Nat) (A : Nat → Prop) : Array Value → State → Outcome → State → Prop := va_Qi (fun (r : Int32) (u : Vf × Lf) => rgd bX u.1 ∧ agr [(1, 2), (1, 3), (1, 6), (1, 7), (1, 8), (6, 8), (6, 9), (6, 10)] [43, 44, 49, 50, 51, 52, 53, 54, 55, 56, 57, 61] V u.1 ∧ agL [1, 6, 44] L u.2 ∧ frX (xR b) V u.1 ∧ (0 ≤ r.toInt ∧ r.toInt ≤ 1) ∧ (Imp (r.toInt = 1) (TX u.1 b)) ∧ (CD u.1 b) ∧ (p0x V u.1 b) ∧ ((u.1 1 2).toInt = (V 1 2).toInt ∨ (24 * (b : Int) ≤ (u.1 1 2).toInt ∧ (u.1 1 2).toInt < 24 * (b : Int) + 24)) ∧ (Imp (r.toInt = 0) (1 ≤ (u.1 1 3).toInt))) (fun u t => gq D A (xw ad kk u.1 u.2 Z) (xty kk Z) t) A
set_option maxHeartbeats 4000000 in
set_option maxRecDepth 100000 in
theorem x_readComponent (l : Launch) (D : va_G) (ks : KS) (sz : Nat) (ad : Nat → Nat) (kk : Nat → ClassId) (V : Vf) (L : Lf) (Z : XZ) (b : Nat) (hMV : rgd bX V) (hb2 : b < 2) (rbk : (V 1 1).toInt = (b : Int)) (cd : CD V b) (tx : TX V b)  : Met l yX1_readComponent (Cond.code yX1_readComponent cX1_readComponent 4 (some .boolean) :: GW) r_x_readComponent (va_Pc [.ref (ad 1)] (gp D ks (xw ad kk V L Z) (xty kk Z) sz)) (q_x_readComponent D ks ad kk V L Z  b (va_A (xw ad kk V L Z) sz)) 0 0 (va_A (xw ad kk V L Z) sz) := by
  refine g_met (q_x_readComponent D ks ad kk V L Z  b) (by decide) (Nat.le_of_ble_eq_true rfl) ?_
  intro p e s m below meth c A ls H locs hx hb hr hml hown hg hlocks hin hnw hgk hP hK hD hS hA hl
  have hown : s.vm.findClass RX1 = some m.cls := hown
  have hl : lv_has ls 4 [(0, .ref (ad 1))] := hl
  have hP : va_P D vwCl (xw ad kk V L Z) H := hP
  have hD : va_D A (xw ad kk V L Z) := hD
  have hK : va_K D vwCl (xty kk Z) s := hK
  have agV : agr [(1, 2), (1, 3), (1, 6), (1, 7), (1, 8), (6, 8), (6, 9), (6, 10)] [43, 44, 49, 50, 51, 52, 53, 54, 55, 56, 57, 61] V V := agr.rf
  have alL : agL [1, 6, 44] L L := agL.rf
  have fwV : frX (xR b) V V := frX.rf
  have r1 : (-1) ≤ ((V 1 1)).toInt ∧ ((V 1 1)).toInt ≤ 1 := hMV 1 1
  refine lv_aload_n hx hb dX1_readComponent_0 rfl (lv_at hl 0 rfl) ?_
  refine va_get (D := D) (ci := 1) (v := rfN ad 38 (V 1 1)) (fs := (xfReader ad V L Z)) (C := RX1) (T := TX1) (N := 9) hx hb hg inX1 hown hK hP 1 xgReader rfl 1 (by decide) (hg _ w305) (fun _ h9 => h9) rfl dX1_readComponent_1 ?_
  refine g_topv (v := .ref (ad (38 + b))) (rfN_r (by first | omega | ((try (have i_tx := Imp.go tx (by omega))); (try (have i_cd := Imp.go cd (by omega))); (try (have i_cd := Imp.go cd (by omega))); (try (have i_tx := Imp.go tx (by omega))); omega))) ?_
  refine va_getN (D := D) (ci := 0) (v := .ref (ad (40 + (5 * b + 2)))) (fs := (xfBook ad V b)) (C := RX0) (T := TX0) (N := 13) hx hb hg inX0 hown hK hP (38 + b) (xgBook hb2) rfl 2 (by decide) (hnw.use 601 n601 rfl) (fun _ h9 => h9) rfl dX1_readComponent_4 ?_
  have il2 : (5 * b + 2) < 10 := by first | exact om_1478e52fbf50 hb2 | first | omega | ((try (have i_tx := Imp.go tx (by omega))); (try (have i_cd := Imp.go cd (by omega))); (try (have i_cd := Imp.go cd (by omega))); (try (have i_tx := Imp.go tx (by omega))); omega)
  refine gA_int (gA_runV (As := []) (rest := []) (ci := 6) (q0 := (40 + (5 * b + 2))) hx hb hml hown hg hP hD hK hS hA hnw hgk (x_isFull l D ks H.size ad kk V L Z ((5 * b + 2)) hMV (show (5 * b + 2) < 10 from by first | exact om_1478e52fbf50 hb2 | first | omega | ((try (have i_tx := Imp.go tx (by omega))); (try (have i_cd := Imp.go cd (by omega))); (try (have i_cd := Imp.go cd (by omega))); (try (have i_tx := Imp.go tx (by omega))); omega))) w863 w864 w865 w168 w866 rfl (xgNames il2) hdV_yX6_isFull ⟨Nat.le_of_ble_eq_true rfl, Nat.le_of_ble_eq_true rfl⟩ rfl hl.1 rfl (Nat.le_of_ble_eq_true rfl) dX1_readComponent_7 ⟨Nat.le_of_ble_eq_true rfl, Nat.le_of_ble_eq_true rfl⟩) hP hD hK hS hA (fun z3 u4 H locs w5 hP hD hK hS => ?_)
  obtain ⟨rgz3, t6⟩ := w5
  have rgz3 : 0 ≤ z3.toInt ∧ z3.toInt ≤ 1 := rgz3
  have t6 : Imp (z3.toInt = 0) ((V 43 (5 * b + 2)).toInt < ((xcap (5 * b + 2) : Nat) : Int)) := t6
  refine lv_if_eq (tgt := 19) hx hb dX1_readComponent_10 (by decide) (fun c7 => ?_) (fun c7 => ?_)
  · skip
    have f8 : z3.toInt = 0 := b_eq rfl (by decide) c7
    refine lv_aload_n hx hb dX1_readComponent_19 rfl (lv_at hl 0 rfl) ?_
    have r9 : xcap (5 * b + 2) = 24 := xcap_2
    refine va_get (D := D) (ci := 1) (v := .ref (ad 6)) (fs := (xfReader ad V L Z)) (C := RX1) (T := TX1) (N := 9) hx hb hg inX1 hown hK hP 1 xgReader rfl 0 (by decide) (hg _ w304) (fun _ h9 => h9) rfl dX1_readComponent_20 ?_
    refine gA_void (gA_runV (As := []) (rest := []) (ci := 9) (q0 := 6) hx hb hml hown hg hP hD hK hS hA hnw hgk (x_next l D ks H.size ad kk V L Z  hMV ) w871 w852 w853 w157 w854 rfl xgTape hdV_yX9_next ⟨Nat.le_of_ble_eq_true rfl, Nat.le_of_ble_eq_true rfl⟩ rfl hl.1 rfl (Nat.le_of_ble_eq_true rfl) dX1_readComponent_23 ⟨Nat.le_of_ble_eq_true rfl, Nat.le_of_ble_eq_true rfl⟩) hP hD hK hS hA (fun u11 H locs w12 hP hD hK hS => ?_)
    obtain ⟨V13, L14⟩ := u11
    obtain ⟨hMV13, ajV13, axL14⟩ := w12
    have alL14 : agL [1, 6, 44] L L14 := agL.tr alL axL14 (by decide)
    have hP : va_P D vwCl (xw ad kk V13 L14 Z) H := hP
    have hD : va_D A (xw ad kk V13 L14 Z) := hD
    have hMV13 : rgd bX V13 := hMV13
    have ajV13 : agr [(6, 8), (6, 9), (6, 10)] [] V V13 := ajV13
    have agV13 : agr [(1, 2), (1, 3), (1, 6), (1, 7), (1, 8), (6, 8), (6, 9), (6, 10)] [43, 44, 49, 50, 51, 52, 53, 54, 55, 56, 57, 61] V V13 := agV.tr ajV13 (by decide) (by decide)
    have fwV13 : frX (xR b) V V13 := frX.tr fwV (frX.ag ajV13 (by decide) (by decide))
    refine lv_aload_n hx hb dX1_readComponent_26 rfl (lv_at hl 0 rfl) ?_
    have pq15 : (V13 1 1).toInt = ((V 1 1)).toInt := congrArg Int32.toInt (ajV13 1 1 rfl)
    refine gA_int (gA_runV (As := []) (rest := []) (ci := 1) (q0 := 1) hx hb hml hown hg hP hD hK hS hA hnw hgk (x_takeNewName l D ks H.size ad kk V13 L14 Z (b) hMV13 (show b < 2 from by first | exact om_f940a4667dd6 hb2 | first | omega | ((try (have i_t6 := Imp.go t6 (by omega))); (try (have i_tx := Imp.go tx (by omega))); (try (have i_cd := Imp.go cd (by omega))); (try (have i_cd := Imp.go cd (by omega))); (try (have i_tx := Imp.go tx (by omega))); (try (have i_t6 := Imp.go t6 (by omega))); omega)) (show (V13 1 1).toInt = (b : Int) from by first | exact om_adf531c77a0d rbk pq15 | first | omega | ((try (have i_t6 := Imp.go t6 (by omega))); (try (have i_tx := Imp.go tx (by omega))); (try (have i_cd := Imp.go cd (by omega))); (try (have i_cd := Imp.go cd (by omega))); (try (have i_tx := Imp.go tx (by omega))); (try (have i_t6 := Imp.go t6 (by omega))); omega))) w872 w874 w7 w162 w875 rfl xgReader hdV_yX1_takeNewName ⟨Nat.le_of_ble_eq_true rfl, Nat.le_of_ble_eq_true rfl⟩ rfl hl.1 rfl (Nat.le_of_ble_eq_true rfl) dX1_readComponent_27 ⟨Nat.le_of_ble_eq_true rfl, Nat.le_of_ble_eq_true rfl⟩) hP hD hK hS hA (fun z16 u17 H locs w18 hP hD hK hS => ?_)
    obtain ⟨V20, L21⟩ := u17
    obtain ⟨hMV20, ajV20, axL21, rgz16, t19⟩ := w18
    have alL21 : agL [1, 6, 44] L L21 := agL.tr alL14 axL21 (by decide)
    have hP : va_P D vwCl (xw ad kk V20 L21 Z) H := hP
    have hD : va_D A (xw ad kk V20 L21 Z) := hD
    have hMV20 : rgd bX V20 := hMV20
    have ajV20 : agr [(1, 3), (6, 8), (6, 9), (6, 10)] [] V13 V20 := ajV20
    have agV20 : agr [(1, 2), (1, 3), (1, 6), (1, 7), (1, 8), (6, 8), (6, 9), (6, 10)] [43, 44, 49, 50, 51, 52, 53, 54, 55, 56, 57, 61] V V20 := agV13.tr ajV20 (by decide) (by decide)
    have fwV20 : frX (xR b) V V20 := frX.tr fwV13 (frX.ag ajV20 (by decide) (by decide))
    have rgz16 : 0 ≤ z16.toInt ∧ z16.toInt ≤ 1 := rgz16
    have t19 : Imp (z16.toInt = 0) (1 ≤ (V20 1 3).toInt) := t19
    refine lv_if_ne (tgt := 35) hx hb dX1_readComponent_30 (by decide) (fun c22 => ?_) (fun c22 => ?_)
    · skip
      have f23 : z16.toInt ≠ 0 := b_neq rfl (by decide) c22
      refine lv_aload_n hx hb dX1_readComponent_35 rfl (lv_at hl 0 rfl) ?_
      refine va_get (D := D) (ci := 1) (v := .long (L21 1 5)) (fs := (xfReader ad V20 L21 Z)) (C := RX1) (T := TX1) (N := 9) hx hb hg inX1 hown hK hP 1 xgReader rfl 5 (by decide) (hg _ w309) (fun _ h9 => h9) rfl dX1_readComponent_36 ?_
      refine lv_topl (fun w24 ew24 => ?_)
      refine lv_lstore_n (lv' := [(1, .long w24), (0, .ref (ad 1))]) hx hb dX1_readComponent_39 rfl hl (by decide) rfl (fun ls hl => ?_)
      refine lv_aload_n hx hb dX1_readComponent_40 rfl (lv_at hl 1 rfl) ?_
      refine lv_sipush (v := 132) hx hb dX1_readComponent_41 (by decide) ?_
      have r25 : Int32.toInt 132 = 132 := by decide
      refine gA_int (gA_runV (As := [.int 132]) (rest := []) (ci := 1) (q0 := 1) hx hb hml hown hg hP hD hK hS hA hnw hgk (x_take l D ks H.size ad kk V20 L21 Z 132 hMV20 ) w893 w895 w10 w162 w896 rfl xgReader hdV_yX1_take ⟨Nat.le_of_ble_eq_true rfl, Nat.le_of_ble_eq_true rfl⟩ rfl hl.1 rfl (Nat.le_of_ble_eq_true rfl) dX1_readComponent_44 ⟨Nat.le_of_ble_eq_true rfl, Nat.le_of_ble_eq_true rfl⟩) hP hD hK hS hA (fun z26 u27 H locs w28 hP hD hK hS => ?_)
      obtain ⟨V30, L31⟩ := u27
      obtain ⟨hMV30, ajV30, axL31, rgz26, t29⟩ := w28
      have alL31 : agL [1, 6, 44] L L31 := agL.tr alL21 axL31 (by decide)
      have hP : va_P D vwCl (xw ad kk V30 L31 Z) H := hP
      have hD : va_D A (xw ad kk V30 L31 Z) := hD
      have hMV30 : rgd bX V30 := hMV30
      have ajV30 : agr [(1, 3), (6, 8), (6, 9), (6, 10)] [] V20 V30 := ajV30
      have agV30 : agr [(1, 2), (1, 3), (1, 6), (1, 7), (1, 8), (6, 8), (6, 9), (6, 10)] [43, 44, 49, 50, 51, 52, 53, 54, 55, 56, 57, 61] V V30 := agV20.tr ajV30 (by decide) (by decide)
      have fwV30 : frX (xR b) V V30 := frX.tr fwV20 (frX.ag ajV30 (by decide) (by decide))
      have rgz26 : 0 ≤ z26.toInt ∧ z26.toInt ≤ 1 := rgz26
      have t29 : Imp (z26.toInt = 0) (1 ≤ (V30 1 3).toInt) := t29
      refine lv_if_eq (tgt := 57) hx hb dX1_readComponent_47 (by decide) (fun c32 => ?_) (fun c32 => ?_)
      · skip
        have f33 : z26.toInt = 0 := b_eq rfl (by decide) c32
        refine lv_iconst (v := 0) hx hb dX1_readComponent_57 (by decide) ?_
        have pq34 : (V30 1 2).toInt = ((V 1 2)).toInt := congrArg Int32.toInt ((ajV30 1 2 rfl).trans ((ajV20 1 2 rfl).trans (ajV13 1 2 rfl)))
        have r35 : (-1) ≤ ((V 1 2)).toInt ∧ ((V 1 2)).toInt ≤ 47 := hMV 1 2
        have cd36 : CD V30 b := ⟨CB.ag cd.1 (show agr [(1, 3), (6, 8), (6, 9), (6, 10)] [] V V30 from (agr.tr (agr.tr (agr.tr agr.rf ajV13 (by decide) (by decide)) ajV20 (by decide) (by decide)) ajV30 (by decide) (by decide))) (fun _ => rfl) (fun _ => rfl), CO.ag cd.2 (show agr [(1, 3), (6, 8), (6, 9), (6, 10)] [] V V30 from (agr.tr (agr.tr (agr.tr agr.rf ajV13 (by decide) (by decide)) ajV20 (by decide) (by decide)) ajV30 (by decide) (by decide))) (fun _ => rfl) (fun _ => rfl)⟩
        have p037 : p0x V V13 b := p0x.tr (p0x.rf : p0x V V b) (p0x.ag (show agr [(6, 8), (6, 9), (6, 10)] [] V V13 from (agr.tr agr.rf ajV13 (by decide) (by decide))) (fun _ => rfl) (fun _ => rfl))
        have p038 : p0x V V20 b := p0x.tr p037 (p0x.ag (show agr [(1, 3), (6, 8), (6, 9), (6, 10)] [] V13 V20 from (agr.tr agr.rf ajV20 (by decide) (by decide))) (fun _ => rfl) (fun _ => rfl))
        have p039 : p0x V V30 b := p0x.tr p038 (p0x.ag (show agr [(1, 3), (6, 8), (6, 9), (6, 10)] [] V20 V30 from (agr.tr agr.rf ajV30 (by decide) (by decide))) (fun _ => rfl) (fun _ => rfl))
        exact W.zret (v := 0) hx hb hr rfl (fun t ht hW => ⟨⟨0, (V30, L31), rfl, ⟨hMV30, agV30, alL31, fwV30, (by decide), (Imp.mk (fun hp => absurd hp (by decide))), cd36, p039, (show (V30 1 2).toInt = (V 1 2).toInt ∨ (24 * (b : Int) ≤ (V30 1 2).toInt ∧ (V30 1 2).toInt < 24 * (b : Int) + 24) from by first | exact om_a7db56e9fc7a pq34 | first | omega | ((try (have i_t29 := Imp.go t29 (f33))); (try (have i_t6 := Imp.go t6 (f8))); omega) | ((try (have i_t29 := Imp.go t29 (by omega))); (try (have i_t19 := Imp.go t19 (by omega))); (try (have i_t6 := Imp.go t6 (by omega))); (try (have i_tx := Imp.go tx (by omega))); first | omega | ((try (have i_cd := Imp.go cd (by omega))); (try (have i_cd := Imp.go cd (by omega))); (try (have i_tx := Imp.go tx (by omega))); (try (have i_t6 := Imp.go t6 (by omega))); (try (have i_t19 := Imp.go t19 (by omega))); (try (have i_t29 := Imp.go t29 (by omega))); omega))), (Imp.mk (fun _ => (show 1 ≤ (V30 1 3).toInt from by first | exact om_f8d8213eda45 ((Imp.go t29 (f33))) | first | omega | ((try (have i_t29 := Imp.go t29 (f33))); (try (have i_t6 := Imp.go t6 (f8))); omega) | ((try (have i_t29 := Imp.go t29 (by omega))); (try (have i_t19 := Imp.go t19 (by omega))); (try (have i_t6 := Imp.go t6 (by omega))); (try (have i_tx := Imp.go tx (by omega))); first | omega | ((try (have i_cd := Imp.go cd (by omega))); (try (have i_cd := Imp.go cd (by omega))); (try (have i_tx := Imp.go tx (by omega))); (try (have i_t6 := Imp.go t6 (by omega))); (try (have i_t19 := Imp.go t19 (by omega))); (try (have i_t29 := Imp.go t29 (by omega))); omega)))))⟩, by rw [ht]; exact hP, va_K.moved hW.alike hK, hD⟩, hS.F ht⟩) hS.2.2 dX1_readComponent_58
      · skip
        have f40 : z26.toInt ≠ 0 := b_neq rfl (by decide) c32
        refine lv_aload_n hx hb dX1_readComponent_50 rfl (lv_at hl 1 rfl) ?_
        have pq41 : (V30 1 1).toInt = ((V 1 1)).toInt := congrArg Int32.toInt ((ajV30 1 1 rfl).trans ((ajV20 1 1 rfl).trans (ajV13 1 1 rfl)))
        refine gA_int (gA_runV (As := []) (rest := []) (ci := 1) (q0 := 1) hx hb hml hown hg hP hD hK hS hA hnw hgk (x_takeTypes l D ks H.size ad kk V30 L31 Z (b) hMV30 (show b < 2 from by first | exact om_f940a4667dd6 hb2 | first | omega | ((try (have i_t6 := Imp.go t6 (f8))); omega) | ((try (have i_t29 := Imp.go t29 (by omega))); (try (have i_t19 := Imp.go t19 (by omega))); (try (have i_t6 := Imp.go t6 (by omega))); (try (have i_tx := Imp.go tx (by omega))); first | omega | ((try (have i_cd := Imp.go cd (by omega))); (try (have i_cd := Imp.go cd (by omega))); (try (have i_tx := Imp.go tx (by omega))); (try (have i_t6 := Imp.go t6 (by omega))); (try (have i_t19 := Imp.go t19 (by omega))); (try (have i_t29 := Imp.go t29 (by omega))); omega))) (show (V30 1 1).toInt = (b : Int) from by first | exact om_adf531c77a0d rbk pq41 | first | omega | ((try (have i_t6 := Imp.go t6 (f8))); omega) | ((try (have i_t29 := Imp.go t29 (by omega))); (try (have i_t19 := Imp.go t19 (by omega))); (try (have i_t6 := Imp.go t6 (by omega))); (try (have i_tx := Imp.go tx (by omega))); first | omega | ((try (have i_cd := Imp.go cd (by omega))); (try (have i_cd := Imp.go cd (by omega))); (try (have i_tx := Imp.go tx (by omega))); (try (have i_t6 := Imp.go t6 (by omega))); (try (have i_t19 := Imp.go t19 (by omega))); (try (have i_t29 := Imp.go t29 (by omega))); omega)))) w884 w886 w8 w162 w887 rfl xgReader hdV_yX1_takeTypes ⟨Nat.le_of_ble_eq_true rfl, Nat.le_of_ble_eq_true rfl⟩ rfl hl.1 rfl (Nat.le_of_ble_eq_true rfl) dX1_readComponent_51 ⟨Nat.le_of_ble_eq_true rfl, Nat.le_of_ble_eq_true rfl⟩) hP hD hK hS hA (fun z42 u43 H locs w44 hP hD hK hS => ?_)
        obtain ⟨V46, L47⟩ := u43
        obtain ⟨hMV46, ajV46, axL47, rgz42, t45⟩ := w44
        have alL47 : agL [1, 6, 44] L L47 := agL.tr alL31 axL47 (by decide)
        have hP : va_P D vwCl (xw ad kk V46 L47 Z) H := hP
        have hD : va_D A (xw ad kk V46 L47 Z) := hD
        have hMV46 : rgd bX V46 := hMV46
        have ajV46 : agr [(1, 3), (1, 6), (1, 7), (6, 8), (6, 9), (6, 10)] [] V30 V46 := ajV46
        have agV46 : agr [(1, 2), (1, 3), (1, 6), (1, 7), (1, 8), (6, 8), (6, 9), (6, 10)] [43, 44, 49, 50, 51, 52, 53, 54, 55, 56, 57, 61] V V46 := agV30.tr ajV46 (by decide) (by decide)
        have fwV46 : frX (xR b) V V46 := frX.tr fwV30 (frX.ag ajV46 (by decide) (by decide))
        have rgz42 : 0 ≤ z42.toInt ∧ z42.toInt ≤ 1 := rgz42
        have t45 : Imp (z42.toInt = 0) (1 ≤ (V46 1 3).toInt) := t45
        refine lv_if_ne (tgt := 59) hx hb dX1_readComponent_54 (by decide) (fun c48 => ?_) (fun c48 => ?_)
        · skip
          have f49 : z42.toInt ≠ 0 := b_neq rfl (by decide) c48
          refine lv_aload_n hx hb dX1_readComponent_59 rfl (lv_at hl 1 rfl) ?_
          refine va_get (D := D) (ci := 1) (v := .ref (ad 6)) (fs := (xfReader ad V46 L47 Z)) (C := RX1) (T := TX1) (N := 9) hx hb hg inX1 hown hK hP 1 xgReader rfl 0 (by decide) (hg _ w304) (fun _ h9 => h9) rfl dX1_readComponent_60 ?_
          refine va_getN (D := D) (ci := 9) (v := .int (V46 6 9)) (fs := (xfTape ad V46 L47 Z)) (C := RX9) (T := TX9) (N := 12) hx hb hg inX9 hown hK hP 6 xgTape rfl 9 (by decide) (hnw.use 262 n262 rfl) (fun _ h9 => h9) rfl dX1_readComponent_63 ?_
          refine lv_sipush (v := 148) hx hb dX1_readComponent_66 (by decide) ?_
          refine lv_icmp_lt (tgt := 85) hx hb dX1_readComponent_69 (by decide) (fun c50 => ?_) (fun c50 => ?_)
          · skip
            have f51 : ((V46 6 9)).toInt < 148 := b_lt rfl (by decide) c50
            refine lv_aload_n hx hb dX1_readComponent_85 rfl (lv_at hl 1 rfl) ?_
            refine lv_iconst (v := 1) hx hb dX1_readComponent_86 (by decide) ?_
            have r52 : Int32.toInt 1 = 1 := by decide
            refine gA_int (gA_runV (As := [.int 1]) (rest := []) (ci := 1) (q0 := 1) hx hb hml hown hg hP hD hK hS hA hnw hgk (x_wrong l D ks H.size ad kk V46 L47 Z 1 hMV46 (by decide)) w867 w869 w6 w162 w870 rfl xgReader hdV_yX1_wrong ⟨Nat.le_of_ble_eq_true rfl, Nat.le_of_ble_eq_true rfl⟩ rfl hl.1 rfl (Nat.le_of_ble_eq_true rfl) dX1_readComponent_87 ⟨Nat.le_of_ble_eq_true rfl, Nat.le_of_ble_eq_true rfl⟩) hP hD hK hS hA (fun z53 u54 H locs w55 hP hD hK hS => ?_)
            obtain ⟨V57, L58⟩ := u54
            obtain ⟨hMV57, ajV57, axL58, rgz53, t56⟩ := w55
            have axL58 : L47 = L58 := Eq.symm axL58
            subst axL58
            have hP : va_P D vwCl (xw ad kk V57 L47 Z) H := hP
            have hD : va_D A (xw ad kk V57 L47 Z) := hD
            have hMV57 : rgd bX V57 := hMV57
            have ajV57 : agr [(1, 3)] [] V46 V57 := ajV57
            have agV57 : agr [(1, 2), (1, 3), (1, 6), (1, 7), (1, 8), (6, 8), (6, 9), (6, 10)] [43, 44, 49, 50, 51, 52, 53, 54, 55, 56, 57, 61] V V57 := agV46.tr ajV57 (by decide) (by decide)
            have fwV57 : frX (xR b) V V57 := frX.tr fwV46 (frX.ag ajV57 (by decide) (by decide))
            have rgz53 : 0 ≤ z53.toInt ∧ z53.toInt ≤ 0 := rgz53
            have t56 : 1 ≤ (V57 1 3).toInt := t56
            have pq59 : (V57 1 2).toInt = ((V 1 2)).toInt := congrArg Int32.toInt ((ajV57 1 2 rfl).trans ((ajV46 1 2 rfl).trans ((ajV30 1 2 rfl).trans ((ajV20 1 2 rfl).trans (ajV13 1 2 rfl)))))
            have r60 : (-1) ≤ ((V 1 2)).toInt ∧ ((V 1 2)).toInt ≤ 47 := hMV 1 2
            have cd61 : CD V57 b := ⟨CB.ag cd.1 (show agr [(1, 3), (1, 6), (1, 7), (6, 8), (6, 9), (6, 10)] [] V V57 from (agr.tr (agr.tr (agr.tr (agr.tr (agr.tr agr.rf ajV13 (by decide) (by decide)) ajV20 (by decide) (by decide)) ajV30 (by decide) (by decide)) ajV46 (by decide) (by decide)) ajV57 (by decide) (by decide))) (fun _ => rfl) (fun _ => rfl), CO.ag cd.2 (show agr [(1, 3), (1, 6), (1, 7), (6, 8), (6, 9), (6, 10)] [] V V57 from (agr.tr (agr.tr (agr.tr (agr.tr (agr.tr agr.rf ajV13 (by decide) (by decide)) ajV20 (by decide) (by decide)) ajV30 (by decide) (by decide)) ajV46 (by decide) (by decide)) ajV57 (by decide) (by decide))) (fun _ => rfl) (fun _ => rfl)⟩
            have p062 : p0x V V13 b := p0x.tr (p0x.rf : p0x V V b) (p0x.ag (show agr [(6, 8), (6, 9), (6, 10)] [] V V13 from (agr.tr agr.rf ajV13 (by decide) (by decide))) (fun _ => rfl) (fun _ => rfl))
            have p063 : p0x V V20 b := p0x.tr p062 (p0x.ag (show agr [(1, 3), (6, 8), (6, 9), (6, 10)] [] V13 V20 from (agr.tr agr.rf ajV20 (by decide) (by decide))) (fun _ => rfl) (fun _ => rfl))
            have p064 : p0x V V30 b := p0x.tr p063 (p0x.ag (show agr [(1, 3), (6, 8), (6, 9), (6, 10)] [] V20 V30 from (agr.tr agr.rf ajV30 (by decide) (by decide))) (fun _ => rfl) (fun _ => rfl))
            have p065 : p0x V V46 b := p0x.tr p064 (p0x.ag (show agr [(1, 3), (1, 6), (1, 7), (6, 8), (6, 9), (6, 10)] [] V30 V46 from (agr.tr agr.rf ajV46 (by decide) (by decide))) (fun _ => rfl) (fun _ => rfl))
            have p066 : p0x V V57 b := p0x.tr p065 (p0x.ag (show agr [(1, 3)] [] V46 V57 from (agr.tr agr.rf ajV57 (by decide) (by decide))) (fun _ => rfl) (fun _ => rfl))
            exact W.zret (v := z53) hx hb hr (nb_ok (by omega)) (fun t ht hW => ⟨⟨z53, (V57, L47), rfl, ⟨hMV57, agV57, alL47, fwV57, (show 0 ≤ z53.toInt ∧ z53.toInt ≤ 1 from by first | exact om_641b3f05f166 rgz53.1 rgz53.2 | first | omega | ((try (have i_t6 := Imp.go t6 (f8))); omega) | ((try (have i_t45 := Imp.go t45 (by omega))); (try (have i_t29 := Imp.go t29 (by omega))); (try (have i_t19 := Imp.go t19 (by omega))); (try (have i_t6 := Imp.go t6 (by omega))); first | omega | ((try (have i_tx := Imp.go tx (by omega))); (try (have i_cd := Imp.go cd (by omega))); (try (have i_cd := Imp.go cd (by omega))); (try (have i_tx := Imp.go tx (by omega))); first | omega | ((try (have i_t6 := Imp.go t6 (by omega))); (try (have i_t19 := Imp.go t19 (by omega))); (try (have i_t29 := Imp.go t29 (by omega))); (try (have i_t45 := Imp.go t45 (by omega))); omega)))), (Imp.mk (fun hp => by exfalso; first | omega | ((try (have i_t6 := Imp.go t6 (f8))); omega) | ((try (have i_t45 := Imp.go t45 (by omega))); (try (have i_t29 := Imp.go t29 (by omega))); (try (have i_t19 := Imp.go t19 (by omega))); (try (have i_t6 := Imp.go t6 (by omega))); first | omega | ((try (have i_tx := Imp.go tx (by omega))); (try (have i_cd := Imp.go cd (by omega))); (try (have i_cd := Imp.go cd (by omega))); (try (have i_tx := Imp.go tx (by omega))); first | omega | ((try (have i_t6 := Imp.go t6 (by omega))); (try (have i_t19 := Imp.go t19 (by omega))); (try (have i_t29 := Imp.go t29 (by omega))); (try (have i_t45 := Imp.go t45 (by omega))); omega))))), cd61, p066, (show (V57 1 2).toInt = (V 1 2).toInt ∨ (24 * (b : Int) ≤ (V57 1 2).toInt ∧ (V57 1 2).toInt < 24 * (b : Int) + 24) from by first | exact om_a7db56e9fc7a pq59 | first | omega | ((try (have i_t6 := Imp.go t6 (f8))); omega) | ((try (have i_t45 := Imp.go t45 (by omega))); (try (have i_t29 := Imp.go t29 (by omega))); (try (have i_t19 := Imp.go t19 (by omega))); (try (have i_t6 := Imp.go t6 (by omega))); first | omega | ((try (have i_tx := Imp.go tx (by omega))); (try (have i_cd := Imp.go cd (by omega))); (try (have i_cd := Imp.go cd (by omega))); (try (have i_tx := Imp.go tx (by omega))); first | omega | ((try (have i_t6 := Imp.go t6 (by omega))); (try (have i_t19 := Imp.go t19 (by omega))); (try (have i_t29 := Imp.go t29 (by omega))); (try (have i_t45 := Imp.go t45 (by omega))); omega)))), (Imp.mk (fun hp => have hp : z53.toInt = 0 := hp; (show 1 ≤ (V57 1 3).toInt from by first | exact om_f8d8213eda45 t56 | first | omega | ((try (have i_t6 := Imp.go t6 (f8))); omega) | ((try (have i_t45 := Imp.go t45 (by omega))); (try (have i_t29 := Imp.go t29 (by omega))); (try (have i_t19 := Imp.go t19 (by omega))); (try (have i_t6 := Imp.go t6 (by omega))); first | omega | ((try (have i_tx := Imp.go tx (by omega))); (try (have i_cd := Imp.go cd (by omega))); (try (have i_cd := Imp.go cd (by omega))); (try (have i_tx := Imp.go tx (by omega))); first | omega | ((try (have i_t6 := Imp.go t6 (by omega))); (try (have i_t19 := Imp.go t19 (by omega))); (try (have i_t29 := Imp.go t29 (by omega))); (try (have i_t45 := Imp.go t45 (by omega))); omega))))))⟩, by rw [ht]; exact hP, va_K.moved hW.alike hK, hD⟩, hS.F ht⟩) hS.2.2 dX1_readComponent_90
          · skip
            have f67 : 148 ≤ ((V46 6 9)).toInt := b_nlt rfl (by decide) c50
            refine lv_aload_n hx hb dX1_readComponent_72 rfl (lv_at hl 1 rfl) ?_
            refine va_get (D := D) (ci := 1) (v := .ref (ad 6)) (fs := (xfReader ad V46 L47 Z)) (C := RX1) (T := TX1) (N := 9) hx hb hg inX1 hown hK hP 1 xgReader rfl 0 (by decide) (hg _ w304) (fun _ h9 => h9) rfl dX1_readComponent_73 ?_
            refine va_getN (D := D) (ci := 9) (v := .int (V46 6 9)) (fs := (xfTape ad V46 L47 Z)) (C := RX9) (T := TX9) (N := 12) hx hb hg inX9 hown hK hP 6 xgTape rfl 9 (by decide) (hnw.use 262 n262 rfl) (fun _ h9 => h9) rfl dX1_readComponent_76 ?_
            refine lv_sipush (v := 151) hx hb dX1_readComponent_79 (by decide) ?_
            refine lv_icmp_le (tgt := 91) hx hb dX1_readComponent_82 (by decide) (fun c68 => ?_) (fun c68 => ?_)
            · skip
              have f69 : ((V46 6 9)).toInt ≤ 151 := b_le rfl (by decide) c68
              refine lv_aload_n hx hb dX1_readComponent_91 rfl (lv_at hl 1 rfl) ?_
              refine va_get (D := D) (ci := 1) (v := rfN ad 38 (V46 1 1)) (fs := (xfReader ad V46 L47 Z)) (C := RX1) (T := TX1) (N := 9) hx hb hg inX1 hown hK hP 1 xgReader rfl 1 (by decide) (hg _ w305) (fun _ h9 => h9) rfl dX1_readComponent_92 ?_
              have pq70 : (V46 1 1).toInt = ((V 1 1)).toInt := congrArg Int32.toInt ((ajV46 1 1 rfl).trans ((ajV30 1 1 rfl).trans ((ajV20 1 1 rfl).trans (ajV13 1 1 rfl))))
              refine g_topv (v := .ref (ad (38 + b))) (rfN_r (by first | omega | ((try (have i_t6 := Imp.go t6 (f8))); omega) | ((try (have i_t45 := Imp.go t45 (by omega))); (try (have i_t29 := Imp.go t29 (by omega))); (try (have i_t19 := Imp.go t19 (by omega))); (try (have i_t6 := Imp.go t6 (by omega))); first | omega | ((try (have i_tx := Imp.go tx (by omega))); (try (have i_cd := Imp.go cd (by omega))); (try (have i_cd := Imp.go cd (by omega))); (try (have i_tx := Imp.go tx (by omega))); first | omega | ((try (have i_t6 := Imp.go t6 (by omega))); (try (have i_t19 := Imp.go t19 (by omega))); (try (have i_t29 := Imp.go t29 (by omega))); (try (have i_t45 := Imp.go t45 (by omega))); omega))))) ?_
              refine va_getN (D := D) (ci := 0) (v := .ref (ad (64 + b))) (fs := (xfBook ad V46 b)) (C := RX0) (T := TX0) (N := 13) hx hb hg inX0 hown hK hP (38 + b) (xgBook hb2) rfl 7 (by decide) (hnw.use 616 n616 rfl) (fun _ h9 => h9) rfl dX1_readComponent_95 ?_
              refine lv_aload_n hx hb dX1_readComponent_98 rfl (lv_at hl 1 rfl) ?_
              refine va_get (D := D) (ci := 1) (v := rfN ad 38 (V46 1 1)) (fs := (xfReader ad V46 L47 Z)) (C := RX1) (T := TX1) (N := 9) hx hb hg inX1 hown hK hP 1 xgReader rfl 1 (by decide) (hg _ w305) (fun _ h9 => h9) rfl dX1_readComponent_99 ?_
              refine g_topv (v := .ref (ad (38 + b))) (rfN_r (by first | omega | ((try (have i_t6 := Imp.go t6 (f8))); omega) | ((try (have i_t45 := Imp.go t45 (by omega))); (try (have i_t29 := Imp.go t29 (by omega))); (try (have i_t19 := Imp.go t19 (by omega))); (try (have i_t6 := Imp.go t6 (by omega))); first | omega | ((try (have i_tx := Imp.go tx (by omega))); (try (have i_cd := Imp.go cd (by omega))); (try (have i_cd := Imp.go cd (by omega))); (try (have i_tx := Imp.go tx (by omega))); first | omega | ((try (have i_t6 := Imp.go t6 (by omega))); (try (have i_t19 := Imp.go t19 (by omega))); (try (have i_t29 := Imp.go t29 (by omega))); (try (have i_t45 := Imp.go t45 (by omega))); omega))))) ?_
              refine va_getN (D := D) (ci := 0) (v := .ref (ad (40 + (5 * b + 2)))) (fs := (xfBook ad V46 b)) (C := RX0) (T := TX0) (N := 13) hx hb hg inX0 hown hK hP (38 + b) (xgBook hb2) rfl 2 (by decide) (hnw.use 601 n601 rfl) (fun _ h9 => h9) rfl dX1_readComponent_102 ?_
              refine va_getN (D := D) (ci := 6) (v := .int (V46 43 (5 * b + 2))) (fs := (xfNames ad V46 (5 * b + 2))) (C := RX6) (T := TX6) (N := 2) hx hb hg inX6 hown hK hP (40 + (5 * b + 2)) (xgNames il2) rfl 1 (by decide) (hnw.use 484 n484 rfl) (fun _ h9 => h9) rfl dX1_readComponent_105 ?_
              refine g_top (v := (V 43 (5 * b + 2))) ((ajV46 43 (5 * b + 2) rfl).trans ((ajV30 43 (5 * b + 2) rfl).trans ((ajV20 43 (5 * b + 2) rfl).trans (ajV13 43 (5 * b + 2) rfl)))) ?_
              have r71 : 0 ≤ ((V 43 (5 * b + 2))).toInt ∧ ((V 43 (5 * b + 2))).toInt ≤ ((xcap (5 * b + 2) : Nat) : Int) := hMV 43 (5 * b + 2)
              have il72 : b < 2 := by first | exact om_f940a4667dd6 hb2 | first | omega | ((try (have i_t6 := Imp.go t6 (f8))); omega) | ((try (have i_t45 := Imp.go t45 (by omega))); (try (have i_t29 := Imp.go t29 (by omega))); (try (have i_t19 := Imp.go t19 (by omega))); (try (have i_t6 := Imp.go t6 (by omega))); first | omega | ((try (have i_tx := Imp.go tx (by omega))); (try (have i_cd := Imp.go cd (by omega))); (try (have i_cd := Imp.go cd (by omega))); (try (have i_tx := Imp.go tx (by omega))); first | omega | ((try (have i_t6 := Imp.go t6 (by omega))); (try (have i_t19 := Imp.go t19 (by omega))); (try (have i_t29 := Imp.go t29 (by omega))); (try (have i_t45 := Imp.go t45 (by omega))); omega)))
              refine va_aldq (D := D) (i := (V 43 (5 * b + 2))) hx hb hK hP (64 + b) (57 + b) (xgcomps il72) (xtcomps il72) (i_in (a := ((V 43 (5 * b + 2))).toInt) rfl (by first | exact om_c5e92f2423eb r9 r71.1 ((Imp.go t6 (f8))) | first | omega | ((try (have i_t6 := Imp.go t6 (f8))); omega) | ((try (have i_t45 := Imp.go t45 (by omega))); (try (have i_t29 := Imp.go t29 (by omega))); (try (have i_t19 := Imp.go t19 (by omega))); (try (have i_t6 := Imp.go t6 (by omega))); first | omega | ((try (have i_tx := Imp.go tx (by omega))); (try (have i_cd := Imp.go cd (by omega))); (try (have i_cd := Imp.go cd (by omega))); (try (have i_tx := Imp.go tx (by omega))); first | omega | ((try (have i_t6 := Imp.go t6 (by omega))); (try (have i_t19 := Imp.go t19 (by omega))); (try (have i_t29 := Imp.go t29 (by omega))); (try (have i_t45 := Imp.go t45 (by omega))); omega))))) dX1_readComponent_108 ?_
              have kc73 := i_clamp (x := (V 43 (5 * b + 2))) rfl (by first | exact om_eafa9039069c r71.1 | first | omega | ((try (have i_t6 := Imp.go t6 (f8))); omega) | ((try (have i_t45 := Imp.go t45 (by omega))); (try (have i_t29 := Imp.go t29 (by omega))); (try (have i_t19 := Imp.go t19 (by omega))); (try (have i_t6 := Imp.go t6 (by omega))); first | omega | ((try (have i_tx := Imp.go tx (by omega))); (try (have i_cd := Imp.go cd (by omega))); (try (have i_cd := Imp.go cd (by omega))); (try (have i_tx := Imp.go tx (by omega))); first | omega | ((try (have i_t6 := Imp.go t6 (by omega))); (try (have i_t19 := Imp.go t19 (by omega))); (try (have i_t29 := Imp.go t29 (by omega))); (try (have i_t45 := Imp.go t45 (by omega))); omega))))
              refine g_topv (v := .ref (ad (72 + (24 * b + (Int32.toNatClampNeg (V 43 (5 * b + 2))))))) (congrArg va_rf (if_pos (by first | omega | ((try (have i_t6 := Imp.go t6 (f8))); omega) | ((try (have i_t45 := Imp.go t45 (by omega))); (try (have i_t29 := Imp.go t29 (by omega))); (try (have i_t19 := Imp.go t19 (by omega))); (try (have i_t6 := Imp.go t6 (by omega))); first | omega | ((try (have i_tx := Imp.go tx (by omega))); (try (have i_cd := Imp.go cd (by omega))); (try (have i_cd := Imp.go cd (by omega))); (try (have i_tx := Imp.go tx (by omega))); first | omega | ((try (have i_t6 := Imp.go t6 (by omega))); (try (have i_t19 := Imp.go t19 (by omega))); (try (have i_t29 := Imp.go t29 (by omega))); (try (have i_t45 := Imp.go t45 (by omega))); omega)))))) ?_
              have il74 : (24 * b + (Int32.toNatClampNeg (V 43 (5 * b + 2)))) < 48 := by first | exact om_7a5ac9328048 hb2 r9 kc73 ((Imp.go t6 (f8))) | first | omega | ((try (have i_t6 := Imp.go t6 (f8))); omega) | ((try (have i_t45 := Imp.go t45 (by omega))); (try (have i_t29 := Imp.go t29 (by omega))); (try (have i_t19 := Imp.go t19 (by omega))); (try (have i_t6 := Imp.go t6 (by omega))); first | omega | ((try (have i_tx := Imp.go tx (by omega))); (try (have i_cd := Imp.go cd (by omega))); (try (have i_cd := Imp.go cd (by omega))); (try (have i_tx := Imp.go tx (by omega))); first | omega | ((try (have i_t6 := Imp.go t6 (by omega))); (try (have i_t19 := Imp.go t19 (by omega))); (try (have i_t29 := Imp.go t29 (by omega))); (try (have i_t45 := Imp.go t45 (by omega))); omega)))
              refine lv_astore_n (lv' := [(3, .ref (ad (72 + (24 * b + (Int32.toNatClampNeg (V 43 (5 * b + 2))))))), (1, .long w24), (0, .ref (ad 1))]) hx hb dX1_readComponent_109 rfl hl (by decide) rfl (fun ls hl => ?_)
              refine lv_aload_n hx hb dX1_readComponent_110 rfl (lv_at hl 0 rfl) ?_
              have px75 : px V V46 b := px.tr (px.rf : px V V b) (px.ag (show agr [(1, 3), (1, 6), (1, 7), (6, 8), (6, 9), (6, 10)] [] V V46 from (agr.tr (agr.tr (agr.tr (agr.tr agr.rf ajV13 (by decide) (by decide)) ajV20 (by decide) (by decide)) ajV30 (by decide) (by decide)) ajV46 (by decide) (by decide))) (fun _ => rfl) (fun _ => rfl) (fun _ => rfl))
              have tx76 : TX V46 b := TX.ag tx (show agr [(1, 3), (1, 6), (1, 7), (6, 8), (6, 9), (6, 10)] [] V V46 from (agr.tr (agr.tr (agr.tr (agr.tr agr.rf ajV13 (by decide) (by decide)) ajV20 (by decide) (by decide)) ajV30 (by decide) (by decide)) ajV46 (by decide) (by decide))) px75 (fun _ => rfl) (fun _ => rfl) (fun _ => rfl) (fun _ => rfl) (fun _ => rfl) (fun _ => rfl)
              refine gA_void (gA_runV (As := []) (rest := []) (ci := 3) (q0 := (72 + (24 * b + (Int32.toNatClampNeg (V 43 (5 * b + 2)))))) hx hb hml hown hg hP hD hK hS hA hnw hgk (x_cclear l D ks H.size ad kk V46 L47 Z ((24 * b + (Int32.toNatClampNeg (V 43 (5 * b + 2))))) hMV46 (show (24 * b + (Int32.toNatClampNeg (V 43 (5 * b + 2)))) < 48 from by first | exact om_7a5ac9328048 hb2 r9 kc73 ((Imp.go t6 (f8))) | first | omega | ((try (have i_t6 := Imp.go t6 (f8))); omega) | ((try (have i_t45 := Imp.go t45 (by omega))); (try (have i_t29 := Imp.go t29 (by omega))); (try (have i_t19 := Imp.go t19 (by omega))); (try (have i_t6 := Imp.go t6 (by omega))); first | omega | ((try (have i_tx := Imp.go tx (by omega))); (try (have i_cd := Imp.go cd (by omega))); (try (have i_cd := Imp.go cd (by omega))); (try (have i_tx := Imp.go tx (by omega))); first | omega | ((try (have i_t6 := Imp.go t6 (by omega))); (try (have i_t19 := Imp.go t19 (by omega))); (try (have i_t29 := Imp.go t29 (by omega))); (try (have i_t45 := Imp.go t45 (by omega))); omega))))) w914 w915 w916 w169 w917 rfl (xgComp il74) hdV_yX3_clear ⟨Nat.le_of_ble_eq_true rfl, Nat.le_of_ble_eq_true rfl⟩ rfl hl.1 rfl (Nat.le_of_ble_eq_true rfl) dX1_readComponent_111 ⟨Nat.le_of_ble_eq_true rfl, Nat.le_of_ble_eq_true rfl⟩) hP hD hK hS hA (fun u78 H locs w79 hP hD hK hS => ?_)
              obtain ⟨V88, L89⟩ := u78
              obtain ⟨hMV88, ajV88, axL89, fyV88, t80, t81, t82, t83, t84, t85, t86, t87⟩ := w79
              have axL89 : L47 = L89 := Eq.symm axL89
              subst axL89
              have hP : va_P D vwCl (xw ad kk V88 L47 Z) H := hP
              have hD : va_D A (xw ad kk V88 L47 Z) := hD
              have hMV88 : rgd bX V88 := hMV88
              have ajV88 : agr [] [49, 50, 51, 52, 53, 54, 55, 56, 57, 61] V46 V88 := ajV88
              have agV88 : agr [(1, 2), (1, 3), (1, 6), (1, 7), (1, 8), (6, 8), (6, 9), (6, 10)] [43, 44, 49, 50, 51, 52, 53, 54, 55, 56, 57, 61] V V88 := agV46.tr ajV88 (by decide) (by decide)
              have fwV88 : frX (xR b) V V88 := frX.tr fwV46 (frX_IB fyV88 (by first | omega | ((try (have i_t6 := Imp.go t6 (f8))); omega) | ((try (have i_t45 := Imp.go t45 (by omega))); (try (have i_t29 := Imp.go t29 (by omega))); (try (have i_t19 := Imp.go t19 (by omega))); (try (have i_t6 := Imp.go t6 (by omega))); first | omega | ((try (have i_tx := Imp.go tx (by omega))); (try (have i_cd := Imp.go cd (by omega))); (try (have i_cd := Imp.go cd (by omega))); (try (have i_tx := Imp.go tx (by omega))); first | omega | ((try (have i_t6 := Imp.go t6 (by omega))); (try (have i_t19 := Imp.go t19 (by omega))); (try (have i_t29 := Imp.go t29 (by omega))); (try (have i_t45 := Imp.go t45 (by omega))); omega)))) (by first | omega | ((try (have i_t6 := Imp.go t6 (f8))); omega) | ((try (have i_t45 := Imp.go t45 (by omega))); (try (have i_t29 := Imp.go t29 (by omega))); (try (have i_t19 := Imp.go t19 (by omega))); (try (have i_t6 := Imp.go t6 (by omega))); first | omega | ((try (have i_tx := Imp.go tx (by omega))); (try (have i_cd := Imp.go cd (by omega))); (try (have i_cd := Imp.go cd (by omega))); (try (have i_tx := Imp.go tx (by omega))); first | omega | ((try (have i_t6 := Imp.go t6 (by omega))); (try (have i_t19 := Imp.go t19 (by omega))); (try (have i_t29 := Imp.go t29 (by omega))); (try (have i_t45 := Imp.go t45 (by omega))); omega)))))
              have t80 : (V88 56 (24 * b + (Int32.toNatClampNeg (V 43 (5 * b + 2))))).toInt = -1 := t80
              have t81 : (V88 57 (24 * b + (Int32.toNatClampNeg (V 43 (5 * b + 2))))).toInt = -1 := t81
              have t82 : (V88 49 (24 * b + (Int32.toNatClampNeg (V 43 (5 * b + 2))))).toInt = 0 := t82
              have t83 : (∀ q : Nat, (q : Int) < 20 → (V88 61 (20 * (24 * b + (Int32.toNatClampNeg (V 43 (5 * b + 2)))) + q)).toInt = -1) := t83
              have t84 : (∀ q : Nat, ¬ (20 * (24 * b + (Int32.toNatClampNeg (V 43 (5 * b + 2)))) ≤ q ∧ q < 20 * (24 * b + (Int32.toNatClampNeg (V 43 (5 * b + 2)))) + 20) → V88 61 q = V46 61 q) := t84
              have t85 : (∀ q : Nat, ¬ q = (24 * b + (Int32.toNatClampNeg (V 43 (5 * b + 2)))) → V88 56 q = V46 56 q) := t85
              have t86 : (∀ q : Nat, ¬ q = (24 * b + (Int32.toNatClampNeg (V 43 (5 * b + 2)))) → V88 57 q = V46 57 q) := t86
              have t87 : (∀ q : Nat, ¬ q = (24 * b + (Int32.toNatClampNeg (V 43 (5 * b + 2)))) → V88 49 q = V46 49 q) := t87
              refine lv_aload_n hx hb dX1_readComponent_114 rfl (lv_at hl 0 rfl) ?_
              refine lv_aload_n hx hb dX1_readComponent_115 rfl (lv_at hl 2 rfl) ?_
              refine va_get (D := D) (ci := 1) (v := .int (V88 1 7)) (fs := (xfReader ad V88 L47 Z)) (C := RX1) (T := TX1) (N := 9) hx hb hg inX1 hown hK hP 1 xgReader rfl 7 (by decide) (hg _ w311) (fun _ h9 => h9) rfl dX1_readComponent_116 ?_
              refine g_top (v := (V46 1 7)) (ajV88 1 7 rfl) ?_
              refine va_putN (D := D) (ci := 3) (v := .int (V46 1 7)) (ty := tyX3 5) (fs := (xfComp ad V88 (24 * b + (Int32.toNatClampNeg (V 43 (5 * b + 2)))))) (C := RX3) (T := TX3) (N := 13) hx hb hg inX3 tyX3 tyX3_ok nmX3 hown hK hP hD hS (72 + (24 * b + (Int32.toNatClampNeg (V 43 (5 * b + 2))))) (xgComp il74) rfl 5 (by decide) (hnw.use 516 n516 rfl) (fun _ h9 => h9) rfl (tyX3_ok 5 (by decide)) rfl rfl (Nat.le_of_ble_eq_true rfl) dX1_readComponent_119 (fun H locs hP hD hS => ?_)
              obtain ⟨V90, hV90⟩ : ∃ z, z = up2 V88 50 (24 * b + (Int32.toNatClampNeg (V 43 (5 * b + 2)))) (V46 1 7) := ⟨_, rfl⟩
              have ew91 : (xw ad kk V88 L47 Z).set (72 + (24 * b + (Int32.toNatClampNeg (V 43 (5 * b + 2))))) ((ad (72 + (24 * b + (Int32.toNatClampNeg (V 43 (5 * b + 2)))))), .inr (3, (xfComp ad V88 (24 * b + (Int32.toNatClampNeg (V 43 (5 * b + 2))))).set 5 (.int (V46 1 7)))) = xw ad kk V90 L47 Z := by rw [hV90]; exact xpComp_under il74
              have hP : va_P D vwCl (xw ad kk V90 L47 Z) H := by rw [← ew91]; exact hP
              have hD : va_D A (xw ad kk V90 L47 Z) := by rw [← ew91]; exact hD
              have hMV90 : rgd bX V90 := hMV88.put hV90 (i_full _)
              have agV90 : agr [(1, 2), (1, 3), (1, 6), (1, 7), (1, 8), (6, 8), (6, 9), (6, 10)] [43, 44, 49, 50, 51, 52, 53, 54, 55, 56, 57, 61] V V90 := agV88.up hV90 rfl
              have fwV90 : frX (xR b) V V90 := frX.up fwV88 hV90 (Or.inr ⟨(by show 24 * b ≤ (24 * b + (Int32.toNatClampNeg (V 43 (5 * b + 2)))); first | exact om_8f00918b7f46 | first | omega | ((try (have i_t6 := Imp.go t6 (f8))); omega) | ((try (have i_t45 := Imp.go t45 (by omega))); (try (have i_t29 := Imp.go t29 (by omega))); (try (have i_t19 := Imp.go t19 (by omega))); (try (have i_t6 := Imp.go t6 (by omega))); first | omega | ((try (have i_tx := Imp.go tx (by omega))); (try (have i_cd := Imp.go cd (by omega))); (try (have i_cd := Imp.go cd (by omega))); (try (have i_tx := Imp.go tx (by omega))); first | omega | ((try (have i_t6 := Imp.go t6 (by omega))); (try (have i_t19 := Imp.go t19 (by omega))); (try (have i_t29 := Imp.go t29 (by omega))); (try (have i_t45 := Imp.go t45 (by omega))); omega)))), (by show (24 * b + (Int32.toNatClampNeg (V 43 (5 * b + 2)))) < 24 * b + 24; first | exact om_2cb391d8ee49 r9 kc73 ((Imp.go t6 (f8))) | first | omega | ((try (have i_t6 := Imp.go t6 (f8))); omega) | ((try (have i_t45 := Imp.go t45 (by omega))); (try (have i_t29 := Imp.go t29 (by omega))); (try (have i_t19 := Imp.go t19 (by omega))); (try (have i_t6 := Imp.go t6 (by omega))); first | omega | ((try (have i_tx := Imp.go tx (by omega))); (try (have i_cd := Imp.go cd (by omega))); (try (have i_cd := Imp.go cd (by omega))); (try (have i_tx := Imp.go tx (by omega))); first | omega | ((try (have i_t6 := Imp.go t6 (by omega))); (try (have i_t19 := Imp.go t19 (by omega))); (try (have i_t29 := Imp.go t29 (by omega))); (try (have i_t45 := Imp.go t45 (by omega))); omega))))⟩)
              refine lv_aload_n hx hb dX1_readComponent_122 rfl (lv_at hl 0 rfl) ?_
              refine lv_aload_n hx hb dX1_readComponent_123 rfl (lv_at hl 2 rfl) ?_
              refine va_get (D := D) (ci := 1) (v := .ref (ad 6)) (fs := (xfReader ad V90 L47 Z)) (C := RX1) (T := TX1) (N := 9) hx hb hg inX1 hown hK hP 1 xgReader rfl 0 (by decide) (hg _ w304) (fun _ h9 => h9) rfl dX1_readComponent_124 ?_
              refine va_getN (D := D) (ci := 9) (v := .int (V90 6 9)) (fs := (xfTape ad V90 L47 Z)) (C := RX9) (T := TX9) (N := 12) hx hb hg inX9 hown hK hP 6 xgTape rfl 9 (by decide) (hnw.use 262 n262 rfl) (fun _ h9 => h9) rfl dX1_readComponent_127 ?_
              refine g_top (v := (V46 6 9)) ((up2_o hV90 (by decide)).trans (ajV88 6 9 rfl)) ?_
              refine lv_sipush (v := 148) hx hb dX1_readComponent_130 (by decide) ?_
              refine lv_isub hx hb dX1_readComponent_133 ?_
              refine lv_topi (fun z92 ez92 => ?_)
              have hz92 : z92.toInt = ((V46 6 9)).toInt - 148 := i_sub ez92 rfl (by decide) (by (first | exact om_84b3fe0a5662 f67 f69 | omega))
              refine va_putN (D := D) (ci := 3) (v := .int z92) (ty := tyX3 6) (fs := (xfComp ad V90 (24 * b + (Int32.toNatClampNeg (V 43 (5 * b + 2)))))) (C := RX3) (T := TX3) (N := 13) hx hb hg inX3 tyX3 tyX3_ok nmX3 hown hK hP hD hS (72 + (24 * b + (Int32.toNatClampNeg (V 43 (5 * b + 2))))) (xgComp il74) rfl 6 (by decide) (hnw.use 520 n520 rfl) (fun _ h9 => h9) rfl (tyX3_ok 6 (by decide)) rfl rfl (Nat.le_of_ble_eq_true rfl) dX1_readComponent_134 (fun H locs hP hD hS => ?_)
              obtain ⟨V93, hV93⟩ : ∃ z, z = up2 V90 51 (24 * b + (Int32.toNatClampNeg (V 43 (5 * b + 2)))) z92 := ⟨_, rfl⟩
              have ew94 : (xw ad kk V90 L47 Z).set (72 + (24 * b + (Int32.toNatClampNeg (V 43 (5 * b + 2))))) ((ad (72 + (24 * b + (Int32.toNatClampNeg (V 43 (5 * b + 2)))))), .inr (3, (xfComp ad V90 (24 * b + (Int32.toNatClampNeg (V 43 (5 * b + 2))))).set 6 (.int z92))) = xw ad kk V93 L47 Z := by rw [hV93]; exact xpComp_scope il74
              have hP : va_P D vwCl (xw ad kk V93 L47 Z) H := by rw [← ew94]; exact hP
              have hD : va_D A (xw ad kk V93 L47 Z) := by rw [← ew94]; exact hD
              have hMV93 : rgd bX V93 := hMV90.put hV93 (show 0 ≤ z92.toInt ∧ z92.toInt ≤ 3 from by first | exact om_23728566a369 f67 f69 hz92 | first | omega | ((try (have i_t6 := Imp.go t6 (f8))); omega) | ((try (have i_t45 := Imp.go t45 (by omega))); (try (have i_t29 := Imp.go t29 (by omega))); (try (have i_t19 := Imp.go t19 (by omega))); (try (have i_t6 := Imp.go t6 (by omega))); first | omega | ((try (have i_tx := Imp.go tx (by omega))); (try (have i_cd := Imp.go cd (by omega))); (try (have i_cd := Imp.go cd (by omega))); (try (have i_tx := Imp.go tx (by omega))); first | omega | ((try (have i_t6 := Imp.go t6 (by omega))); (try (have i_t19 := Imp.go t19 (by omega))); (try (have i_t29 := Imp.go t29 (by omega))); (try (have i_t45 := Imp.go t45 (by omega))); omega))))
              have agV93 : agr [(1, 2), (1, 3), (1, 6), (1, 7), (1, 8), (6, 8), (6, 9), (6, 10)] [43, 44, 49, 50, 51, 52, 53, 54, 55, 56, 57, 61] V V93 := agV90.up hV93 rfl
              have fwV93 : frX (xR b) V V93 := frX.up fwV90 hV93 (Or.inr ⟨(by show 24 * b ≤ (24 * b + (Int32.toNatClampNeg (V 43 (5 * b + 2)))); first | exact om_8f00918b7f46 | first | omega | ((try (have i_t6 := Imp.go t6 (f8))); omega) | ((try (have i_t45 := Imp.go t45 (by omega))); (try (have i_t29 := Imp.go t29 (by omega))); (try (have i_t19 := Imp.go t19 (by omega))); (try (have i_t6 := Imp.go t6 (by omega))); first | omega | ((try (have i_tx := Imp.go tx (by omega))); (try (have i_cd := Imp.go cd (by omega))); (try (have i_cd := Imp.go cd (by omega))); (try (have i_tx := Imp.go tx (by omega))); first | omega | ((try (have i_t6 := Imp.go t6 (by omega))); (try (have i_t19 := Imp.go t19 (by omega))); (try (have i_t29 := Imp.go t29 (by omega))); (try (have i_t45 := Imp.go t45 (by omega))); omega)))), (by show (24 * b + (Int32.toNatClampNeg (V 43 (5 * b + 2)))) < 24 * b + 24; first | exact om_2cb391d8ee49 r9 kc73 ((Imp.go t6 (f8))) | first | omega | ((try (have i_t6 := Imp.go t6 (f8))); omega) | ((try (have i_t45 := Imp.go t45 (by omega))); (try (have i_t29 := Imp.go t29 (by omega))); (try (have i_t19 := Imp.go t19 (by omega))); (try (have i_t6 := Imp.go t6 (by omega))); first | omega | ((try (have i_tx := Imp.go tx (by omega))); (try (have i_cd := Imp.go cd (by omega))); (try (have i_cd := Imp.go cd (by omega))); (try (have i_tx := Imp.go tx (by omega))); first | omega | ((try (have i_t6 := Imp.go t6 (by omega))); (try (have i_t19 := Imp.go t19 (by omega))); (try (have i_t29 := Imp.go t29 (by omega))); (try (have i_t45 := Imp.go t45 (by omega))); omega))))⟩)
              refine lv_aload_n hx hb dX1_readComponent_137 rfl (lv_at hl 2 rfl) ?_
              refine va_get (D := D) (ci := 1) (v := .ref (ad 6)) (fs := (xfReader ad V93 L47 Z)) (C := RX1) (T := TX1) (N := 9) hx hb hg inX1 hown hK hP 1 xgReader rfl 0 (by decide) (hg _ w304) (fun _ h9 => h9) rfl dX1_readComponent_138 ?_
              refine gA_void (gA_runV (As := []) (rest := []) (ci := 9) (q0 := 6) hx hb hml hown hg hP hD hK hS hA hnw hgk (x_next l D ks H.size ad kk V93 L47 Z  hMV93 ) w871 w852 w853 w157 w854 rfl xgTape hdV_yX9_next ⟨Nat.le_of_ble_eq_true rfl, Nat.le_of_ble_eq_true rfl⟩ rfl hl.1 rfl (Nat.le_of_ble_eq_true rfl) dX1_readComponent_141 ⟨Nat.le_of_ble_eq_true rfl, Nat.le_of_ble_eq_true rfl⟩) hP hD hK hS hA (fun u96 H locs w97 hP hD hK hS => ?_)
              obtain ⟨V98, L99⟩ := u96
              obtain ⟨hMV98, ajV98, axL99⟩ := w97
              have alL99 : agL [1, 6, 44] L L99 := agL.tr alL47 axL99 (by decide)
              have hP : va_P D vwCl (xw ad kk V98 L99 Z) H := hP
              have hD : va_D A (xw ad kk V98 L99 Z) := hD
              have hMV98 : rgd bX V98 := hMV98
              have ajV98 : agr [(6, 8), (6, 9), (6, 10)] [] V93 V98 := ajV98
              have agV98 : agr [(1, 2), (1, 3), (1, 6), (1, 7), (1, 8), (6, 8), (6, 9), (6, 10)] [43, 44, 49, 50, 51, 52, 53, 54, 55, 56, 57, 61] V V98 := agV93.tr ajV98 (by decide) (by decide)
              have fwV98 : frX (xR b) V V98 := frX.tr fwV93 (frX.ag ajV98 (by decide) (by decide))
              refine lv_aload_n hx hb dX1_readComponent_144 rfl (lv_at hl 2 rfl) ?_
              refine lv_aload_n hx hb dX1_readComponent_145 rfl (lv_at hl 0 rfl) ?_
              have pq100 : (V98 1 1).toInt = ((V 1 1)).toInt := congrArg Int32.toInt ((ajV98 1 1 rfl).trans ((up2_o hV93 (by decide)).trans ((up2_o hV90 (by decide)).trans ((ajV88 1 1 rfl).trans ((ajV46 1 1 rfl).trans ((ajV30 1 1 rfl).trans ((ajV20 1 1 rfl).trans (ajV13 1 1 rfl))))))))
              refine gA_int (gA_runV (As := [.ref (ad (72 + (24 * b + (Int32.toNatClampNeg (V 43 (5 * b + 2))))))]) (rest := []) (ci := 1) (q0 := 1) hx hb hml hown hg hP hD hK hS hA hnw hgk (x_readExtras l D ks H.size ad kk V98 L99 Z (b) ((24 * b + (Int32.toNatClampNeg (V 43 (5 * b + 2))))) hMV98 (show b < 2 from by first | exact om_f940a4667dd6 hb2 | first | omega | ((try (have i_t6 := Imp.go t6 (f8))); omega) | ((try (have i_t45 := Imp.go t45 (by omega))); (try (have i_t29 := Imp.go t29 (by omega))); (try (have i_t19 := Imp.go t19 (by omega))); (try (have i_t6 := Imp.go t6 (by omega))); first | omega | ((try (have i_tx := Imp.go tx (by omega))); (try (have i_cd := Imp.go cd (by omega))); (try (have i_cd := Imp.go cd (by omega))); (try (have i_tx := Imp.go tx (by omega))); first | omega | ((try (have i_t6 := Imp.go t6 (by omega))); (try (have i_t19 := Imp.go t19 (by omega))); (try (have i_t29 := Imp.go t29 (by omega))); (try (have i_t45 := Imp.go t45 (by omega))); omega)))) (show (V98 1 1).toInt = (b : Int) from by first | exact om_adf531c77a0d rbk pq100 | first | omega | ((try (have i_t6 := Imp.go t6 (f8))); omega) | ((try (have i_t45 := Imp.go t45 (by omega))); (try (have i_t29 := Imp.go t29 (by omega))); (try (have i_t19 := Imp.go t19 (by omega))); (try (have i_t6 := Imp.go t6 (by omega))); first | omega | ((try (have i_tx := Imp.go tx (by omega))); (try (have i_cd := Imp.go cd (by omega))); (try (have i_cd := Imp.go cd (by omega))); (try (have i_tx := Imp.go tx (by omega))); first | omega | ((try (have i_t6 := Imp.go t6 (by omega))); (try (have i_t19 := Imp.go t19 (by omega))); (try (have i_t29 := Imp.go t29 (by omega))); (try (have i_t45 := Imp.go t45 (by omega))); omega)))) (show (24 * b + (Int32.toNatClampNeg (V 43 (5 * b + 2)))) < 48 from by first | exact om_7a5ac9328048 hb2 r9 kc73 ((Imp.go t6 (f8))) | first | omega | ((try (have i_t6 := Imp.go t6 (f8))); omega) | ((try (have i_t45 := Imp.go t45 (by omega))); (try (have i_t29 := Imp.go t29 (by omega))); (try (have i_t19 := Imp.go t19 (by omega))); (try (have i_t6 := Imp.go t6 (by omega))); first | omega | ((try (have i_tx := Imp.go tx (by omega))); (try (have i_cd := Imp.go cd (by omega))); (try (have i_cd := Imp.go cd (by omega))); (try (have i_tx := Imp.go tx (by omega))); first | omega | ((try (have i_t6 := Imp.go t6 (by omega))); (try (have i_t19 := Imp.go t19 (by omega))); (try (have i_t29 := Imp.go t29 (by omega))); (try (have i_t45 := Imp.go t45 (by omega))); omega)))) (show 24 * b ≤ (24 * b + (Int32.toNatClampNeg (V 43 (5 * b + 2)))) from by first | exact om_8f00918b7f46 | first | omega | ((try (have i_t6 := Imp.go t6 (f8))); omega) | ((try (have i_t45 := Imp.go t45 (by omega))); (try (have i_t29 := Imp.go t29 (by omega))); (try (have i_t19 := Imp.go t19 (by omega))); (try (have i_t6 := Imp.go t6 (by omega))); first | omega | ((try (have i_tx := Imp.go tx (by omega))); (try (have i_cd := Imp.go cd (by omega))); (try (have i_cd := Imp.go cd (by omega))); (try (have i_tx := Imp.go tx (by omega))); first | omega | ((try (have i_t6 := Imp.go t6 (by omega))); (try (have i_t19 := Imp.go t19 (by omega))); (try (have i_t29 := Imp.go t29 (by omega))); (try (have i_t45 := Imp.go t45 (by omega))); omega)))) (show (24 * b + (Int32.toNatClampNeg (V 43 (5 * b + 2)))) < 24 * b + 24 from by first | exact om_2cb391d8ee49 r9 kc73 ((Imp.go t6 (f8))) | first | omega | ((try (have i_t6 := Imp.go t6 (f8))); omega) | ((try (have i_t45 := Imp.go t45 (by omega))); (try (have i_t29 := Imp.go t29 (by omega))); (try (have i_t19 := Imp.go t19 (by omega))); (try (have i_t6 := Imp.go t6 (by omega))); first | omega | ((try (have i_tx := Imp.go tx (by omega))); (try (have i_cd := Imp.go cd (by omega))); (try (have i_cd := Imp.go cd (by omega))); (try (have i_tx := Imp.go tx (by omega))); first | omega | ((try (have i_t6 := Imp.go t6 (by omega))); (try (have i_t19 := Imp.go t19 (by omega))); (try (have i_t29 := Imp.go t29 (by omega))); (try (have i_t45 := Imp.go t45 (by omega))); omega))))) w919 w921 w14 w162 w922 rfl xgReader hdV_yX1_readExtras ⟨Nat.le_of_ble_eq_true rfl, Nat.le_of_ble_eq_true rfl⟩ rfl hl.1 rfl (Nat.le_of_ble_eq_true rfl) dX1_readComponent_146 ⟨Nat.le_of_ble_eq_true rfl, Nat.le_of_ble_eq_true rfl⟩) hP hD hK hS hA (fun z101 u102 H locs w103 hP hD hK hS => ?_)
              obtain ⟨V106, L107⟩ := u102
              obtain ⟨hMV106, ajV106, axL107, fyV106, rgz101, t104, t105⟩ := w103
              have alL107 : agL [1, 6, 44] L L107 := agL.tr alL99 axL107 (by decide)
              have hP : va_P D vwCl (xw ad kk V106 L107 Z) H := hP
              have hD : va_D A (xw ad kk V106 L107 Z) := hD
              have hMV106 : rgd bX V106 := hMV106
              have ajV106 : agr [(1, 3), (1, 6), (1, 8), (6, 8), (6, 9), (6, 10)] [43, 44, 52, 53, 54, 55] V98 V106 := ajV106
              have agV106 : agr [(1, 2), (1, 3), (1, 6), (1, 7), (1, 8), (6, 8), (6, 9), (6, 10)] [43, 44, 49, 50, 51, 52, 53, 54, 55, 56, 57, 61] V V106 := agV98.tr ajV106 (by decide) (by decide)
              have fwV106 : frX (xR b) V V106 := frX.tr fwV98 (fyV106)
              have rgz101 : 0 ≤ z101.toInt ∧ z101.toInt ≤ 1 := rgz101
              have t104 : px V98 V106 b := t104
              have t105 : Imp (z101.toInt = 0) (1 ≤ (V106 1 3).toInt) := t105
              refine lv_if_eq (tgt := 161) hx hb dX1_readComponent_149 (by decide) (fun c108 => ?_) (fun c108 => ?_)
              · skip
                have f109 : z101.toInt = 0 := b_eq rfl (by decide) c108
                refine lv_iconst (v := 0) hx hb dX1_readComponent_161 (by decide) ?_
                have pq110 : (V106 1 2).toInt = ((V 1 2)).toInt := congrArg Int32.toInt ((ajV106 1 2 rfl).trans ((ajV98 1 2 rfl).trans ((up2_o hV93 (by decide)).trans ((up2_o hV90 (by decide)).trans ((ajV88 1 2 rfl).trans ((ajV46 1 2 rfl).trans ((ajV30 1 2 rfl).trans ((ajV20 1 2 rfl).trans (ajV13 1 2 rfl)))))))))
                have r111 : (-1) ≤ ((V 1 2)).toInt ∧ ((V 1 2)).toInt ≤ 47 := hMV 1 2
                have cd112 : CD V106 b := ⟨CB.ag cd.1 (show agr [(1, 3), (1, 6), (1, 7), (1, 8), (6, 8), (6, 9), (6, 10)] [43, 44, 49, 50, 51, 52, 53, 54, 55, 56, 57, 61] V V106 from (agr.tr (agr.tr (agr.up (agr.up (agr.tr (agr.tr (agr.tr (agr.tr (agr.tr agr.rf ajV13 (by decide) (by decide)) ajV20 (by decide) (by decide)) ajV30 (by decide) (by decide)) ajV46 (by decide) (by decide)) ajV88 (by decide) (by decide)) hV90 rfl) hV93 rfl) ajV98 (by decide) (by decide)) ajV106 (by decide) (by decide))) (fun _ => rfl) (fun _ => rfl), CO.ag cd.2 (show agr [(1, 3), (1, 6), (1, 7), (1, 8), (6, 8), (6, 9), (6, 10)] [43, 44, 49, 50, 51, 52, 53, 54, 55, 56, 57, 61] V V106 from (agr.tr (agr.tr (agr.up (agr.up (agr.tr (agr.tr (agr.tr (agr.tr (agr.tr agr.rf ajV13 (by decide) (by decide)) ajV20 (by decide) (by decide)) ajV30 (by decide) (by decide)) ajV46 (by decide) (by decide)) ajV88 (by decide) (by decide)) hV90 rfl) hV93 rfl) ajV98 (by decide) (by decide)) ajV106 (by decide) (by decide))) (fun _ => rfl) (fun _ => rfl)⟩
                have p0113 : p0x V V13 b := p0x.tr (p0x.rf : p0x V V b) (p0x.ag (show agr [(6, 8), (6, 9), (6, 10)] [] V V13 from (agr.tr agr.rf ajV13 (by decide) (by decide))) (fun _ => rfl) (fun _ => rfl))
                have p0114 : p0x V V20 b := p0x.tr p0113 (p0x.ag (show agr [(1, 3), (6, 8), (6, 9), (6, 10)] [] V13 V20 from (agr.tr agr.rf ajV20 (by decide) (by decide))) (fun _ => rfl) (fun _ => rfl))
                have p0115 : p0x V V30 b := p0x.tr p0114 (p0x.ag (show agr [(1, 3), (6, 8), (6, 9), (6, 10)] [] V20 V30 from (agr.tr agr.rf ajV30 (by decide) (by decide))) (fun _ => rfl) (fun _ => rfl))
                have p0116 : p0x V V46 b := p0x.tr p0115 (p0x.ag (show agr [(1, 3), (1, 6), (1, 7), (6, 8), (6, 9), (6, 10)] [] V30 V46 from (agr.tr agr.rf ajV46 (by decide) (by decide))) (fun _ => rfl) (fun _ => rfl))
                have p0117 : p0x V V88 b := p0x.tr p0116 (p0x.ag (show agr [] [49, 50, 51, 52, 53, 54, 55, 56, 57, 61] V46 V88 from (agr.tr agr.rf ajV88 (by decide) (by decide))) (fun _ => rfl) (fun _ => rfl))
                have p0118 : p0x V V90 b := p0x.tr p0117 (p0x.ag (show agr [] [50] V88 V90 from (agr.up agr.rf hV90 rfl)) (fun _ => rfl) (fun _ => rfl))
                have p0119 : p0x V V93 b := p0x.tr p0118 (p0x.ag (show agr [] [51] V90 V93 from (agr.up agr.rf hV93 rfl)) (fun _ => rfl) (fun _ => rfl))
                have p0120 : p0x V V98 b := p0x.tr p0119 (p0x.ag (show agr [(6, 8), (6, 9), (6, 10)] [] V93 V98 from (agr.tr agr.rf ajV98 (by decide) (by decide))) (fun _ => rfl) (fun _ => rfl))
                have p0121 : p0x V V106 b := p0x.tr p0120 t104.1
                exact W.zret (v := 0) hx hb hr rfl (fun t ht hW => ⟨⟨0, (V106, L107), rfl, ⟨hMV106, agV106, alL107, fwV106, (by decide), (Imp.mk (fun hp => absurd hp (by decide))), cd112, p0121, (show (V106 1 2).toInt = (V 1 2).toInt ∨ (24 * (b : Int) ≤ (V106 1 2).toInt ∧ (V106 1 2).toInt < 24 * (b : Int) + 24) from by first | exact om_a7db56e9fc7a pq110 | first | omega | ((try (have i_t105 := Imp.go t105 (f109))); (try (have i_t6 := Imp.go t6 (f8))); omega) | ((try (have i_t105 := Imp.go t105 (by omega))); (try (have i_t45 := Imp.go t45 (by omega))); (try (have i_t29 := Imp.go t29 (by omega))); (try (have i_t19 := Imp.go t19 (by omega))); first | omega | ((try (have i_t6 := Imp.go t6 (by omega))); (try (have i_tx := Imp.go tx (by omega))); (try (have i_cd := Imp.go cd (by omega))); (try (have i_cd := Imp.go cd (by omega))); first | omega | ((try (have i_tx := Imp.go tx (by omega))); (try (have i_t6 := Imp.go t6 (by omega))); (try (have i_t19 := Imp.go t19 (by omega))); (try (have i_t29 := Imp.go t29 (by omega))); (try (have i_t45 := Imp.go t45 (by omega))); (try (have i_t105 := Imp.go t105 (by omega))); omega)))), (Imp.mk (fun _ => (show 1 ≤ (V106 1 3).toInt from by first | exact om_f8d8213eda45 ((Imp.go t105 (f109))) | first | omega | ((try (have i_t105 := Imp.go t105 (f109))); (try (have i_t6 := Imp.go t6 (f8))); omega) | ((try (have i_t105 := Imp.go t105 (by omega))); (try (have i_t45 := Imp.go t45 (by omega))); (try (have i_t29 := Imp.go t29 (by omega))); (try (have i_t19 := Imp.go t19 (by omega))); first | omega | ((try (have i_t6 := Imp.go t6 (by omega))); (try (have i_tx := Imp.go tx (by omega))); (try (have i_cd := Imp.go cd (by omega))); (try (have i_cd := Imp.go cd (by omega))); first | omega | ((try (have i_tx := Imp.go tx (by omega))); (try (have i_t6 := Imp.go t6 (by omega))); (try (have i_t19 := Imp.go t19 (by omega))); (try (have i_t29 := Imp.go t29 (by omega))); (try (have i_t45 := Imp.go t45 (by omega))); (try (have i_t105 := Imp.go t105 (by omega))); omega))))))⟩, by rw [ht]; exact hP, va_K.moved hW.alike hK, hD⟩, hS.F ht⟩) hS.2.2 dX1_readComponent_162
              · skip
                have f122 : z101.toInt ≠ 0 := b_neq rfl (by decide) c108
                refine lv_aload_n hx hb dX1_readComponent_152 rfl (lv_at hl 2 rfl) ?_
                refine lv_bipush (v := 123) hx hb dX1_readComponent_153 (by decide) ?_
                have r123 : Int32.toInt 123 = 123 := by decide
                refine gA_int (gA_runV (As := [.int 123]) (rest := []) (ci := 1) (q0 := 1) hx hb hml hown hg hP hD hK hS hA hnw hgk (x_take l D ks H.size ad kk V106 L107 Z 123 hMV106 ) w893 w895 w10 w162 w896 rfl xgReader hdV_yX1_take ⟨Nat.le_of_ble_eq_true rfl, Nat.le_of_ble_eq_true rfl⟩ rfl hl.1 rfl (Nat.le_of_ble_eq_true rfl) dX1_readComponent_155 ⟨Nat.le_of_ble_eq_true rfl, Nat.le_of_ble_eq_true rfl⟩) hP hD hK hS hA (fun z124 u125 H locs w126 hP hD hK hS => ?_)
                obtain ⟨V128, L129⟩ := u125
                obtain ⟨hMV128, ajV128, axL129, rgz124, t127⟩ := w126
                have alL129 : agL [1, 6, 44] L L129 := agL.tr alL107 axL129 (by decide)
                have hP : va_P D vwCl (xw ad kk V128 L129 Z) H := hP
                have hD : va_D A (xw ad kk V128 L129 Z) := hD
                have hMV128 : rgd bX V128 := hMV128
                have ajV128 : agr [(1, 3), (6, 8), (6, 9), (6, 10)] [] V106 V128 := ajV128
                have agV128 : agr [(1, 2), (1, 3), (1, 6), (1, 7), (1, 8), (6, 8), (6, 9), (6, 10)] [43, 44, 49, 50, 51, 52, 53, 54, 55, 56, 57, 61] V V128 := agV106.tr ajV128 (by decide) (by decide)
                have fwV128 : frX (xR b) V V128 := frX.tr fwV106 (frX.ag ajV128 (by decide) (by decide))
                have rgz124 : 0 ≤ z124.toInt ∧ z124.toInt ≤ 1 := rgz124
                have t127 : Imp (z124.toInt = 0) (1 ≤ (V128 1 3).toInt) := t127
                refine lv_if_ne (tgt := 163) hx hb dX1_readComponent_158 (by decide) (fun c130 => ?_) (fun c130 => ?_)
                · skip
                  have f131 : z124.toInt ≠ 0 := b_neq rfl (by decide) c130
                  refine lv_aload_n hx hb dX1_readComponent_163 rfl (lv_at hl 2 rfl) ?_
                  refine va_get (D := D) (ci := 1) (v := rfN ad 38 (V128 1 1)) (fs := (xfReader ad V128 L129 Z)) (C := RX1) (T := TX1) (N := 9) hx hb hg inX1 hown hK hP 1 xgReader rfl 1 (by decide) (hg _ w305) (fun _ h9 => h9) rfl dX1_readComponent_164 ?_
                  have pq132 : (V128 1 1).toInt = ((V 1 1)).toInt := congrArg Int32.toInt ((ajV128 1 1 rfl).trans ((ajV106 1 1 rfl).trans ((ajV98 1 1 rfl).trans ((up2_o hV93 (by decide)).trans ((up2_o hV90 (by decide)).trans ((ajV88 1 1 rfl).trans ((ajV46 1 1 rfl).trans ((ajV30 1 1 rfl).trans ((ajV20 1 1 rfl).trans (ajV13 1 1 rfl))))))))))
                  refine g_topv (v := .ref (ad (38 + b))) (rfN_r (by first | omega | ((try (have i_t6 := Imp.go t6 (f8))); omega) | ((try (have i_t127 := Imp.go t127 (by omega))); (try (have i_t105 := Imp.go t105 (by omega))); (try (have i_t45 := Imp.go t45 (by omega))); (try (have i_t29 := Imp.go t29 (by omega))); first | omega | ((try (have i_t19 := Imp.go t19 (by omega))); (try (have i_t6 := Imp.go t6 (by omega))); (try (have i_tx := Imp.go tx (by omega))); (try (have i_cd := Imp.go cd (by omega))); first | omega | ((try (have i_cd := Imp.go cd (by omega))); (try (have i_tx := Imp.go tx (by omega))); (try (have i_t6 := Imp.go t6 (by omega))); (try (have i_t19 := Imp.go t19 (by omega))); first | omega | ((try (have i_t29 := Imp.go t29 (by omega))); (try (have i_t45 := Imp.go t45 (by omega))); (try (have i_t105 := Imp.go t105 (by omega))); (try (have i_t127 := Imp.go t127 (by omega))); omega)))))) ?_
                  refine va_getN (D := D) (ci := 0) (v := .ref (ad (40 + (5 * b + 2)))) (fs := (xfBook ad V128 b)) (C := RX0) (T := TX0) (N := 13) hx hb hg inX0 hown hK hP (38 + b) (xgBook hb2) rfl 2 (by decide) (hnw.use 601 n601 rfl) (fun _ h9 => h9) rfl dX1_readComponent_167 ?_
                  refine lv_lload_n hx hb dX1_readComponent_170 rfl (lv_at hl 1 rfl) ?_
                  refine gA_int (gA_runV (As := [.long w24]) (rest := []) (ci := 6) (q0 := (40 + (5 * b + 2))) hx hb hml hown hg hP hD hK hS hA hnw hgk (x_add l D ks H.size ad kk V128 L129 Z w24 ((5 * b + 2)) hMV128 (show (5 * b + 2) < 10 from by first | exact om_1478e52fbf50 hb2 | first | omega | ((try (have i_t6 := Imp.go t6 (f8))); omega) | ((try (have i_t127 := Imp.go t127 (by omega))); (try (have i_t105 := Imp.go t105 (by omega))); (try (have i_t45 := Imp.go t45 (by omega))); (try (have i_t29 := Imp.go t29 (by omega))); first | omega | ((try (have i_t19 := Imp.go t19 (by omega))); (try (have i_t6 := Imp.go t6 (by omega))); (try (have i_tx := Imp.go tx (by omega))); (try (have i_cd := Imp.go cd (by omega))); first | omega | ((try (have i_cd := Imp.go cd (by omega))); (try (have i_tx := Imp.go tx (by omega))); (try (have i_t6 := Imp.go t6 (by omega))); (try (have i_t19 := Imp.go t19 (by omega))); first | omega | ((try (have i_t29 := Imp.go t29 (by omega))); (try (have i_t45 := Imp.go t45 (by omega))); (try (have i_t105 := Imp.go t105 (by omega))); (try (have i_t127 := Imp.go t127 (by omega))); omega)))))) w897 w898 w899 w168 w900 rfl (xgNames il2) hdV_yX6_add ⟨Nat.le_of_ble_eq_true rfl, Nat.le_of_ble_eq_true rfl⟩ rfl hl.1 rfl (Nat.le_of_ble_eq_true rfl) dX1_readComponent_171 ⟨Nat.le_of_ble_eq_true rfl, Nat.le_of_ble_eq_true rfl⟩) hP hD hK hS hA (fun z133 u134 H locs w135 hP hD hK hS => ?_)
                  obtain ⟨V139, L140⟩ := u134
                  obtain ⟨hMV139, ajV139, axL140, fyV139, rgz133, t136, t137, t138⟩ := w135
                  have alL140 : agL [1, 6, 44] L L140 := agL.tr alL129 axL140 (by decide)
                  have hP : va_P D vwCl (xw ad kk V139 L140 Z) H := hP
                  have hD : va_D A (xw ad kk V139 L140 Z) := hD
                  have hMV139 : rgd bX V139 := hMV139
                  have ajV139 : agr [] [43, 44] V128 V139 := ajV139
                  have agV139 : agr [(1, 2), (1, 3), (1, 6), (1, 7), (1, 8), (6, 8), (6, 9), (6, 10)] [43, 44, 49, 50, 51, 52, 53, 54, 55, 56, 57, 61] V V139 := agV128.tr ajV139 (by decide) (by decide)
                  have fwV139 : frX (xR b) V V139 := frX.tr fwV128 (frX_NB fyV139 (by first | omega | ((try (have i_t6 := Imp.go t6 (f8))); omega) | ((try (have i_t127 := Imp.go t127 (by omega))); (try (have i_t105 := Imp.go t105 (by omega))); (try (have i_t45 := Imp.go t45 (by omega))); (try (have i_t29 := Imp.go t29 (by omega))); first | omega | ((try (have i_t19 := Imp.go t19 (by omega))); (try (have i_t6 := Imp.go t6 (by omega))); (try (have i_tx := Imp.go tx (by omega))); (try (have i_cd := Imp.go cd (by omega))); first | omega | ((try (have i_cd := Imp.go cd (by omega))); (try (have i_tx := Imp.go tx (by omega))); (try (have i_t6 := Imp.go t6 (by omega))); (try (have i_t19 := Imp.go t19 (by omega))); first | omega | ((try (have i_t29 := Imp.go t29 (by omega))); (try (have i_t45 := Imp.go t45 (by omega))); (try (have i_t105 := Imp.go t105 (by omega))); (try (have i_t127 := Imp.go t127 (by omega))); omega))))) (by first | omega | ((try (have i_t6 := Imp.go t6 (f8))); omega) | ((try (have i_t127 := Imp.go t127 (by omega))); (try (have i_t105 := Imp.go t105 (by omega))); (try (have i_t45 := Imp.go t45 (by omega))); (try (have i_t29 := Imp.go t29 (by omega))); first | omega | ((try (have i_t19 := Imp.go t19 (by omega))); (try (have i_t6 := Imp.go t6 (by omega))); (try (have i_tx := Imp.go tx (by omega))); (try (have i_cd := Imp.go cd (by omega))); first | omega | ((try (have i_cd := Imp.go cd (by omega))); (try (have i_tx := Imp.go tx (by omega))); (try (have i_t6 := Imp.go t6 (by omega))); (try (have i_t19 := Imp.go t19 (by omega))); first | omega | ((try (have i_t29 := Imp.go t29 (by omega))); (try (have i_t45 := Imp.go t45 (by omega))); (try (have i_t105 := Imp.go t105 (by omega))); (try (have i_t127 := Imp.go t127 (by omega))); omega))))))
                  have rgz133 : (-1) ≤ z133.toInt ∧ z133.toInt ≤ 23 := rgz133
                  have t136 : z133.toInt < (V139 43 (5 * b + 2)).toInt := t136
                  have t137 : Imp ((V128 43 (5 * b + 2)).toInt < ((xcap (5 * b + 2) : Nat) : Int)) (z133.toInt = (V128 43 (5 * b + 2)).toInt ∧ (V139 43 (5 * b + 2)).toInt = (V128 43 (5 * b + 2)).toInt + 1) := t137
                  have t138 : (∀ n : Nat, ¬ n = (5 * b + 2) → V139 43 n = V128 43 n) := t138
                  refine lv_pop hx hb dX1_readComponent_174 rfl ?_
                  refine lv_aload_n hx hb dX1_readComponent_175 rfl (lv_at hl 2 rfl) ?_
                  refine lv_aload_n hx hb dX1_readComponent_176 rfl (lv_at hl 0 rfl) ?_
                  refine va_put (D := D) (ci := 1) (v := .ref (ad (72 + (24 * b + (Int32.toNatClampNeg (V 43 (5 * b + 2))))))) (ty := tyX1 2) (fs := (xfReader ad V139 L140 Z)) (C := RX1) (T := TX1) (N := 9) hx hb hg inX1 tyX1 tyX1_ok nmX1 hown hK hP hD hS 1 xgReader rfl 2 (by decide) (hg _ w306) (fun _ h9 => h9) rfl (tyX1_ok 2 (by decide)) rfl rfl (Nat.le_of_ble_eq_true rfl) dX1_readComponent_177 (fun H locs hP hD hS => ?_)
                  have r141 : (nI (24 * b + (Int32.toNatClampNeg (V 43 (5 * b + 2))))).toInt = (((24 * b + (Int32.toNatClampNeg (V 43 (5 * b + 2)))) : Nat) : Int) := nI_toInt (by omega)
                  obtain ⟨V142, hV142⟩ : ∃ z, z = up2 V139 1 2 (nI (24 * b + (Int32.toNatClampNeg (V 43 (5 * b + 2))))) := ⟨_, rfl⟩
                  have ew143 : (xw ad kk V139 L140 Z).set 1 ((ad 1), .inr (1, (xfReader ad V139 L140 Z).set 2 (.ref (ad (72 + (24 * b + (Int32.toNatClampNeg (V 43 (5 * b + 2))))))))) = xw ad kk V142 L140 Z := by rw [hV142]; exact xr_owner il74
                  have hP : va_P D vwCl (xw ad kk V142 L140 Z) H := by rw [← ew143]; exact hP
                  have hD : va_D A (xw ad kk V142 L140 Z) := by rw [← ew143]; exact hD
                  have hMV142 : rgd bX V142 := hMV139.put hV142 (show (-1) ≤ ((nI (24 * b + (Int32.toNatClampNeg (V 43 (5 * b + 2)))))).toInt ∧ ((nI (24 * b + (Int32.toNatClampNeg (V 43 (5 * b + 2)))))).toInt ≤ 47 from by first | exact om_673d720b062f hb2 r9 kc73 r141 ((Imp.go t6 (f8))) | first | omega | ((try (have i_t6 := Imp.go t6 (f8))); omega) | ((try (have i_t137 := Imp.go t137 (by omega))); (try (have i_t127 := Imp.go t127 (by omega))); (try (have i_t105 := Imp.go t105 (by omega))); (try (have i_t45 := Imp.go t45 (by omega))); first | omega | ((try (have i_t29 := Imp.go t29 (by omega))); (try (have i_t19 := Imp.go t19 (by omega))); (try (have i_t6 := Imp.go t6 (by omega))); (try (have i_tx := Imp.go tx (by omega))); first | omega | ((try (have i_cd := Imp.go cd (by omega))); (try (have i_cd := Imp.go cd (by omega))); (try (have i_tx := Imp.go tx (by omega))); (try (have i_t6 := Imp.go t6 (by omega))); first | omega | ((try (have i_t19 := Imp.go t19 (by omega))); (try (have i_t29 := Imp.go t29 (by omega))); (try (have i_t45 := Imp.go t45 (by omega))); (try (have i_t105 := Imp.go t105 (by omega))); (try (have i_t127 := Imp.go t127 (by omega))); (try (have i_t137 := Imp.go t137 (by omega))); omega)))))
                  have agV142 : agr [(1, 2), (1, 3), (1, 6), (1, 7), (1, 8), (6, 8), (6, 9), (6, 10)] [43, 44, 49, 50, 51, 52, 53, 54, 55, 56, 57, 61] V V142 := agV139.up hV142 rfl
                  have fwV142 : frX (xR b) V V142 := frX.up fwV139 hV142 (Or.inl (by decide))
                  refine lv_iconst (v := 1) hx hb dX1_readComponent_180 (by decide) ?_
                  have pq144 : (V142 1 2).toInt = ((nI (24 * b + (Int32.toNatClampNeg (V 43 (5 * b + 2)))))).toInt := congrArg Int32.toInt (up2_s hV142)
                  have pq145 : (V142 1 3).toInt = ((V128 1 3)).toInt := congrArg Int32.toInt ((up2_k hV142 (by decide)).trans (ajV139 1 3 rfl))
                  have pq146 : (V46 43 (5 * b + 2)).toInt = ((V 43 (5 * b + 2))).toInt := congrArg Int32.toInt ((ajV46 43 (5 * b + 2) rfl).trans ((ajV30 43 (5 * b + 2) rfl).trans ((ajV20 43 (5 * b + 2) rfl).trans (ajV13 43 (5 * b + 2) rfl))))
                  have pq147 : (V128 43 (5 * b + 2)).toInt = ((V106 43 (5 * b + 2))).toInt := congrArg Int32.toInt (ajV128 43 (5 * b + 2) rfl)
                  have r148 : 0 ≤ ((V106 43 (5 * b + 2))).toInt ∧ ((V106 43 (5 * b + 2))).toInt ≤ ((xcap (5 * b + 2) : Nat) : Int) := hMV106 43 (5 * b + 2)
                  have pq149 : (V142 43 (5 * b + 2)).toInt = ((V139 43 (5 * b + 2))).toInt := congrArg Int32.toInt (up2_o hV142 (by decide))
                  have r150 : 0 ≤ ((V139 43 (5 * b + 2))).toInt ∧ ((V139 43 (5 * b + 2))).toInt ≤ ((xcap (5 * b + 2) : Nat) : Int) := hMV139 43 (5 * b + 2)
                  have px151 : px V46 V98 b := px.tr (px.rf : px V46 V46 b) (px.ag (show agr [(6, 8), (6, 9), (6, 10)] [49, 50, 51, 52, 53, 54, 55, 56, 57, 61] V46 V98 from (agr.tr (agr.up (agr.up (agr.tr agr.rf ajV88 (by decide) (by decide)) hV90 rfl) hV93 rfl) ajV98 (by decide) (by decide))) (fun _ => rfl) (fun _ => rfl) (fun _ => rfl))
                  have px152 : px V46 V106 b := px.tr px151 t104
                  have px153 : px V46 V128 b := px.tr px152 (px.ag (show agr [(1, 3), (6, 8), (6, 9), (6, 10)] [] V106 V128 from (agr.tr agr.rf ajV128 (by decide) (by decide))) (fun _ => rfl) (fun _ => rfl) (fun _ => rfl))
                  have e43 := congrArg Int32.toInt px153.2
                  have px154 : px V V46 b := px.tr (px.rf : px V V b) (px.ag (show agr [(1, 3), (1, 6), (1, 7), (6, 8), (6, 9), (6, 10)] [] V V46 from (agr.tr (agr.tr (agr.tr (agr.tr agr.rf ajV13 (by decide) (by decide)) ajV20 (by decide) (by decide)) ajV30 (by decide) (by decide)) ajV46 (by decide) (by decide))) (fun _ => rfl) (fun _ => rfl) (fun _ => rfl))
                  have e44 := congrArg Int32.toInt px154.2
                  have ks9 := i_clamp (x := V46 43 (5 * b + 2)) rfl (by have h9 : 0 ≤ (V46 43 (5 * b + 2)).toInt := (hMV46 43 (5 * b + 2)).1; omega)
                  have tx155 : TX V142 b := TX.add (n := (Int32.toNatClampNeg (V 43 (5 * b + 2)))) tx76 (by omega) (by first | omega | ((try (have i_t6 := Imp.go t6 (f8))); omega) | ((try (have i_t137 := Imp.go t137 (by omega))); (try (have i_t127 := Imp.go t127 (by omega))); (try (have i_t105 := Imp.go t105 (by omega))); (try (have i_t45 := Imp.go t45 (by omega))); first | omega | ((try (have i_t29 := Imp.go t29 (by omega))); (try (have i_t19 := Imp.go t19 (by omega))); (try (have i_t6 := Imp.go t6 (by omega))); (try (have i_tx := Imp.go tx (by omega))); first | omega | ((try (have i_cd := Imp.go cd (by omega))); (try (have i_cd := Imp.go cd (by omega))); (try (have i_tx := Imp.go tx (by omega))); (try (have i_t6 := Imp.go t6 (by omega))); first | omega | ((try (have i_t19 := Imp.go t19 (by omega))); (try (have i_t29 := Imp.go t29 (by omega))); (try (have i_t45 := Imp.go t45 (by omega))); (try (have i_t105 := Imp.go t105 (by omega))); (try (have i_t127 := Imp.go t127 (by omega))); (try (have i_t137 := Imp.go t137 (by omega))); omega))))) (p0x.ag (show agr [(1, 2), (1, 3), (1, 6), (1, 8), (6, 8), (6, 9), (6, 10)] [43, 44, 49, 50, 51, 52, 53, 54, 55, 56, 57, 61] V46 V142 from (agr.up (agr.tr (agr.tr (agr.tr (agr.tr (agr.up (agr.up (agr.tr agr.rf ajV88 (by decide) (by decide)) hV90 rfl) hV93 rfl) ajV98 (by decide) (by decide)) ajV106 (by decide) (by decide)) ajV128 (by decide) (by decide)) ajV139 (by decide) (by decide)) hV142 rfl)) (fun _ => rfl) (fun _ => rfl)) (fun q hq => ((show agr [(1, 2), (1, 3), (1, 6), (1, 8), (6, 8), (6, 9), (6, 10)] [43, 44, 50, 51, 52, 53, 54, 55] V88 V142 from (agr.up (agr.tr (agr.tr (agr.tr (agr.tr (agr.up (agr.up agr.rf hV90 rfl) hV93 rfl) ajV98 (by decide) (by decide)) ajV106 (by decide) (by decide)) ajV128 (by decide) (by decide)) ajV139 (by decide) (by decide)) hV142 rfl)) 56 _ rfl).trans (t85 q hq)) (fun q hq => ((show agr [(1, 2), (1, 3), (1, 6), (1, 8), (6, 8), (6, 9), (6, 10)] [43, 44, 50, 51, 52, 53, 54, 55] V88 V142 from (agr.up (agr.tr (agr.tr (agr.tr (agr.tr (agr.up (agr.up agr.rf hV90 rfl) hV93 rfl) ajV98 (by decide) (by decide)) ajV106 (by decide) (by decide)) ajV128 (by decide) (by decide)) ajV139 (by decide) (by decide)) hV142 rfl)) 57 _ rfl).trans (t86 q hq)) (fun q hq => ((show agr [(1, 2), (1, 3), (1, 6), (1, 8), (6, 8), (6, 9), (6, 10)] [43, 44, 50, 51, 52, 53, 54, 55] V88 V142 from (agr.up (agr.tr (agr.tr (agr.tr (agr.tr (agr.up (agr.up agr.rf hV90 rfl) hV93 rfl) ajV98 (by decide) (by decide)) ajV106 (by decide) (by decide)) ajV128 (by decide) (by decide)) ajV139 (by decide) (by decide)) hV142 rfl)) 61 _ rfl).trans (t84 q hq)) (by rw [(show agr [(1, 2), (1, 3), (1, 6), (1, 8), (6, 8), (6, 9), (6, 10)] [43, 44, 50, 51, 52, 53, 54, 55] V88 V142 from (agr.up (agr.tr (agr.tr (agr.tr (agr.tr (agr.up (agr.up agr.rf hV90 rfl) hV93 rfl) ajV98 (by decide) (by decide)) ajV106 (by decide) (by decide)) ajV128 (by decide) (by decide)) ajV139 (by decide) (by decide)) hV142 rfl)) 56 _ rfl]; exact t80) (by rw [(show agr [(1, 2), (1, 3), (1, 6), (1, 8), (6, 8), (6, 9), (6, 10)] [43, 44, 50, 51, 52, 53, 54, 55] V88 V142 from (agr.up (agr.tr (agr.tr (agr.tr (agr.tr (agr.up (agr.up agr.rf hV90 rfl) hV93 rfl) ajV98 (by decide) (by decide)) ajV106 (by decide) (by decide)) ajV128 (by decide) (by decide)) ajV139 (by decide) (by decide)) hV142 rfl)) 57 _ rfl]; exact t81) (fun m hm => by rw [(show agr [(1, 2), (1, 3), (1, 6), (1, 8), (6, 8), (6, 9), (6, 10)] [43, 44, 50, 51, 52, 53, 54, 55] V88 V142 from (agr.up (agr.tr (agr.tr (agr.tr (agr.tr (agr.up (agr.up agr.rf hV90 rfl) hV93 rfl) ajV98 (by decide) (by decide)) ajV106 (by decide) (by decide)) ajV128 (by decide) (by decide)) ajV139 (by decide) (by decide)) hV142 rfl)) 61 _ rfl]; exact t83 m hm) ((show agr [(1, 2), (1, 3), (1, 6), (1, 8), (6, 8), (6, 9), (6, 10)] [43, 44, 49, 50, 51, 52, 53, 54, 55, 56, 57, 61] V46 V142 from (agr.up (agr.tr (agr.tr (agr.tr (agr.tr (agr.up (agr.up (agr.tr agr.rf ajV88 (by decide) (by decide)) hV90 rfl) hV93 rfl) ajV98 (by decide) (by decide)) ajV106 (by decide) (by decide)) ajV128 (by decide) (by decide)) ajV139 (by decide) (by decide)) hV142 rfl)) 41 _ rfl) (fun _ => (show agr [(1, 2), (1, 3), (1, 6), (1, 8), (6, 8), (6, 9), (6, 10)] [43, 44, 49, 50, 51, 52, 53, 54, 55, 56, 57, 61] V46 V142 from (agr.up (agr.tr (agr.tr (agr.tr (agr.tr (agr.up (agr.up (agr.tr agr.rf ajV88 (by decide) (by decide)) hV90 rfl) hV93 rfl) ajV98 (by decide) (by decide)) ajV106 (by decide) (by decide)) ajV128 (by decide) (by decide)) ajV139 (by decide) (by decide)) hV142 rfl)) 66 _ rfl) (fun _ => (show agr [(1, 2), (1, 3), (1, 6), (1, 8), (6, 8), (6, 9), (6, 10)] [43, 44, 49, 50, 51, 52, 53, 54, 55, 56, 57, 61] V46 V142 from (agr.up (agr.tr (agr.tr (agr.tr (agr.tr (agr.up (agr.up (agr.tr agr.rf ajV88 (by decide) (by decide)) hV90 rfl) hV93 rfl) ajV98 (by decide) (by decide)) ajV106 (by decide) (by decide)) ajV128 (by decide) (by decide)) ajV139 (by decide) (by decide)) hV142 rfl)) 47 _ rfl)
                  have cd156 : CD V142 b := ⟨CB.ag cd.1 (show agr [(1, 2), (1, 3), (1, 6), (1, 7), (1, 8), (6, 8), (6, 9), (6, 10)] [43, 44, 49, 50, 51, 52, 53, 54, 55, 56, 57, 61] V V142 from (agr.up (agr.tr (agr.tr (agr.tr (agr.tr (agr.up (agr.up (agr.tr (agr.tr (agr.tr (agr.tr (agr.tr agr.rf ajV13 (by decide) (by decide)) ajV20 (by decide) (by decide)) ajV30 (by decide) (by decide)) ajV46 (by decide) (by decide)) ajV88 (by decide) (by decide)) hV90 rfl) hV93 rfl) ajV98 (by decide) (by decide)) ajV106 (by decide) (by decide)) ajV128 (by decide) (by decide)) ajV139 (by decide) (by decide)) hV142 rfl)) (fun _ => rfl) (fun _ => rfl), CO.ag cd.2 (show agr [(1, 2), (1, 3), (1, 6), (1, 7), (1, 8), (6, 8), (6, 9), (6, 10)] [43, 44, 49, 50, 51, 52, 53, 54, 55, 56, 57, 61] V V142 from (agr.up (agr.tr (agr.tr (agr.tr (agr.tr (agr.up (agr.up (agr.tr (agr.tr (agr.tr (agr.tr (agr.tr agr.rf ajV13 (by decide) (by decide)) ajV20 (by decide) (by decide)) ajV30 (by decide) (by decide)) ajV46 (by decide) (by decide)) ajV88 (by decide) (by decide)) hV90 rfl) hV93 rfl) ajV98 (by decide) (by decide)) ajV106 (by decide) (by decide)) ajV128 (by decide) (by decide)) ajV139 (by decide) (by decide)) hV142 rfl)) (fun _ => rfl) (fun _ => rfl)⟩
                  have p0157 : p0x V V13 b := p0x.tr (p0x.rf : p0x V V b) (p0x.ag (show agr [(6, 8), (6, 9), (6, 10)] [] V V13 from (agr.tr agr.rf ajV13 (by decide) (by decide))) (fun _ => rfl) (fun _ => rfl))
                  have p0158 : p0x V V20 b := p0x.tr p0157 (p0x.ag (show agr [(1, 3), (6, 8), (6, 9), (6, 10)] [] V13 V20 from (agr.tr agr.rf ajV20 (by decide) (by decide))) (fun _ => rfl) (fun _ => rfl))
                  have p0159 : p0x V V30 b := p0x.tr p0158 (p0x.ag (show agr [(1, 3), (6, 8), (6, 9), (6, 10)] [] V20 V30 from (agr.tr agr.rf ajV30 (by decide) (by decide))) (fun _ => rfl) (fun _ => rfl))
                  have p0160 : p0x V V46 b := p0x.tr p0159 (p0x.ag (show agr [(1, 3), (1, 6), (1, 7), (6, 8), (6, 9), (6, 10)] [] V30 V46 from (agr.tr agr.rf ajV46 (by decide) (by decide))) (fun _ => rfl) (fun _ => rfl))
                  have p0161 : p0x V V88 b := p0x.tr p0160 (p0x.ag (show agr [] [49, 50, 51, 52, 53, 54, 55, 56, 57, 61] V46 V88 from (agr.tr agr.rf ajV88 (by decide) (by decide))) (fun _ => rfl) (fun _ => rfl))
                  have p0162 : p0x V V90 b := p0x.tr p0161 (p0x.ag (show agr [] [50] V88 V90 from (agr.up agr.rf hV90 rfl)) (fun _ => rfl) (fun _ => rfl))
                  have p0163 : p0x V V93 b := p0x.tr p0162 (p0x.ag (show agr [] [51] V90 V93 from (agr.up agr.rf hV93 rfl)) (fun _ => rfl) (fun _ => rfl))
                  have p0164 : p0x V V98 b := p0x.tr p0163 (p0x.ag (show agr [(6, 8), (6, 9), (6, 10)] [] V93 V98 from (agr.tr agr.rf ajV98 (by decide) (by decide))) (fun _ => rfl) (fun _ => rfl))
                  have p0165 : p0x V V106 b := p0x.tr p0164 t104.1
                  have p0166 : p0x V V128 b := p0x.tr p0165 (p0x.ag (show agr [(1, 3), (6, 8), (6, 9), (6, 10)] [] V106 V128 from (agr.tr agr.rf ajV128 (by decide) (by decide))) (fun _ => rfl) (fun _ => rfl))
                  have p0167 : p0x V V139 b := p0x.tr p0166 (p0x.ag (show agr [] [43, 44] V128 V139 from (agr.tr agr.rf ajV139 (by decide) (by decide))) (fun _ => rfl) (fun _ => rfl))
                  have p0168 : p0x V V142 b := p0x.tr p0167 (p0x.ag (show agr [(1, 2)] [] V139 V142 from (agr.up agr.rf hV142 rfl)) (fun _ => rfl) (fun _ => rfl))
                  exact W.zret (v := 1) hx hb hr rfl (fun t ht hW => ⟨⟨1, (V142, L140), rfl, ⟨hMV142, agV142, alL140, fwV142, (by decide), (Imp.mk (fun _ => tx155)), cd156, p0168, (show (V142 1 2).toInt = (V 1 2).toInt ∨ (24 * (b : Int) ≤ (V142 1 2).toInt ∧ (V142 1 2).toInt < 24 * (b : Int) + 24) from by first | exact om_2f78ad999131 r9 kc73 r141 pq144 ((Imp.go t6 (f8))) | first | omega | ((try (have i_t6 := Imp.go t6 (f8))); omega) | ((try (have i_t137 := Imp.go t137 (by omega))); (try (have i_t127 := Imp.go t127 (by omega))); (try (have i_t105 := Imp.go t105 (by omega))); (try (have i_t45 := Imp.go t45 (by omega))); first | omega | ((try (have i_t29 := Imp.go t29 (by omega))); (try (have i_t19 := Imp.go t19 (by omega))); (try (have i_t6 := Imp.go t6 (by omega))); (try (have i_tx := Imp.go tx (by omega))); first | omega | ((try (have i_cd := Imp.go cd (by omega))); (try (have i_cd := Imp.go cd (by omega))); (try (have i_tx := Imp.go tx (by omega))); (try (have i_t6 := Imp.go t6 (by omega))); first | omega | ((try (have i_t19 := Imp.go t19 (by omega))); (try (have i_t29 := Imp.go t29 (by omega))); (try (have i_t45 := Imp.go t45 (by omega))); (try (have i_t105 := Imp.go t105 (by omega))); (try (have i_t127 := Imp.go t127 (by omega))); (try (have i_t137 := Imp.go t137 (by omega))); omega))))), (Imp.mk (fun hp => absurd hp (by decide)))⟩, by rw [ht]; exact hP, va_K.moved hW.alike hK, hD⟩, hS.F ht⟩) hS.2.2 dX1_readComponent_181
                · skip
                  have f169 : z124.toInt = 0 := b_eq rfl (by decide) c130
                  refine lv_iconst (v := 0) hx hb dX1_readComponent_161 (by decide) ?_
                  have pq170 : (V128 1 2).toInt = ((V 1 2)).toInt := congrArg Int32.toInt ((ajV128 1 2 rfl).trans ((ajV106 1 2 rfl).trans ((ajV98 1 2 rfl).trans ((up2_o hV93 (by decide)).trans ((up2_o hV90 (by decide)).trans ((ajV88 1 2 rfl).trans ((ajV46 1 2 rfl).trans ((ajV30 1 2 rfl).trans ((ajV20 1 2 rfl).trans (ajV13 1 2 rfl))))))))))
                  have r171 : (-1) ≤ ((V 1 2)).toInt ∧ ((V 1 2)).toInt ≤ 47 := hMV 1 2
                  have cd172 : CD V128 b := ⟨CB.ag cd.1 (show agr [(1, 3), (1, 6), (1, 7), (1, 8), (6, 8), (6, 9), (6, 10)] [43, 44, 49, 50, 51, 52, 53, 54, 55, 56, 57, 61] V V128 from (agr.tr (agr.tr (agr.tr (agr.up (agr.up (agr.tr (agr.tr (agr.tr (agr.tr (agr.tr agr.rf ajV13 (by decide) (by decide)) ajV20 (by decide) (by decide)) ajV30 (by decide) (by decide)) ajV46 (by decide) (by decide)) ajV88 (by decide) (by decide)) hV90 rfl) hV93 rfl) ajV98 (by decide) (by decide)) ajV106 (by decide) (by decide)) ajV128 (by decide) (by decide))) (fun _ => rfl) (fun _ => rfl), CO.ag cd.2 (show agr [(1, 3), (1, 6), (1, 7), (1, 8), (6, 8), (6, 9), (6, 10)] [43, 44, 49, 50, 51, 52, 53, 54, 55, 56, 57, 61] V V128 from (agr.tr (agr.tr (agr.tr (agr.up (agr.up (agr.tr (agr.tr (agr.tr (agr.tr (agr.tr agr.rf ajV13 (by decide) (by decide)) ajV20 (by decide) (by decide)) ajV30 (by decide) (by decide)) ajV46 (by decide) (by decide)) ajV88 (by decide) (by decide)) hV90 rfl) hV93 rfl) ajV98 (by decide) (by decide)) ajV106 (by decide) (by decide)) ajV128 (by decide) (by decide))) (fun _ => rfl) (fun _ => rfl)⟩
                  have p0173 : p0x V V13 b := p0x.tr (p0x.rf : p0x V V b) (p0x.ag (show agr [(6, 8), (6, 9), (6, 10)] [] V V13 from (agr.tr agr.rf ajV13 (by decide) (by decide))) (fun _ => rfl) (fun _ => rfl))
                  have p0174 : p0x V V20 b := p0x.tr p0173 (p0x.ag (show agr [(1, 3), (6, 8), (6, 9), (6, 10)] [] V13 V20 from (agr.tr agr.rf ajV20 (by decide) (by decide))) (fun _ => rfl) (fun _ => rfl))
                  have p0175 : p0x V V30 b := p0x.tr p0174 (p0x.ag (show agr [(1, 3), (6, 8), (6, 9), (6, 10)] [] V20 V30 from (agr.tr agr.rf ajV30 (by decide) (by decide))) (fun _ => rfl) (fun _ => rfl))
                  have p0176 : p0x V V46 b := p0x.tr p0175 (p0x.ag (show agr [(1, 3), (1, 6), (1, 7), (6, 8), (6, 9), (6, 10)] [] V30 V46 from (agr.tr agr.rf ajV46 (by decide) (by decide))) (fun _ => rfl) (fun _ => rfl))
                  have p0177 : p0x V V88 b := p0x.tr p0176 (p0x.ag (show agr [] [49, 50, 51, 52, 53, 54, 55, 56, 57, 61] V46 V88 from (agr.tr agr.rf ajV88 (by decide) (by decide))) (fun _ => rfl) (fun _ => rfl))
                  have p0178 : p0x V V90 b := p0x.tr p0177 (p0x.ag (show agr [] [50] V88 V90 from (agr.up agr.rf hV90 rfl)) (fun _ => rfl) (fun _ => rfl))
                  have p0179 : p0x V V93 b := p0x.tr p0178 (p0x.ag (show agr [] [51] V90 V93 from (agr.up agr.rf hV93 rfl)) (fun _ => rfl) (fun _ => rfl))
                  have p0180 : p0x V V98 b := p0x.tr p0179 (p0x.ag (show agr [(6, 8), (6, 9), (6, 10)] [] V93 V98 from (agr.tr agr.rf ajV98 (by decide) (by decide))) (fun _ => rfl) (fun _ => rfl))
                  have p0181 : p0x V V106 b := p0x.tr p0180 t104.1
                  have p0182 : p0x V V128 b := p0x.tr p0181 (p0x.ag (show agr [(1, 3), (6, 8), (6, 9), (6, 10)] [] V106 V128 from (agr.tr agr.rf ajV128 (by decide) (by decide))) (fun _ => rfl) (fun _ => rfl))
                  exact W.zret (v := 0) hx hb hr rfl (fun t ht hW => ⟨⟨0, (V128, L129), rfl, ⟨hMV128, agV128, alL129, fwV128, (by decide), (Imp.mk (fun hp => absurd hp (by decide))), cd172, p0182, (show (V128 1 2).toInt = (V 1 2).toInt ∨ (24 * (b : Int) ≤ (V128 1 2).toInt ∧ (V128 1 2).toInt < 24 * (b : Int) + 24) from by first | exact om_a7db56e9fc7a pq170 | first | omega | ((try (have i_t127 := Imp.go t127 (f169))); (try (have i_t6 := Imp.go t6 (f8))); omega) | ((try (have i_t127 := Imp.go t127 (by omega))); (try (have i_t105 := Imp.go t105 (by omega))); (try (have i_t45 := Imp.go t45 (by omega))); (try (have i_t29 := Imp.go t29 (by omega))); first | omega | ((try (have i_t19 := Imp.go t19 (by omega))); (try (have i_t6 := Imp.go t6 (by omega))); (try (have i_tx := Imp.go tx (by omega))); (try (have i_cd := Imp.go cd (by omega))); first | omega | ((try (have i_cd := Imp.go cd (by omega))); (try (have i_tx := Imp.go tx (by omega))); (try (have i_t6 := Imp.go t6 (by omega))); (try (have i_t19 := Imp.go t19 (by omega))); first | omega | ((try (have i_t29 := Imp.go t29 (by omega))); (try (have i_t45 := Imp.go t45 (by omega))); (try (have i_t105 := Imp.go t105 (by omega))); (try (have i_t127 := Imp.go t127 (by omega))); omega))))), (Imp.mk (fun _ => (show 1 ≤ (V128 1 3).toInt from by first | exact om_f8d8213eda45 ((Imp.go t127 (f169))) | first | omega | ((try (have i_t127 := Imp.go t127 (f169))); (try (have i_t6 := Imp.go t6 (f8))); omega) | ((try (have i_t127 := Imp.go t127 (by omega))); (try (have i_t105 := Imp.go t105 (by omega))); (try (have i_t45 := Imp.go t45 (by omega))); (try (have i_t29 := Imp.go t29 (by omega))); first | omega | ((try (have i_t19 := Imp.go t19 (by omega))); (try (have i_t6 := Imp.go t6 (by omega))); (try (have i_tx := Imp.go tx (by omega))); (try (have i_cd := Imp.go cd (by omega))); first | omega | ((try (have i_cd := Imp.go cd (by omega))); (try (have i_tx := Imp.go tx (by omega))); (try (have i_t6 := Imp.go t6 (by omega))); (try (have i_t19 := Imp.go t19 (by omega))); first | omega | ((try (have i_t29 := Imp.go t29 (by omega))); (try (have i_t45 := Imp.go t45 (by omega))); (try (have i_t105 := Imp.go t105 (by omega))); (try (have i_t127 := Imp.go t127 (by omega))); omega)))))))⟩, by rw [ht]; exact hP, va_K.moved hW.alike hK, hD⟩, hS.F ht⟩) hS.2.2 dX1_readComponent_162
            · skip
              have f183 : 151 < ((V46 6 9)).toInt := b_nle rfl (by decide) c68
              refine lv_aload_n hx hb dX1_readComponent_85 rfl (lv_at hl 1 rfl) ?_
              refine lv_iconst (v := 1) hx hb dX1_readComponent_86 (by decide) ?_
              have r184 : Int32.toInt 1 = 1 := by decide
              refine gA_int (gA_runV (As := [.int 1]) (rest := []) (ci := 1) (q0 := 1) hx hb hml hown hg hP hD hK hS hA hnw hgk (x_wrong l D ks H.size ad kk V46 L47 Z 1 hMV46 (by decide)) w867 w869 w6 w162 w870 rfl xgReader hdV_yX1_wrong ⟨Nat.le_of_ble_eq_true rfl, Nat.le_of_ble_eq_true rfl⟩ rfl hl.1 rfl (Nat.le_of_ble_eq_true rfl) dX1_readComponent_87 ⟨Nat.le_of_ble_eq_true rfl, Nat.le_of_ble_eq_true rfl⟩) hP hD hK hS hA (fun z185 u186 H locs w187 hP hD hK hS => ?_)
              obtain ⟨V189, L190⟩ := u186
              obtain ⟨hMV189, ajV189, axL190, rgz185, t188⟩ := w187
              have axL190 : L47 = L190 := Eq.symm axL190
              subst axL190
              have hP : va_P D vwCl (xw ad kk V189 L47 Z) H := hP
              have hD : va_D A (xw ad kk V189 L47 Z) := hD
              have hMV189 : rgd bX V189 := hMV189
              have ajV189 : agr [(1, 3)] [] V46 V189 := ajV189
              have agV189 : agr [(1, 2), (1, 3), (1, 6), (1, 7), (1, 8), (6, 8), (6, 9), (6, 10)] [43, 44, 49, 50, 51, 52, 53, 54, 55, 56, 57, 61] V V189 := agV46.tr ajV189 (by decide) (by decide)
              have fwV189 : frX (xR b) V V189 := frX.tr fwV46 (frX.ag ajV189 (by decide) (by decide))
              have rgz185 : 0 ≤ z185.toInt ∧ z185.toInt ≤ 0 := rgz185
              have t188 : 1 ≤ (V189 1 3).toInt := t188
              have pq191 : (V189 1 2).toInt = ((V 1 2)).toInt := congrArg Int32.toInt ((ajV189 1 2 rfl).trans ((ajV46 1 2 rfl).trans ((ajV30 1 2 rfl).trans ((ajV20 1 2 rfl).trans (ajV13 1 2 rfl)))))
              have r192 : (-1) ≤ ((V 1 2)).toInt ∧ ((V 1 2)).toInt ≤ 47 := hMV 1 2
              have cd193 : CD V189 b := ⟨CB.ag cd.1 (show agr [(1, 3), (1, 6), (1, 7), (6, 8), (6, 9), (6, 10)] [] V V189 from (agr.tr (agr.tr (agr.tr (agr.tr (agr.tr agr.rf ajV13 (by decide) (by decide)) ajV20 (by decide) (by decide)) ajV30 (by decide) (by decide)) ajV46 (by decide) (by decide)) ajV189 (by decide) (by decide))) (fun _ => rfl) (fun _ => rfl), CO.ag cd.2 (show agr [(1, 3), (1, 6), (1, 7), (6, 8), (6, 9), (6, 10)] [] V V189 from (agr.tr (agr.tr (agr.tr (agr.tr (agr.tr agr.rf ajV13 (by decide) (by decide)) ajV20 (by decide) (by decide)) ajV30 (by decide) (by decide)) ajV46 (by decide) (by decide)) ajV189 (by decide) (by decide))) (fun _ => rfl) (fun _ => rfl)⟩
              have p0194 : p0x V V13 b := p0x.tr (p0x.rf : p0x V V b) (p0x.ag (show agr [(6, 8), (6, 9), (6, 10)] [] V V13 from (agr.tr agr.rf ajV13 (by decide) (by decide))) (fun _ => rfl) (fun _ => rfl))
              have p0195 : p0x V V20 b := p0x.tr p0194 (p0x.ag (show agr [(1, 3), (6, 8), (6, 9), (6, 10)] [] V13 V20 from (agr.tr agr.rf ajV20 (by decide) (by decide))) (fun _ => rfl) (fun _ => rfl))
              have p0196 : p0x V V30 b := p0x.tr p0195 (p0x.ag (show agr [(1, 3), (6, 8), (6, 9), (6, 10)] [] V20 V30 from (agr.tr agr.rf ajV30 (by decide) (by decide))) (fun _ => rfl) (fun _ => rfl))
              have p0197 : p0x V V46 b := p0x.tr p0196 (p0x.ag (show agr [(1, 3), (1, 6), (1, 7), (6, 8), (6, 9), (6, 10)] [] V30 V46 from (agr.tr agr.rf ajV46 (by decide) (by decide))) (fun _ => rfl) (fun _ => rfl))
              have p0198 : p0x V V189 b := p0x.tr p0197 (p0x.ag (show agr [(1, 3)] [] V46 V189 from (agr.tr agr.rf ajV189 (by decide) (by decide))) (fun _ => rfl) (fun _ => rfl))
              exact W.zret (v := z185) hx hb hr (nb_ok (by omega)) (fun t ht hW => ⟨⟨z185, (V189, L47), rfl, ⟨hMV189, agV189, alL47, fwV189, (show 0 ≤ z185.toInt ∧ z185.toInt ≤ 1 from by first | exact om_641b3f05f166 rgz185.1 rgz185.2 | first | omega | ((try (have i_t6 := Imp.go t6 (f8))); omega) | ((try (have i_t45 := Imp.go t45 (by omega))); (try (have i_t29 := Imp.go t29 (by omega))); (try (have i_t19 := Imp.go t19 (by omega))); (try (have i_t6 := Imp.go t6 (by omega))); first | omega | ((try (have i_tx := Imp.go tx (by omega))); (try (have i_cd := Imp.go cd (by omega))); (try (have i_cd := Imp.go cd (by omega))); (try (have i_tx := Imp.go tx (by omega))); first | omega | ((try (have i_t6 := Imp.go t6 (by omega))); (try (have i_t19 := Imp.go t19 (by omega))); (try (have i_t29 := Imp.go t29 (by omega))); (try (have i_t45 := Imp.go t45 (by omega))); omega)))), (Imp.mk (fun hp => by exfalso; first | omega | ((try (have i_t6 := Imp.go t6 (f8))); omega) | ((try (have i_t45 := Imp.go t45 (by omega))); (try (have i_t29 := Imp.go t29 (by omega))); (try (have i_t19 := Imp.go t19 (by omega))); (try (have i_t6 := Imp.go t6 (by omega))); first | omega | ((try (have i_tx := Imp.go tx (by omega))); (try (have i_cd := Imp.go cd (by omega))); (try (have i_cd := Imp.go cd (by omega))); (try (have i_tx := Imp.go tx (by omega))); first | omega | ((try (have i_t6 := Imp.go t6 (by omega))); (try (have i_t19 := Imp.go t19 (by omega))); (try (have i_t29 := Imp.go t29 (by omega))); (try (have i_t45 := Imp.go t45 (by omega))); omega))))), cd193, p0198, (show (V189 1 2).toInt = (V 1 2).toInt ∨ (24 * (b : Int) ≤ (V189 1 2).toInt ∧ (V189 1 2).toInt < 24 * (b : Int) + 24) from by first | exact om_a7db56e9fc7a pq191 | first | omega | ((try (have i_t6 := Imp.go t6 (f8))); omega) | ((try (have i_t45 := Imp.go t45 (by omega))); (try (have i_t29 := Imp.go t29 (by omega))); (try (have i_t19 := Imp.go t19 (by omega))); (try (have i_t6 := Imp.go t6 (by omega))); first | omega | ((try (have i_tx := Imp.go tx (by omega))); (try (have i_cd := Imp.go cd (by omega))); (try (have i_cd := Imp.go cd (by omega))); (try (have i_tx := Imp.go tx (by omega))); first | omega | ((try (have i_t6 := Imp.go t6 (by omega))); (try (have i_t19 := Imp.go t19 (by omega))); (try (have i_t29 := Imp.go t29 (by omega))); (try (have i_t45 := Imp.go t45 (by omega))); omega)))), (Imp.mk (fun hp => have hp : z185.toInt = 0 := hp; (show 1 ≤ (V189 1 3).toInt from by first | exact om_f8d8213eda45 t188 | first | omega | ((try (have i_t6 := Imp.go t6 (f8))); omega) | ((try (have i_t45 := Imp.go t45 (by omega))); (try (have i_t29 := Imp.go t29 (by omega))); (try (have i_t19 := Imp.go t19 (by omega))); (try (have i_t6 := Imp.go t6 (by omega))); first | omega | ((try (have i_tx := Imp.go tx (by omega))); (try (have i_cd := Imp.go cd (by omega))); (try (have i_cd := Imp.go cd (by omega))); (try (have i_tx := Imp.go tx (by omega))); first | omega | ((try (have i_t6 := Imp.go t6 (by omega))); (try (have i_t19 := Imp.go t19 (by omega))); (try (have i_t29 := Imp.go t29 (by omega))); (try (have i_t45 := Imp.go t45 (by omega))); omega))))))⟩, by rw [ht]; exact hP, va_K.moved hW.alike hK, hD⟩, hS.F ht⟩) hS.2.2 dX1_readComponent_90
        · skip
          have f199 : z42.toInt = 0 := b_eq rfl (by decide) c48
          refine lv_iconst (v := 0) hx hb dX1_readComponent_57 (by decide) ?_
          have pq200 : (V46 1 2).toInt = ((V 1 2)).toInt := congrArg Int32.toInt ((ajV46 1 2 rfl).trans ((ajV30 1 2 rfl).trans ((ajV20 1 2 rfl).trans (ajV13 1 2 rfl))))
          have r201 : (-1) ≤ ((V 1 2)).toInt ∧ ((V 1 2)).toInt ≤ 47 := hMV 1 2
          have cd202 : CD V46 b := ⟨CB.ag cd.1 (show agr [(1, 3), (1, 6), (1, 7), (6, 8), (6, 9), (6, 10)] [] V V46 from (agr.tr (agr.tr (agr.tr (agr.tr agr.rf ajV13 (by decide) (by decide)) ajV20 (by decide) (by decide)) ajV30 (by decide) (by decide)) ajV46 (by decide) (by decide))) (fun _ => rfl) (fun _ => rfl), CO.ag cd.2 (show agr [(1, 3), (1, 6), (1, 7), (6, 8), (6, 9), (6, 10)] [] V V46 from (agr.tr (agr.tr (agr.tr (agr.tr agr.rf ajV13 (by decide) (by decide)) ajV20 (by decide) (by decide)) ajV30 (by decide) (by decide)) ajV46 (by decide) (by decide))) (fun _ => rfl) (fun _ => rfl)⟩
          have p0203 : p0x V V13 b := p0x.tr (p0x.rf : p0x V V b) (p0x.ag (show agr [(6, 8), (6, 9), (6, 10)] [] V V13 from (agr.tr agr.rf ajV13 (by decide) (by decide))) (fun _ => rfl) (fun _ => rfl))
          have p0204 : p0x V V20 b := p0x.tr p0203 (p0x.ag (show agr [(1, 3), (6, 8), (6, 9), (6, 10)] [] V13 V20 from (agr.tr agr.rf ajV20 (by decide) (by decide))) (fun _ => rfl) (fun _ => rfl))
          have p0205 : p0x V V30 b := p0x.tr p0204 (p0x.ag (show agr [(1, 3), (6, 8), (6, 9), (6, 10)] [] V20 V30 from (agr.tr agr.rf ajV30 (by decide) (by decide))) (fun _ => rfl) (fun _ => rfl))
          have p0206 : p0x V V46 b := p0x.tr p0205 (p0x.ag (show agr [(1, 3), (1, 6), (1, 7), (6, 8), (6, 9), (6, 10)] [] V30 V46 from (agr.tr agr.rf ajV46 (by decide) (by decide))) (fun _ => rfl) (fun _ => rfl))
          exact W.zret (v := 0) hx hb hr rfl (fun t ht hW => ⟨⟨0, (V46, L47), rfl, ⟨hMV46, agV46, alL47, fwV46, (by decide), (Imp.mk (fun hp => absurd hp (by decide))), cd202, p0206, (show (V46 1 2).toInt = (V 1 2).toInt ∨ (24 * (b : Int) ≤ (V46 1 2).toInt ∧ (V46 1 2).toInt < 24 * (b : Int) + 24) from by first | exact om_a7db56e9fc7a pq200 | first | omega | ((try (have i_t45 := Imp.go t45 (f199))); (try (have i_t6 := Imp.go t6 (f8))); omega) | ((try (have i_t45 := Imp.go t45 (by omega))); (try (have i_t29 := Imp.go t29 (by omega))); (try (have i_t19 := Imp.go t19 (by omega))); (try (have i_t6 := Imp.go t6 (by omega))); first | omega | ((try (have i_tx := Imp.go tx (by omega))); (try (have i_cd := Imp.go cd (by omega))); (try (have i_cd := Imp.go cd (by omega))); (try (have i_tx := Imp.go tx (by omega))); first | omega | ((try (have i_t6 := Imp.go t6 (by omega))); (try (have i_t19 := Imp.go t19 (by omega))); (try (have i_t29 := Imp.go t29 (by omega))); (try (have i_t45 := Imp.go t45 (by omega))); omega)))), (Imp.mk (fun _ => (show 1 ≤ (V46 1 3).toInt from by first | exact om_f8d8213eda45 ((Imp.go t45 (f199))) | first | omega | ((try (have i_t45 := Imp.go t45 (f199))); (try (have i_t6 := Imp.go t6 (f8))); omega) | ((try (have i_t45 := Imp.go t45 (by omega))); (try (have i_t29 := Imp.go t29 (by omega))); (try (have i_t19 := Imp.go t19 (by omega))); (try (have i_t6 := Imp.go t6 (by omega))); first | omega | ((try (have i_tx := Imp.go tx (by omega))); (try (have i_cd := Imp.go cd (by omega))); (try (have i_cd := Imp.go cd (by omega))); (try (have i_tx := Imp.go tx (by omega))); first | omega | ((try (have i_t6 := Imp.go t6 (by omega))); (try (have i_t19 := Imp.go t19 (by omega))); (try (have i_t29 := Imp.go t29 (by omega))); (try (have i_t45 := Imp.go t45 (by omega))); omega))))))⟩, by rw [ht]; exact hP, va_K.moved hW.alike hK, hD⟩, hS.F ht⟩) hS.2.2 dX1_readComponent_58
    · skip
      have f207 : z16.toInt = 0 := b_eq rfl (by decide) c22
      refine lv_iconst (v := 0) hx hb dX1_readComponent_33 (by decide) ?_
      have pq208 : (V20 1 2).toInt = ((V 1 2)).toInt := congrArg Int32.toInt ((ajV20 1 2 rfl).trans (ajV13 1 2 rfl))
      have r209 : (-1) ≤ ((V 1 2)).toInt ∧ ((V 1 2)).toInt ≤ 47 := hMV 1 2
      have cd210 : CD V20 b := ⟨CB.ag cd.1 (show agr [(1, 3), (6, 8), (6, 9), (6, 10)] [] V V20 from (agr.tr (agr.tr agr.rf ajV13 (by decide) (by decide)) ajV20 (by decide) (by decide))) (fun _ => rfl) (fun _ => rfl), CO.ag cd.2 (show agr [(1, 3), (6, 8), (6, 9), (6, 10)] [] V V20 from (agr.tr (agr.tr agr.rf ajV13 (by decide) (by decide)) ajV20 (by decide) (by decide))) (fun _ => rfl) (fun _ => rfl)⟩
      have p0211 : p0x V V13 b := p0x.tr (p0x.rf : p0x V V b) (p0x.ag (show agr [(6, 8), (6, 9), (6, 10)] [] V V13 from (agr.tr agr.rf ajV13 (by decide) (by decide))) (fun _ => rfl) (fun _ => rfl))
      have p0212 : p0x V V20 b := p0x.tr p0211 (p0x.ag (show agr [(1, 3), (6, 8), (6, 9), (6, 10)] [] V13 V20 from (agr.tr agr.rf ajV20 (by decide) (by decide))) (fun _ => rfl) (fun _ => rfl))
      exact W.zret (v := 0) hx hb hr rfl (fun t ht hW => ⟨⟨0, (V20, L21), rfl, ⟨hMV20, agV20, alL21, fwV20, (by decide), (Imp.mk (fun hp => absurd hp (by decide))), cd210, p0212, (show (V20 1 2).toInt = (V 1 2).toInt ∨ (24 * (b : Int) ≤ (V20 1 2).toInt ∧ (V20 1 2).toInt < 24 * (b : Int) + 24) from by first | exact om_a7db56e9fc7a pq208 | first | omega | ((try (have i_t19 := Imp.go t19 (f207))); (try (have i_t6 := Imp.go t6 (f8))); omega) | ((try (have i_t19 := Imp.go t19 (by omega))); (try (have i_t6 := Imp.go t6 (by omega))); (try (have i_tx := Imp.go tx (by omega))); (try (have i_cd := Imp.go cd (by omega))); first | omega | ((try (have i_cd := Imp.go cd (by omega))); (try (have i_tx := Imp.go tx (by omega))); (try (have i_t6 := Imp.go t6 (by omega))); (try (have i_t19 := Imp.go t19 (by omega))); omega))), (Imp.mk (fun _ => (show 1 ≤ (V20 1 3).toInt from by first | exact om_f8d8213eda45 ((Imp.go t19 (f207))) | first | omega | ((try (have i_t19 := Imp.go t19 (f207))); (try (have i_t6 := Imp.go t6 (f8))); omega) | ((try (have i_t19 := Imp.go t19 (by omega))); (try (have i_t6 := Imp.go t6 (by omega))); (try (have i_tx := Imp.go tx (by omega))); (try (have i_cd := Imp.go cd (by omega))); first | omega | ((try (have i_cd := Imp.go cd (by omega))); (try (have i_tx := Imp.go tx (by omega))); (try (have i_t6 := Imp.go t6 (by omega))); (try (have i_t19 := Imp.go t19 (by omega))); omega)))))⟩, by rw [ht]; exact hP, va_K.moved hW.alike hK, hD⟩, hS.F ht⟩) hS.2.2 dX1_readComponent_34
  · skip
    have f213 : z3.toInt ≠ 0 := b_neq rfl (by decide) c7
    refine lv_aload_n hx hb dX1_readComponent_13 rfl (lv_at hl 0 rfl) ?_
    refine lv_iconst (v := 5) hx hb dX1_readComponent_14 (by decide) ?_
    have r214 : Int32.toInt 5 = 5 := by decide
    refine gA_int (gA_runV (As := [.int 5]) (rest := []) (ci := 1) (q0 := 1) hx hb hml hown hg hP hD hK hS hA hnw hgk (x_wrong l D ks H.size ad kk V L Z 5 hMV (by decide)) w867 w869 w6 w162 w870 rfl xgReader hdV_yX1_wrong ⟨Nat.le_of_ble_eq_true rfl, Nat.le_of_ble_eq_true rfl⟩ rfl hl.1 rfl (Nat.le_of_ble_eq_true rfl) dX1_readComponent_15 ⟨Nat.le_of_ble_eq_true rfl, Nat.le_of_ble_eq_true rfl⟩) hP hD hK hS hA (fun z215 u216 H locs w217 hP hD hK hS => ?_)
    obtain ⟨V219, L220⟩ := u216
    obtain ⟨hMV219, ajV219, axL220, rgz215, t218⟩ := w217
    have axL220 : L = L220 := Eq.symm axL220
    subst axL220
    have hP : va_P D vwCl (xw ad kk V219 L Z) H := hP
    have hD : va_D A (xw ad kk V219 L Z) := hD
    have hMV219 : rgd bX V219 := hMV219
    have ajV219 : agr [(1, 3)] [] V V219 := ajV219
    have agV219 : agr [(1, 2), (1, 3), (1, 6), (1, 7), (1, 8), (6, 8), (6, 9), (6, 10)] [43, 44, 49, 50, 51, 52, 53, 54, 55, 56, 57, 61] V V219 := agV.tr ajV219 (by decide) (by decide)
    have fwV219 : frX (xR b) V V219 := frX.tr fwV (frX.ag ajV219 (by decide) (by decide))
    have rgz215 : 0 ≤ z215.toInt ∧ z215.toInt ≤ 0 := rgz215
    have t218 : 1 ≤ (V219 1 3).toInt := t218
    have pq221 : (V219 1 2).toInt = ((V 1 2)).toInt := congrArg Int32.toInt (ajV219 1 2 rfl)
    have r222 : (-1) ≤ ((V 1 2)).toInt ∧ ((V 1 2)).toInt ≤ 47 := hMV 1 2
    have cd223 : CD V219 b := ⟨CB.ag cd.1 (show agr [(1, 3)] [] V V219 from (agr.tr agr.rf ajV219 (by decide) (by decide))) (fun _ => rfl) (fun _ => rfl), CO.ag cd.2 (show agr [(1, 3)] [] V V219 from (agr.tr agr.rf ajV219 (by decide) (by decide))) (fun _ => rfl) (fun _ => rfl)⟩
    have p0224 : p0x V V219 b := p0x.tr (p0x.rf : p0x V V b) (p0x.ag (show agr [(1, 3)] [] V V219 from (agr.tr agr.rf ajV219 (by decide) (by decide))) (fun _ => rfl) (fun _ => rfl))
    exact W.zret (v := z215) hx hb hr (nb_ok (by omega)) (fun t ht hW => ⟨⟨z215, (V219, L), rfl, ⟨hMV219, agV219, alL, fwV219, (show 0 ≤ z215.toInt ∧ z215.toInt ≤ 1 from by first | exact om_641b3f05f166 rgz215.1 rgz215.2 | first | omega | ((try (have i_t6 := Imp.go t6 (by omega))); (try (have i_tx := Imp.go tx (by omega))); (try (have i_cd := Imp.go cd (by omega))); (try (have i_cd := Imp.go cd (by omega))); (try (have i_tx := Imp.go tx (by omega))); (try (have i_t6 := Imp.go t6 (by omega))); omega)), (Imp.mk (fun hp => by exfalso; first | omega | ((try (have i_t6 := Imp.go t6 (by omega))); (try (have i_tx := Imp.go tx (by omega))); (try (have i_cd := Imp.go cd (by omega))); (try (have i_cd := Imp.go cd (by omega))); (try (have i_tx := Imp.go tx (by omega))); (try (have i_t6 := Imp.go t6 (by omega))); omega))), cd223, p0224, (show (V219 1 2).toInt = (V 1 2).toInt ∨ (24 * (b : Int) ≤ (V219 1 2).toInt ∧ (V219 1 2).toInt < 24 * (b : Int) + 24) from by first | exact om_a7db56e9fc7a pq221 | first | omega | ((try (have i_t6 := Imp.go t6 (by omega))); (try (have i_tx := Imp.go tx (by omega))); (try (have i_cd := Imp.go cd (by omega))); (try (have i_cd := Imp.go cd (by omega))); (try (have i_tx := Imp.go tx (by omega))); (try (have i_t6 := Imp.go t6 (by omega))); omega)), (Imp.mk (fun hp => have hp : z215.toInt = 0 := hp; (show 1 ≤ (V219 1 3).toInt from by first | exact om_f8d8213eda45 t218 | first | omega | ((try (have i_t6 := Imp.go t6 (by omega))); (try (have i_tx := Imp.go tx (by omega))); (try (have i_cd := Imp.go cd (by omega))); (try (have i_cd := Imp.go cd (by omega))); (try (have i_tx := Imp.go tx (by omega))); (try (have i_t6 := Imp.go t6 (by omega))); omega))))⟩, by rw [ht]; exact hP, va_K.moved hW.alike hK, hD⟩, hS.F ht⟩) hS.2.2 dX1_readComponent_18
abbrev r_x_readStatement : Room := { frames := 92, cells := 0, slots := 0, locals := 2708 }
abbrev q_x_readStatement (D : va_G) (ks : KS) (ad : Nat → Nat) (kk : Nat → ClassId) (V : Vf) (L : Lf) (Z : XZ) (b : Nat) (A : Nat → Prop) : Array Value → State → Outcome → State → Prop := va_Qi (fun (r : Int32) (u : Vf × Lf) => rgd bX u.1 ∧ agr [(1, 2), (1, 3), (1, 4), (1, 6), (1, 7), (1, 8), (6, 8), (6, 9), (6, 10)] [41, 42, 43, 44, 45, 46, 47, 48, 49, 50, 51, 52, 53, 54, 55, 56, 57, 61, 62, 63, 64, 65, 66] V u.1 ∧ agL [1, 6, 44] L u.2 ∧ frX (xR b) V u.1 ∧ (0 ≤ r.toInt ∧ r.toInt ≤ 1) ∧ (Imp (r.toInt = 1) (TX u.1 b)) ∧ (CD u.1 b) ∧ (p0x V u.1 b) ∧ ((u.1 1 2).toInt = (V 1 2).toInt ∨ (24 * (b : Int) ≤ (u.1 1 2).toInt ∧ (u.1 1 2).toInt < 24 * (b : Int) + 24)) ∧ (Imp (r.toInt = 0) (1 ≤ (u.1 1 3).toInt))) (fun u t => gq D A (xw ad kk u.1 u.2 Z) (xty kk Z) t) A
set_option maxHeartbeats 4000000 in
set_option maxRecDepth 100000 in
theorem x_readStatement (l : Launch) (D : va_G) (ks : KS) (sz : Nat) (ad : Nat → Nat) (kk : Nat → ClassId) (V : Vf) (L : Lf) (Z : XZ) (b : Nat) (hMV : rgd bX V) (hb2 : b < 2) (rbk : (V 1 1).toInt = (b : Int)) (own : (V 1 2).toInt = -1) (cd : CD V b) (tx : TX V b)  : Met l yX1_readStatement (Cond.code yX1_readStatement cX1_readStatement 1 (some .boolean) :: GW) r_x_readStatement (va_Pc [.ref (ad 1)] (gp D ks (xw ad kk V L Z) (xty kk Z) sz)) (q_x_readStatement D ks ad kk V L Z  b (va_A (xw ad kk V L Z) sz)) 0 0 (va_A (xw ad kk V L Z) sz) := by
  refine g_met (q_x_readStatement D ks ad kk V L Z  b) (by decide) (Nat.le_of_ble_eq_true rfl) ?_
  intro p e s m below meth c A ls H locs hx hb hr hml hown hg hlocks hin hnw hgk hP hK hD hS hA hl
  have hown : s.vm.findClass RX1 = some m.cls := hown
  have hl : lv_has ls 1 [(0, .ref (ad 1))] := hl
  have hP : va_P D vwCl (xw ad kk V L Z) H := hP
  have hD : va_D A (xw ad kk V L Z) := hD
  have hK : va_K D vwCl (xty kk Z) s := hK
  have agV : agr [(1, 2), (1, 3), (1, 4), (1, 6), (1, 7), (1, 8), (6, 8), (6, 9), (6, 10)] [41, 42, 43, 44, 45, 46, 47, 48, 49, 50, 51, 52, 53, 54, 55, 56, 57, 61, 62, 63, 64, 65, 66] V V := agr.rf
  have alL : agL [1, 6, 44] L L := agL.rf
  have fwV : frX (xR b) V V := frX.rf
  have r1 : (-1) ≤ ((V 1 1)).toInt ∧ ((V 1 1)).toInt ≤ 1 := hMV 1 1
  have r2 : (-1) ≤ ((V 1 2)).toInt ∧ ((V 1 2)).toInt ≤ 47 := hMV 1 2
  refine lv_aload_n hx hb dX1_readStatement_0 rfl (lv_at hl 0 rfl) ?_
  refine va_get (D := D) (ci := 1) (v := .ref (ad 6)) (fs := (xfReader ad V L Z)) (C := RX1) (T := TX1) (N := 9) hx hb hg inX1 hown hK hP 1 xgReader rfl 0 (by decide) (hg _ w304) (fun _ h9 => h9) rfl dX1_readStatement_1 ?_
  refine va_getN (D := D) (ci := 9) (v := .int (V 6 9)) (fs := (xfTape ad V L Z)) (C := RX9) (T := TX9) (N := 12) hx hb hg inX9 hown hK hP 6 xgTape rfl 9 (by decide) (hnw.use 262 n262 rfl) (fun _ h9 => h9) rfl dX1_readStatement_4 ?_
  by_cases q3 : (V 6 9) = 128
  · refine g_top (v := 128) q3 ?_
    have fq3 : ((V 6 9)).toInt = 128 := b_eq rfl (by decide) q3
    refine lv_tableIn (x := 128) (off := 49) (tgt := 56) hx hb dX1_readStatement_7 (by decide) (by decide) (by decide) (by decide) ?_
    refine lv_aload_n hx hb dX1_readStatement_56 rfl (lv_at hl 0 rfl) ?_
    refine gA_int (gA_runV (As := []) (rest := []) (ci := 1) (q0 := 1) hx hb hml hown hg hP hD hK hS hA hnw hgk (x_readType l D ks H.size ad kk V L Z (b) hMV (show b < 2 from by first | exact om_f940a4667dd6 hb2 | first | omega | ((try (have i_tx := Imp.go tx (by omega))); (try (have i_cd := Imp.go cd (by omega))); (try (have i_cd := Imp.go cd (by omega))); (try (have i_tx := Imp.go tx (by omega))); omega)) (show (V 1 1).toInt = (b : Int) from by first | exact om_08e0c9701055 rbk | first | omega | ((try (have i_tx := Imp.go tx (by omega))); (try (have i_cd := Imp.go cd (by omega))); (try (have i_cd := Imp.go cd (by omega))); (try (have i_tx := Imp.go tx (by omega))); omega)) cd tx) w859 w861 w5 w162 w862 rfl xgReader hdV_yX1_readType ⟨Nat.le_of_ble_eq_true rfl, Nat.le_of_ble_eq_true rfl⟩ rfl hl.1 rfl (Nat.le_of_ble_eq_true rfl) dX1_readStatement_57 ⟨Nat.le_of_ble_eq_true rfl, Nat.le_of_ble_eq_true rfl⟩) hP hD hK hS hA (fun z4 u5 H locs w6 hP hD hK hS => ?_)
    obtain ⟨V11, L12⟩ := u5
    obtain ⟨hMV11, ajV11, axL12, fyV11, rgz4, t7, t8, t9, t10⟩ := w6
    have alL12 : agL [1, 6, 44] L L12 := agL.tr alL axL12 (by decide)
    have hP : va_P D vwCl (xw ad kk V11 L12 Z) H := hP
    have hD : va_D A (xw ad kk V11 L12 Z) := hD
    have hMV11 : rgd bX V11 := hMV11
    have ajV11 : agr [(1, 3), (1, 6), (1, 7), (6, 8), (6, 9), (6, 10)] [43, 44, 45] V V11 := ajV11
    have agV11 : agr [(1, 2), (1, 3), (1, 4), (1, 6), (1, 7), (1, 8), (6, 8), (6, 9), (6, 10)] [41, 42, 43, 44, 45, 46, 47, 48, 49, 50, 51, 52, 53, 54, 55, 56, 57, 61, 62, 63, 64, 65, 66] V V11 := agV.tr ajV11 (by decide) (by decide)
    have fwV11 : frX (xR b) V V11 := frX.tr fwV (fyV11)
    have rgz4 : 0 ≤ z4.toInt ∧ z4.toInt ≤ 1 := rgz4
    have t7 : TX V11 b := t7
    have t8 : CD V11 b := t8
    have t9 : px V V11 b := t9
    have t10 : Imp (z4.toInt = 0) (1 ≤ (V11 1 3).toInt) := t10
    have pq13 : (V11 1 2).toInt = ((V 1 2)).toInt := congrArg Int32.toInt (ajV11 1 2 rfl)
    have p014 : p0x V V11 b := p0x.tr (p0x.rf : p0x V V b) t9.1
    exact W.zret (v := z4) hx hb hr (nb_ok (by omega)) (fun t ht hW => ⟨⟨z4, (V11, L12), rfl, ⟨hMV11, agV11, alL12, fwV11, (show 0 ≤ z4.toInt ∧ z4.toInt ≤ 1 from by first | exact om_eb7af9d60398 rgz4.1 rgz4.2 | first | omega | ((try (have i_t10 := Imp.go t10 (by omega))); (try (have i_tx := Imp.go tx (by omega))); (try (have i_cd := Imp.go cd (by omega))); (try (have i_cd := Imp.go cd (by omega))); (try (have i_tx := Imp.go tx (by omega))); (try (have i_t10 := Imp.go t10 (by omega))); omega)), (Imp.mk (fun _ => t7)), t8, p014, (show (V11 1 2).toInt = (V 1 2).toInt ∨ (24 * (b : Int) ≤ (V11 1 2).toInt ∧ (V11 1 2).toInt < 24 * (b : Int) + 24) from by first | exact om_a7db56e9fc7a pq13 | first | omega | ((try (have i_t10 := Imp.go t10 (by omega))); (try (have i_tx := Imp.go tx (by omega))); (try (have i_cd := Imp.go cd (by omega))); (try (have i_cd := Imp.go cd (by omega))); (try (have i_tx := Imp.go tx (by omega))); (try (have i_t10 := Imp.go t10 (by omega))); omega)), (Imp.mk (fun hp => have hp : z4.toInt = 0 := hp; (show 1 ≤ (V11 1 3).toInt from by first | exact om_f8d8213eda45 ((Imp.go t10 (hp))) | first | omega | ((try (have i_t10 := Imp.go t10 (by omega))); (try (have i_tx := Imp.go tx (by omega))); (try (have i_cd := Imp.go cd (by omega))); (try (have i_cd := Imp.go cd (by omega))); (try (have i_tx := Imp.go tx (by omega))); (try (have i_t10 := Imp.go t10 (by omega))); omega))))⟩, by rw [ht]; exact hP, va_K.moved hW.alike hK, hD⟩, hS.F ht⟩) hS.2.2 dX1_readStatement_60
  have gq3 : ((V 6 9)).toInt ≠ 128 := b_neq rfl (by decide) q3
  by_cases q15 : (V 6 9) = 129
  · refine g_top (v := 129) q15 ?_
    have fq15 : ((V 6 9)).toInt = 129 := b_eq rfl (by decide) q15
    refine lv_tableIn (x := 129) (off := 69) (tgt := 76) hx hb dX1_readStatement_7 (by decide) (by decide) (by decide) (by decide) ?_
    refine lv_aload_n hx hb dX1_readStatement_76 rfl (lv_at hl 0 rfl) ?_
    refine lv_iconst (v := 1) hx hb dX1_readStatement_77 (by decide) ?_
    have r16 : Int32.toInt 1 = 1 := by decide
    refine gA_int (gA_runV (As := [.int 1]) (rest := []) (ci := 1) (q0 := 1) hx hb hml hown hg hP hD hK hS hA hnw hgk (x_wrong l D ks H.size ad kk V L Z 1 hMV (by decide)) w867 w869 w6 w162 w870 rfl xgReader hdV_yX1_wrong ⟨Nat.le_of_ble_eq_true rfl, Nat.le_of_ble_eq_true rfl⟩ rfl hl.1 rfl (Nat.le_of_ble_eq_true rfl) dX1_readStatement_78 ⟨Nat.le_of_ble_eq_true rfl, Nat.le_of_ble_eq_true rfl⟩) hP hD hK hS hA (fun z17 u18 H locs w19 hP hD hK hS => ?_)
    obtain ⟨V21, L22⟩ := u18
    obtain ⟨hMV21, ajV21, axL22, rgz17, t20⟩ := w19
    have axL22 : L = L22 := Eq.symm axL22
    subst axL22
    have hP : va_P D vwCl (xw ad kk V21 L Z) H := hP
    have hD : va_D A (xw ad kk V21 L Z) := hD
    have hMV21 : rgd bX V21 := hMV21
    have ajV21 : agr [(1, 3)] [] V V21 := ajV21
    have agV21 : agr [(1, 2), (1, 3), (1, 4), (1, 6), (1, 7), (1, 8), (6, 8), (6, 9), (6, 10)] [41, 42, 43, 44, 45, 46, 47, 48, 49, 50, 51, 52, 53, 54, 55, 56, 57, 61, 62, 63, 64, 65, 66] V V21 := agV.tr ajV21 (by decide) (by decide)
    have fwV21 : frX (xR b) V V21 := frX.tr fwV (frX.ag ajV21 (by decide) (by decide))
    have rgz17 : 0 ≤ z17.toInt ∧ z17.toInt ≤ 0 := rgz17
    have t20 : 1 ≤ (V21 1 3).toInt := t20
    have pq23 : (V21 1 2).toInt = ((V 1 2)).toInt := congrArg Int32.toInt (ajV21 1 2 rfl)
    have cd24 : CD V21 b := ⟨CB.ag cd.1 (show agr [(1, 3)] [] V V21 from (agr.tr agr.rf ajV21 (by decide) (by decide))) (fun _ => rfl) (fun _ => rfl), CO.ag cd.2 (show agr [(1, 3)] [] V V21 from (agr.tr agr.rf ajV21 (by decide) (by decide))) (fun _ => rfl) (fun _ => rfl)⟩
    have p025 : p0x V V21 b := p0x.tr (p0x.rf : p0x V V b) (p0x.ag (show agr [(1, 3)] [] V V21 from (agr.tr agr.rf ajV21 (by decide) (by decide))) (fun _ => rfl) (fun _ => rfl))
    exact W.zret (v := z17) hx hb hr (nb_ok (by omega)) (fun t ht hW => ⟨⟨z17, (V21, L), rfl, ⟨hMV21, agV21, alL, fwV21, (show 0 ≤ z17.toInt ∧ z17.toInt ≤ 1 from by first | exact om_641b3f05f166 rgz17.1 rgz17.2 | first | omega | ((try (have i_tx := Imp.go tx (by omega))); (try (have i_cd := Imp.go cd (by omega))); (try (have i_cd := Imp.go cd (by omega))); (try (have i_tx := Imp.go tx (by omega))); omega)), (Imp.mk (fun hp => by exfalso; omega)), cd24, p025, (show (V21 1 2).toInt = (V 1 2).toInt ∨ (24 * (b : Int) ≤ (V21 1 2).toInt ∧ (V21 1 2).toInt < 24 * (b : Int) + 24) from by first | exact om_a7db56e9fc7a pq23 | first | omega | ((try (have i_tx := Imp.go tx (by omega))); (try (have i_cd := Imp.go cd (by omega))); (try (have i_cd := Imp.go cd (by omega))); (try (have i_tx := Imp.go tx (by omega))); omega)), (Imp.mk (fun hp => have hp : z17.toInt = 0 := hp; (show 1 ≤ (V21 1 3).toInt from by first | exact om_f8d8213eda45 t20 | first | omega | ((try (have i_tx := Imp.go tx (by omega))); (try (have i_cd := Imp.go cd (by omega))); (try (have i_cd := Imp.go cd (by omega))); (try (have i_tx := Imp.go tx (by omega))); omega))))⟩, by rw [ht]; exact hP, va_K.moved hW.alike hK, hD⟩, hS.F ht⟩) hS.2.2 dX1_readStatement_81
  have gq15 : ((V 6 9)).toInt ≠ 129 := b_neq rfl (by decide) q15
  by_cases q26 : (V 6 9) = 130
  · refine g_top (v := 130) q26 ?_
    have fq26 : ((V 6 9)).toInt = 130 := b_eq rfl (by decide) q26
    refine lv_tableIn (x := 130) (off := 54) (tgt := 61) hx hb dX1_readStatement_7 (by decide) (by decide) (by decide) (by decide) ?_
    refine lv_aload_n hx hb dX1_readStatement_61 rfl (lv_at hl 0 rfl) ?_
    refine gA_int (gA_runV (As := []) (rest := []) (ci := 1) (q0 := 1) hx hb hml hown hg hP hD hK hS hA hnw hgk (x_readSetting l D ks H.size ad kk V L Z (b) hMV (show b < 2 from by first | exact om_f940a4667dd6 hb2 | first | omega | ((try (have i_tx := Imp.go tx (by omega))); (try (have i_cd := Imp.go cd (by omega))); (try (have i_cd := Imp.go cd (by omega))); (try (have i_tx := Imp.go tx (by omega))); omega)) (show (V 1 1).toInt = (b : Int) from by first | exact om_08e0c9701055 rbk | first | omega | ((try (have i_tx := Imp.go tx (by omega))); (try (have i_cd := Imp.go cd (by omega))); (try (have i_cd := Imp.go cd (by omega))); (try (have i_tx := Imp.go tx (by omega))); omega)) cd tx) w901 w903 w11 w162 w904 rfl xgReader hdV_yX1_readSetting ⟨Nat.le_of_ble_eq_true rfl, Nat.le_of_ble_eq_true rfl⟩ rfl hl.1 rfl (Nat.le_of_ble_eq_true rfl) dX1_readStatement_62 ⟨Nat.le_of_ble_eq_true rfl, Nat.le_of_ble_eq_true rfl⟩) hP hD hK hS hA (fun z27 u28 H locs w29 hP hD hK hS => ?_)
    obtain ⟨V34, L35⟩ := u28
    obtain ⟨hMV34, ajV34, axL35, fyV34, rgz27, t30, t31, t32, t33⟩ := w29
    have alL35 : agL [1, 6, 44] L L35 := agL.tr alL axL35 (by decide)
    have hP : va_P D vwCl (xw ad kk V34 L35 Z) H := hP
    have hD : va_D A (xw ad kk V34 L35 Z) := hD
    have hMV34 : rgd bX V34 := hMV34
    have ajV34 : agr [(1, 3), (1, 8), (6, 8), (6, 9), (6, 10)] [43, 44, 46] V V34 := ajV34
    have agV34 : agr [(1, 2), (1, 3), (1, 4), (1, 6), (1, 7), (1, 8), (6, 8), (6, 9), (6, 10)] [41, 42, 43, 44, 45, 46, 47, 48, 49, 50, 51, 52, 53, 54, 55, 56, 57, 61, 62, 63, 64, 65, 66] V V34 := agV.tr ajV34 (by decide) (by decide)
    have fwV34 : frX (xR b) V V34 := frX.tr fwV (fyV34)
    have rgz27 : 0 ≤ z27.toInt ∧ z27.toInt ≤ 1 := rgz27
    have t30 : TX V34 b := t30
    have t31 : CD V34 b := t31
    have t32 : px V V34 b := t32
    have t33 : Imp (z27.toInt = 0) (1 ≤ (V34 1 3).toInt) := t33
    have pq36 : (V34 1 2).toInt = ((V 1 2)).toInt := congrArg Int32.toInt (ajV34 1 2 rfl)
    have p037 : p0x V V34 b := p0x.tr (p0x.rf : p0x V V b) t32.1
    exact W.zret (v := z27) hx hb hr (nb_ok (by omega)) (fun t ht hW => ⟨⟨z27, (V34, L35), rfl, ⟨hMV34, agV34, alL35, fwV34, (show 0 ≤ z27.toInt ∧ z27.toInt ≤ 1 from by first | exact om_eb7af9d60398 rgz27.1 rgz27.2 | first | omega | ((try (have i_t33 := Imp.go t33 (by omega))); (try (have i_tx := Imp.go tx (by omega))); (try (have i_cd := Imp.go cd (by omega))); (try (have i_cd := Imp.go cd (by omega))); (try (have i_tx := Imp.go tx (by omega))); (try (have i_t33 := Imp.go t33 (by omega))); omega)), (Imp.mk (fun _ => t30)), t31, p037, (show (V34 1 2).toInt = (V 1 2).toInt ∨ (24 * (b : Int) ≤ (V34 1 2).toInt ∧ (V34 1 2).toInt < 24 * (b : Int) + 24) from by first | exact om_a7db56e9fc7a pq36 | first | omega | ((try (have i_t33 := Imp.go t33 (by omega))); (try (have i_tx := Imp.go tx (by omega))); (try (have i_cd := Imp.go cd (by omega))); (try (have i_cd := Imp.go cd (by omega))); (try (have i_tx := Imp.go tx (by omega))); (try (have i_t33 := Imp.go t33 (by omega))); omega)), (Imp.mk (fun hp => have hp : z27.toInt = 0 := hp; (show 1 ≤ (V34 1 3).toInt from by first | exact om_f8d8213eda45 ((Imp.go t33 (hp))) | first | omega | ((try (have i_t33 := Imp.go t33 (by omega))); (try (have i_tx := Imp.go tx (by omega))); (try (have i_cd := Imp.go cd (by omega))); (try (have i_cd := Imp.go cd (by omega))); (try (have i_tx := Imp.go tx (by omega))); (try (have i_t33 := Imp.go t33 (by omega))); omega))))⟩, by rw [ht]; exact hP, va_K.moved hW.alike hK, hD⟩, hS.F ht⟩) hS.2.2 dX1_readStatement_65
  have gq26 : ((V 6 9)).toInt ≠ 130 := b_neq rfl (by decide) q26
  by_cases q38 : (V 6 9) = 131
  · refine g_top (v := 131) q38 ?_
    have fq38 : ((V 6 9)).toInt = 131 := b_eq rfl (by decide) q38
    refine lv_tableIn (x := 131) (off := 59) (tgt := 66) hx hb dX1_readStatement_7 (by decide) (by decide) (by decide) (by decide) ?_
    refine lv_aload_n hx hb dX1_readStatement_66 rfl (lv_at hl 0 rfl) ?_
    refine gA_int (gA_runV (As := []) (rest := []) (ci := 1) (q0 := 1) hx hb hml hown hg hP hD hK hS hA hnw hgk (x_readComponent l D ks H.size ad kk V L Z (b) hMV (show b < 2 from by first | exact om_f940a4667dd6 hb2 | first | omega | ((try (have i_tx := Imp.go tx (by omega))); (try (have i_cd := Imp.go cd (by omega))); (try (have i_cd := Imp.go cd (by omega))); (try (have i_tx := Imp.go tx (by omega))); omega)) (show (V 1 1).toInt = (b : Int) from by first | exact om_08e0c9701055 rbk | first | omega | ((try (have i_tx := Imp.go tx (by omega))); (try (have i_cd := Imp.go cd (by omega))); (try (have i_cd := Imp.go cd (by omega))); (try (have i_tx := Imp.go tx (by omega))); omega)) cd tx) w910 w912 w13 w162 w913 rfl xgReader hdV_yX1_readComponent ⟨Nat.le_of_ble_eq_true rfl, Nat.le_of_ble_eq_true rfl⟩ rfl hl.1 rfl (Nat.le_of_ble_eq_true rfl) dX1_readStatement_67 ⟨Nat.le_of_ble_eq_true rfl, Nat.le_of_ble_eq_true rfl⟩) hP hD hK hS hA (fun z39 u40 H locs w41 hP hD hK hS => ?_)
    obtain ⟨V47, L48⟩ := u40
    obtain ⟨hMV47, ajV47, axL48, fyV47, rgz39, t42, t43, t44, t45, t46⟩ := w41
    have alL48 : agL [1, 6, 44] L L48 := agL.tr alL axL48 (by decide)
    have hP : va_P D vwCl (xw ad kk V47 L48 Z) H := hP
    have hD : va_D A (xw ad kk V47 L48 Z) := hD
    have hMV47 : rgd bX V47 := hMV47
    have ajV47 : agr [(1, 2), (1, 3), (1, 6), (1, 7), (1, 8), (6, 8), (6, 9), (6, 10)] [43, 44, 49, 50, 51, 52, 53, 54, 55, 56, 57, 61] V V47 := ajV47
    have agV47 : agr [(1, 2), (1, 3), (1, 4), (1, 6), (1, 7), (1, 8), (6, 8), (6, 9), (6, 10)] [41, 42, 43, 44, 45, 46, 47, 48, 49, 50, 51, 52, 53, 54, 55, 56, 57, 61, 62, 63, 64, 65, 66] V V47 := agV.tr ajV47 (by decide) (by decide)
    have fwV47 : frX (xR b) V V47 := frX.tr fwV (fyV47)
    have rgz39 : 0 ≤ z39.toInt ∧ z39.toInt ≤ 1 := rgz39
    have t42 : Imp (z39.toInt = 1) (TX V47 b) := t42
    have t43 : CD V47 b := t43
    have t44 : p0x V V47 b := t44
    have t45 : (V47 1 2).toInt = (V 1 2).toInt ∨ (24 * (b : Int) ≤ (V47 1 2).toInt ∧ (V47 1 2).toInt < 24 * (b : Int) + 24) := t45
    have t46 : Imp (z39.toInt = 0) (1 ≤ (V47 1 3).toInt) := t46
    have r49 : (-1) ≤ ((V47 1 2)).toInt ∧ ((V47 1 2)).toInt ≤ 47 := hMV47 1 2
    have p050 : p0x V V47 b := p0x.tr (p0x.rf : p0x V V b) t44
    exact W.zret (v := z39) hx hb hr (nb_ok (by omega)) (fun t ht hW => ⟨⟨z39, (V47, L48), rfl, ⟨hMV47, agV47, alL48, fwV47, (show 0 ≤ z39.toInt ∧ z39.toInt ≤ 1 from by first | exact om_eb7af9d60398 rgz39.1 rgz39.2 | first | omega | ((try (have i_t46 := Imp.go t46 (by omega))); (try (have i_tx := Imp.go tx (by omega))); (try (have i_cd := Imp.go cd (by omega))); (try (have i_cd := Imp.go cd (by omega))); (try (have i_tx := Imp.go tx (by omega))); (try (have i_t46 := Imp.go t46 (by omega))); omega)), t42, t43, p050, (show (V47 1 2).toInt = (V 1 2).toInt ∨ (24 * (b : Int) ≤ (V47 1 2).toInt ∧ (V47 1 2).toInt < 24 * (b : Int) + 24) from by first | omega | ((try (have i_t46 := Imp.go t46 (by omega))); (try (have i_tx := Imp.go tx (by omega))); (try (have i_cd := Imp.go cd (by omega))); (try (have i_cd := Imp.go cd (by omega))); (try (have i_tx := Imp.go tx (by omega))); (try (have i_t46 := Imp.go t46 (by omega))); omega)), (Imp.mk (fun hp => have hp : z39.toInt = 0 := hp; (show 1 ≤ (V47 1 3).toInt from by first | exact om_f8d8213eda45 ((Imp.go t46 (hp))) | first | omega | ((try (have i_t46 := Imp.go t46 (by omega))); (try (have i_tx := Imp.go tx (by omega))); (try (have i_cd := Imp.go cd (by omega))); (try (have i_cd := Imp.go cd (by omega))); (try (have i_tx := Imp.go tx (by omega))); (try (have i_t46 := Imp.go t46 (by omega))); omega))))⟩, by rw [ht]; exact hP, va_K.moved hW.alike hK, hD⟩, hS.F ht⟩) hS.2.2 dX1_readStatement_70
  have gq38 : ((V 6 9)).toInt ≠ 131 := b_neq rfl (by decide) q38
  by_cases q51 : (V 6 9) = 132
  · refine g_top (v := 132) q51 ?_
    have fq51 : ((V 6 9)).toInt = 132 := b_eq rfl (by decide) q51
    refine lv_tableIn (x := 132) (off := 69) (tgt := 76) hx hb dX1_readStatement_7 (by decide) (by decide) (by decide) (by decide) ?_
    refine lv_aload_n hx hb dX1_readStatement_76 rfl (lv_at hl 0 rfl) ?_
    refine lv_iconst (v := 1) hx hb dX1_readStatement_77 (by decide) ?_
    have r52 : Int32.toInt 1 = 1 := by decide
    refine gA_int (gA_runV (As := [.int 1]) (rest := []) (ci := 1) (q0 := 1) hx hb hml hown hg hP hD hK hS hA hnw hgk (x_wrong l D ks H.size ad kk V L Z 1 hMV (by decide)) w867 w869 w6 w162 w870 rfl xgReader hdV_yX1_wrong ⟨Nat.le_of_ble_eq_true rfl, Nat.le_of_ble_eq_true rfl⟩ rfl hl.1 rfl (Nat.le_of_ble_eq_true rfl) dX1_readStatement_78 ⟨Nat.le_of_ble_eq_true rfl, Nat.le_of_ble_eq_true rfl⟩) hP hD hK hS hA (fun z53 u54 H locs w55 hP hD hK hS => ?_)
    obtain ⟨V57, L58⟩ := u54
    obtain ⟨hMV57, ajV57, axL58, rgz53, t56⟩ := w55
    have axL58 : L = L58 := Eq.symm axL58
    subst axL58
    have hP : va_P D vwCl (xw ad kk V57 L Z) H := hP
    have hD : va_D A (xw ad kk V57 L Z) := hD
    have hMV57 : rgd bX V57 := hMV57
    have ajV57 : agr [(1, 3)] [] V V57 := ajV57
    have agV57 : agr [(1, 2), (1, 3), (1, 4), (1, 6), (1, 7), (1, 8), (6, 8), (6, 9), (6, 10)] [41, 42, 43, 44, 45, 46, 47, 48, 49, 50, 51, 52, 53, 54, 55, 56, 57, 61, 62, 63, 64, 65, 66] V V57 := agV.tr ajV57 (by decide) (by decide)
    have fwV57 : frX (xR b) V V57 := frX.tr fwV (frX.ag ajV57 (by decide) (by decide))
    have rgz53 : 0 ≤ z53.toInt ∧ z53.toInt ≤ 0 := rgz53
    have t56 : 1 ≤ (V57 1 3).toInt := t56
    have pq59 : (V57 1 2).toInt = ((V 1 2)).toInt := congrArg Int32.toInt (ajV57 1 2 rfl)
    have cd60 : CD V57 b := ⟨CB.ag cd.1 (show agr [(1, 3)] [] V V57 from (agr.tr agr.rf ajV57 (by decide) (by decide))) (fun _ => rfl) (fun _ => rfl), CO.ag cd.2 (show agr [(1, 3)] [] V V57 from (agr.tr agr.rf ajV57 (by decide) (by decide))) (fun _ => rfl) (fun _ => rfl)⟩
    have p061 : p0x V V57 b := p0x.tr (p0x.rf : p0x V V b) (p0x.ag (show agr [(1, 3)] [] V V57 from (agr.tr agr.rf ajV57 (by decide) (by decide))) (fun _ => rfl) (fun _ => rfl))
    exact W.zret (v := z53) hx hb hr (nb_ok (by omega)) (fun t ht hW => ⟨⟨z53, (V57, L), rfl, ⟨hMV57, agV57, alL, fwV57, (show 0 ≤ z53.toInt ∧ z53.toInt ≤ 1 from by first | exact om_641b3f05f166 rgz53.1 rgz53.2 | first | omega | ((try (have i_tx := Imp.go tx (by omega))); (try (have i_cd := Imp.go cd (by omega))); (try (have i_cd := Imp.go cd (by omega))); (try (have i_tx := Imp.go tx (by omega))); omega)), (Imp.mk (fun hp => by exfalso; omega)), cd60, p061, (show (V57 1 2).toInt = (V 1 2).toInt ∨ (24 * (b : Int) ≤ (V57 1 2).toInt ∧ (V57 1 2).toInt < 24 * (b : Int) + 24) from by first | exact om_a7db56e9fc7a pq59 | first | omega | ((try (have i_tx := Imp.go tx (by omega))); (try (have i_cd := Imp.go cd (by omega))); (try (have i_cd := Imp.go cd (by omega))); (try (have i_tx := Imp.go tx (by omega))); omega)), (Imp.mk (fun hp => have hp : z53.toInt = 0 := hp; (show 1 ≤ (V57 1 3).toInt from by first | exact om_f8d8213eda45 t56 | first | omega | ((try (have i_tx := Imp.go tx (by omega))); (try (have i_cd := Imp.go cd (by omega))); (try (have i_cd := Imp.go cd (by omega))); (try (have i_tx := Imp.go tx (by omega))); omega))))⟩, by rw [ht]; exact hP, va_K.moved hW.alike hK, hD⟩, hS.F ht⟩) hS.2.2 dX1_readStatement_81
  have gq51 : ((V 6 9)).toInt ≠ 132 := b_neq rfl (by decide) q51
  by_cases q62 : (V 6 9) = 133
  · refine g_top (v := 133) q62 ?_
    have fq62 : ((V 6 9)).toInt = 133 := b_eq rfl (by decide) q62
    refine lv_tableIn (x := 133) (off := 69) (tgt := 76) hx hb dX1_readStatement_7 (by decide) (by decide) (by decide) (by decide) ?_
    refine lv_aload_n hx hb dX1_readStatement_76 rfl (lv_at hl 0 rfl) ?_
    refine lv_iconst (v := 1) hx hb dX1_readStatement_77 (by decide) ?_
    have r63 : Int32.toInt 1 = 1 := by decide
    refine gA_int (gA_runV (As := [.int 1]) (rest := []) (ci := 1) (q0 := 1) hx hb hml hown hg hP hD hK hS hA hnw hgk (x_wrong l D ks H.size ad kk V L Z 1 hMV (by decide)) w867 w869 w6 w162 w870 rfl xgReader hdV_yX1_wrong ⟨Nat.le_of_ble_eq_true rfl, Nat.le_of_ble_eq_true rfl⟩ rfl hl.1 rfl (Nat.le_of_ble_eq_true rfl) dX1_readStatement_78 ⟨Nat.le_of_ble_eq_true rfl, Nat.le_of_ble_eq_true rfl⟩) hP hD hK hS hA (fun z64 u65 H locs w66 hP hD hK hS => ?_)
    obtain ⟨V68, L69⟩ := u65
    obtain ⟨hMV68, ajV68, axL69, rgz64, t67⟩ := w66
    have axL69 : L = L69 := Eq.symm axL69
    subst axL69
    have hP : va_P D vwCl (xw ad kk V68 L Z) H := hP
    have hD : va_D A (xw ad kk V68 L Z) := hD
    have hMV68 : rgd bX V68 := hMV68
    have ajV68 : agr [(1, 3)] [] V V68 := ajV68
    have agV68 : agr [(1, 2), (1, 3), (1, 4), (1, 6), (1, 7), (1, 8), (6, 8), (6, 9), (6, 10)] [41, 42, 43, 44, 45, 46, 47, 48, 49, 50, 51, 52, 53, 54, 55, 56, 57, 61, 62, 63, 64, 65, 66] V V68 := agV.tr ajV68 (by decide) (by decide)
    have fwV68 : frX (xR b) V V68 := frX.tr fwV (frX.ag ajV68 (by decide) (by decide))
    have rgz64 : 0 ≤ z64.toInt ∧ z64.toInt ≤ 0 := rgz64
    have t67 : 1 ≤ (V68 1 3).toInt := t67
    have pq70 : (V68 1 2).toInt = ((V 1 2)).toInt := congrArg Int32.toInt (ajV68 1 2 rfl)
    have cd71 : CD V68 b := ⟨CB.ag cd.1 (show agr [(1, 3)] [] V V68 from (agr.tr agr.rf ajV68 (by decide) (by decide))) (fun _ => rfl) (fun _ => rfl), CO.ag cd.2 (show agr [(1, 3)] [] V V68 from (agr.tr agr.rf ajV68 (by decide) (by decide))) (fun _ => rfl) (fun _ => rfl)⟩
    have p072 : p0x V V68 b := p0x.tr (p0x.rf : p0x V V b) (p0x.ag (show agr [(1, 3)] [] V V68 from (agr.tr agr.rf ajV68 (by decide) (by decide))) (fun _ => rfl) (fun _ => rfl))
    exact W.zret (v := z64) hx hb hr (nb_ok (by omega)) (fun t ht hW => ⟨⟨z64, (V68, L), rfl, ⟨hMV68, agV68, alL, fwV68, (show 0 ≤ z64.toInt ∧ z64.toInt ≤ 1 from by first | exact om_641b3f05f166 rgz64.1 rgz64.2 | first | omega | ((try (have i_tx := Imp.go tx (by omega))); (try (have i_cd := Imp.go cd (by omega))); (try (have i_cd := Imp.go cd (by omega))); (try (have i_tx := Imp.go tx (by omega))); omega)), (Imp.mk (fun hp => by exfalso; omega)), cd71, p072, (show (V68 1 2).toInt = (V 1 2).toInt ∨ (24 * (b : Int) ≤ (V68 1 2).toInt ∧ (V68 1 2).toInt < 24 * (b : Int) + 24) from by first | exact om_a7db56e9fc7a pq70 | first | omega | ((try (have i_tx := Imp.go tx (by omega))); (try (have i_cd := Imp.go cd (by omega))); (try (have i_cd := Imp.go cd (by omega))); (try (have i_tx := Imp.go tx (by omega))); omega)), (Imp.mk (fun hp => have hp : z64.toInt = 0 := hp; (show 1 ≤ (V68 1 3).toInt from by first | exact om_f8d8213eda45 t67 | first | omega | ((try (have i_tx := Imp.go tx (by omega))); (try (have i_cd := Imp.go cd (by omega))); (try (have i_cd := Imp.go cd (by omega))); (try (have i_tx := Imp.go tx (by omega))); omega))))⟩, by rw [ht]; exact hP, va_K.moved hW.alike hK, hD⟩, hS.F ht⟩) hS.2.2 dX1_readStatement_81
  have gq62 : ((V 6 9)).toInt ≠ 133 := b_neq rfl (by decide) q62
  by_cases q73 : (V 6 9) = 134
  · refine g_top (v := 134) q73 ?_
    have fq73 : ((V 6 9)).toInt = 134 := b_eq rfl (by decide) q73
    refine lv_tableIn (x := 134) (off := 69) (tgt := 76) hx hb dX1_readStatement_7 (by decide) (by decide) (by decide) (by decide) ?_
    refine lv_aload_n hx hb dX1_readStatement_76 rfl (lv_at hl 0 rfl) ?_
    refine lv_iconst (v := 1) hx hb dX1_readStatement_77 (by decide) ?_
    have r74 : Int32.toInt 1 = 1 := by decide
    refine gA_int (gA_runV (As := [.int 1]) (rest := []) (ci := 1) (q0 := 1) hx hb hml hown hg hP hD hK hS hA hnw hgk (x_wrong l D ks H.size ad kk V L Z 1 hMV (by decide)) w867 w869 w6 w162 w870 rfl xgReader hdV_yX1_wrong ⟨Nat.le_of_ble_eq_true rfl, Nat.le_of_ble_eq_true rfl⟩ rfl hl.1 rfl (Nat.le_of_ble_eq_true rfl) dX1_readStatement_78 ⟨Nat.le_of_ble_eq_true rfl, Nat.le_of_ble_eq_true rfl⟩) hP hD hK hS hA (fun z75 u76 H locs w77 hP hD hK hS => ?_)
    obtain ⟨V79, L80⟩ := u76
    obtain ⟨hMV79, ajV79, axL80, rgz75, t78⟩ := w77
    have axL80 : L = L80 := Eq.symm axL80
    subst axL80
    have hP : va_P D vwCl (xw ad kk V79 L Z) H := hP
    have hD : va_D A (xw ad kk V79 L Z) := hD
    have hMV79 : rgd bX V79 := hMV79
    have ajV79 : agr [(1, 3)] [] V V79 := ajV79
    have agV79 : agr [(1, 2), (1, 3), (1, 4), (1, 6), (1, 7), (1, 8), (6, 8), (6, 9), (6, 10)] [41, 42, 43, 44, 45, 46, 47, 48, 49, 50, 51, 52, 53, 54, 55, 56, 57, 61, 62, 63, 64, 65, 66] V V79 := agV.tr ajV79 (by decide) (by decide)
    have fwV79 : frX (xR b) V V79 := frX.tr fwV (frX.ag ajV79 (by decide) (by decide))
    have rgz75 : 0 ≤ z75.toInt ∧ z75.toInt ≤ 0 := rgz75
    have t78 : 1 ≤ (V79 1 3).toInt := t78
    have pq81 : (V79 1 2).toInt = ((V 1 2)).toInt := congrArg Int32.toInt (ajV79 1 2 rfl)
    have cd82 : CD V79 b := ⟨CB.ag cd.1 (show agr [(1, 3)] [] V V79 from (agr.tr agr.rf ajV79 (by decide) (by decide))) (fun _ => rfl) (fun _ => rfl), CO.ag cd.2 (show agr [(1, 3)] [] V V79 from (agr.tr agr.rf ajV79 (by decide) (by decide))) (fun _ => rfl) (fun _ => rfl)⟩
    have p083 : p0x V V79 b := p0x.tr (p0x.rf : p0x V V b) (p0x.ag (show agr [(1, 3)] [] V V79 from (agr.tr agr.rf ajV79 (by decide) (by decide))) (fun _ => rfl) (fun _ => rfl))
    exact W.zret (v := z75) hx hb hr (nb_ok (by omega)) (fun t ht hW => ⟨⟨z75, (V79, L), rfl, ⟨hMV79, agV79, alL, fwV79, (show 0 ≤ z75.toInt ∧ z75.toInt ≤ 1 from by first | exact om_641b3f05f166 rgz75.1 rgz75.2 | first | omega | ((try (have i_tx := Imp.go tx (by omega))); (try (have i_cd := Imp.go cd (by omega))); (try (have i_cd := Imp.go cd (by omega))); (try (have i_tx := Imp.go tx (by omega))); omega)), (Imp.mk (fun hp => by exfalso; omega)), cd82, p083, (show (V79 1 2).toInt = (V 1 2).toInt ∨ (24 * (b : Int) ≤ (V79 1 2).toInt ∧ (V79 1 2).toInt < 24 * (b : Int) + 24) from by first | exact om_a7db56e9fc7a pq81 | first | omega | ((try (have i_tx := Imp.go tx (by omega))); (try (have i_cd := Imp.go cd (by omega))); (try (have i_cd := Imp.go cd (by omega))); (try (have i_tx := Imp.go tx (by omega))); omega)), (Imp.mk (fun hp => have hp : z75.toInt = 0 := hp; (show 1 ≤ (V79 1 3).toInt from by first | exact om_f8d8213eda45 t78 | first | omega | ((try (have i_tx := Imp.go tx (by omega))); (try (have i_cd := Imp.go cd (by omega))); (try (have i_cd := Imp.go cd (by omega))); (try (have i_tx := Imp.go tx (by omega))); omega))))⟩, by rw [ht]; exact hP, va_K.moved hW.alike hK, hD⟩, hS.F ht⟩) hS.2.2 dX1_readStatement_81
  have gq73 : ((V 6 9)).toInt ≠ 134 := b_neq rfl (by decide) q73
  by_cases q84 : (V 6 9) = 135
  · refine g_top (v := 135) q84 ?_
    have fq84 : ((V 6 9)).toInt = 135 := b_eq rfl (by decide) q84
    refine lv_tableIn (x := 135) (off := 69) (tgt := 76) hx hb dX1_readStatement_7 (by decide) (by decide) (by decide) (by decide) ?_
    refine lv_aload_n hx hb dX1_readStatement_76 rfl (lv_at hl 0 rfl) ?_
    refine lv_iconst (v := 1) hx hb dX1_readStatement_77 (by decide) ?_
    have r85 : Int32.toInt 1 = 1 := by decide
    refine gA_int (gA_runV (As := [.int 1]) (rest := []) (ci := 1) (q0 := 1) hx hb hml hown hg hP hD hK hS hA hnw hgk (x_wrong l D ks H.size ad kk V L Z 1 hMV (by decide)) w867 w869 w6 w162 w870 rfl xgReader hdV_yX1_wrong ⟨Nat.le_of_ble_eq_true rfl, Nat.le_of_ble_eq_true rfl⟩ rfl hl.1 rfl (Nat.le_of_ble_eq_true rfl) dX1_readStatement_78 ⟨Nat.le_of_ble_eq_true rfl, Nat.le_of_ble_eq_true rfl⟩) hP hD hK hS hA (fun z86 u87 H locs w88 hP hD hK hS => ?_)
    obtain ⟨V90, L91⟩ := u87
    obtain ⟨hMV90, ajV90, axL91, rgz86, t89⟩ := w88
    have axL91 : L = L91 := Eq.symm axL91
    subst axL91
    have hP : va_P D vwCl (xw ad kk V90 L Z) H := hP
    have hD : va_D A (xw ad kk V90 L Z) := hD
    have hMV90 : rgd bX V90 := hMV90
    have ajV90 : agr [(1, 3)] [] V V90 := ajV90
    have agV90 : agr [(1, 2), (1, 3), (1, 4), (1, 6), (1, 7), (1, 8), (6, 8), (6, 9), (6, 10)] [41, 42, 43, 44, 45, 46, 47, 48, 49, 50, 51, 52, 53, 54, 55, 56, 57, 61, 62, 63, 64, 65, 66] V V90 := agV.tr ajV90 (by decide) (by decide)
    have fwV90 : frX (xR b) V V90 := frX.tr fwV (frX.ag ajV90 (by decide) (by decide))
    have rgz86 : 0 ≤ z86.toInt ∧ z86.toInt ≤ 0 := rgz86
    have t89 : 1 ≤ (V90 1 3).toInt := t89
    have pq92 : (V90 1 2).toInt = ((V 1 2)).toInt := congrArg Int32.toInt (ajV90 1 2 rfl)
    have cd93 : CD V90 b := ⟨CB.ag cd.1 (show agr [(1, 3)] [] V V90 from (agr.tr agr.rf ajV90 (by decide) (by decide))) (fun _ => rfl) (fun _ => rfl), CO.ag cd.2 (show agr [(1, 3)] [] V V90 from (agr.tr agr.rf ajV90 (by decide) (by decide))) (fun _ => rfl) (fun _ => rfl)⟩
    have p094 : p0x V V90 b := p0x.tr (p0x.rf : p0x V V b) (p0x.ag (show agr [(1, 3)] [] V V90 from (agr.tr agr.rf ajV90 (by decide) (by decide))) (fun _ => rfl) (fun _ => rfl))
    exact W.zret (v := z86) hx hb hr (nb_ok (by omega)) (fun t ht hW => ⟨⟨z86, (V90, L), rfl, ⟨hMV90, agV90, alL, fwV90, (show 0 ≤ z86.toInt ∧ z86.toInt ≤ 1 from by first | exact om_641b3f05f166 rgz86.1 rgz86.2 | first | omega | ((try (have i_tx := Imp.go tx (by omega))); (try (have i_cd := Imp.go cd (by omega))); (try (have i_cd := Imp.go cd (by omega))); (try (have i_tx := Imp.go tx (by omega))); omega)), (Imp.mk (fun hp => by exfalso; omega)), cd93, p094, (show (V90 1 2).toInt = (V 1 2).toInt ∨ (24 * (b : Int) ≤ (V90 1 2).toInt ∧ (V90 1 2).toInt < 24 * (b : Int) + 24) from by first | exact om_a7db56e9fc7a pq92 | first | omega | ((try (have i_tx := Imp.go tx (by omega))); (try (have i_cd := Imp.go cd (by omega))); (try (have i_cd := Imp.go cd (by omega))); (try (have i_tx := Imp.go tx (by omega))); omega)), (Imp.mk (fun hp => have hp : z86.toInt = 0 := hp; (show 1 ≤ (V90 1 3).toInt from by first | exact om_f8d8213eda45 t89 | first | omega | ((try (have i_tx := Imp.go tx (by omega))); (try (have i_cd := Imp.go cd (by omega))); (try (have i_cd := Imp.go cd (by omega))); (try (have i_tx := Imp.go tx (by omega))); omega))))⟩, by rw [ht]; exact hP, va_K.moved hW.alike hK, hD⟩, hS.F ht⟩) hS.2.2 dX1_readStatement_81
  have gq84 : ((V 6 9)).toInt ≠ 135 := b_neq rfl (by decide) q84
  by_cases q95 : (V 6 9) = 136
  · refine g_top (v := 136) q95 ?_
    have fq95 : ((V 6 9)).toInt = 136 := b_eq rfl (by decide) q95
    refine lv_tableIn (x := 136) (off := 64) (tgt := 71) hx hb dX1_readStatement_7 (by decide) (by decide) (by decide) (by decide) ?_
    refine lv_aload_n hx hb dX1_readStatement_71 rfl (lv_at hl 0 rfl) ?_
    refine gA_int (gA_runV (As := []) (rest := []) (ci := 1) (q0 := 1) hx hb hml hown hg hP hD hK hS hA hnw hgk (x_readWrap l D ks H.size ad kk V L Z (b) hMV (show b < 2 from by first | exact om_f940a4667dd6 hb2 | first | omega | ((try (have i_tx := Imp.go tx (by omega))); (try (have i_cd := Imp.go cd (by omega))); (try (have i_cd := Imp.go cd (by omega))); (try (have i_tx := Imp.go tx (by omega))); omega)) (show (V 1 1).toInt = (b : Int) from by first | exact om_08e0c9701055 rbk | first | omega | ((try (have i_tx := Imp.go tx (by omega))); (try (have i_cd := Imp.go cd (by omega))); (try (have i_cd := Imp.go cd (by omega))); (try (have i_tx := Imp.go tx (by omega))); omega)) cd tx) w935 w937 w18 w162 w938 rfl xgReader hdV_yX1_readWrap ⟨Nat.le_of_ble_eq_true rfl, Nat.le_of_ble_eq_true rfl⟩ rfl hl.1 rfl (Nat.le_of_ble_eq_true rfl) dX1_readStatement_72 ⟨Nat.le_of_ble_eq_true rfl, Nat.le_of_ble_eq_true rfl⟩) hP hD hK hS hA (fun z96 u97 H locs w98 hP hD hK hS => ?_)
    obtain ⟨V103, L104⟩ := u97
    obtain ⟨hMV103, ajV103, axL104, fyV103, rgz96, t99, t100, t101, t102⟩ := w98
    have alL104 : agL [1, 6, 44] L L104 := agL.tr alL axL104 (by decide)
    have hP : va_P D vwCl (xw ad kk V103 L104 Z) H := hP
    have hD : va_D A (xw ad kk V103 L104 Z) := hD
    have hMV103 : rgd bX V103 := hMV103
    have ajV103 : agr [(1, 3), (1, 4), (1, 6), (1, 8), (6, 8), (6, 9), (6, 10)] [41, 42, 43, 44, 47, 48, 62, 63, 64, 65, 66] V V103 := ajV103
    have agV103 : agr [(1, 2), (1, 3), (1, 4), (1, 6), (1, 7), (1, 8), (6, 8), (6, 9), (6, 10)] [41, 42, 43, 44, 45, 46, 47, 48, 49, 50, 51, 52, 53, 54, 55, 56, 57, 61, 62, 63, 64, 65, 66] V V103 := agV.tr ajV103 (by decide) (by decide)
    have fwV103 : frX (xR b) V V103 := frX.tr fwV (fyV103)
    have rgz96 : 0 ≤ z96.toInt ∧ z96.toInt ≤ 1 := rgz96
    have t99 : TX V103 b := t99
    have t100 : CD V103 b := t100
    have t101 : px V V103 b := t101
    have t102 : Imp (z96.toInt = 0) (1 ≤ (V103 1 3).toInt) := t102
    have pq105 : (V103 1 2).toInt = ((V 1 2)).toInt := congrArg Int32.toInt (ajV103 1 2 rfl)
    have p0106 : p0x V V103 b := p0x.tr (p0x.rf : p0x V V b) t101.1
    exact W.zret (v := z96) hx hb hr (nb_ok (by omega)) (fun t ht hW => ⟨⟨z96, (V103, L104), rfl, ⟨hMV103, agV103, alL104, fwV103, (show 0 ≤ z96.toInt ∧ z96.toInt ≤ 1 from by first | exact om_eb7af9d60398 rgz96.1 rgz96.2 | first | omega | ((try (have i_t102 := Imp.go t102 (by omega))); (try (have i_tx := Imp.go tx (by omega))); (try (have i_cd := Imp.go cd (by omega))); (try (have i_cd := Imp.go cd (by omega))); (try (have i_tx := Imp.go tx (by omega))); (try (have i_t102 := Imp.go t102 (by omega))); omega)), (Imp.mk (fun _ => t99)), t100, p0106, (show (V103 1 2).toInt = (V 1 2).toInt ∨ (24 * (b : Int) ≤ (V103 1 2).toInt ∧ (V103 1 2).toInt < 24 * (b : Int) + 24) from by first | exact om_a7db56e9fc7a pq105 | first | omega | ((try (have i_t102 := Imp.go t102 (by omega))); (try (have i_tx := Imp.go tx (by omega))); (try (have i_cd := Imp.go cd (by omega))); (try (have i_cd := Imp.go cd (by omega))); (try (have i_tx := Imp.go tx (by omega))); (try (have i_t102 := Imp.go t102 (by omega))); omega)), (Imp.mk (fun hp => have hp : z96.toInt = 0 := hp; (show 1 ≤ (V103 1 3).toInt from by first | exact om_f8d8213eda45 ((Imp.go t102 (hp))) | first | omega | ((try (have i_t102 := Imp.go t102 (by omega))); (try (have i_tx := Imp.go tx (by omega))); (try (have i_cd := Imp.go cd (by omega))); (try (have i_cd := Imp.go cd (by omega))); (try (have i_tx := Imp.go tx (by omega))); (try (have i_t102 := Imp.go t102 (by omega))); omega))))⟩, by rw [ht]; exact hP, va_K.moved hW.alike hK, hD⟩, hS.F ht⟩) hS.2.2 dX1_readStatement_75
  have gq95 : ((V 6 9)).toInt ≠ 136 := b_neq rfl (by decide) q95
  refine lv_tableOut (x := (V 6 9)) (tgt := 76) hx hb dX1_readStatement_7 (by omega) (by decide) ?_
  refine lv_aload_n hx hb dX1_readStatement_76 rfl (lv_at hl 0 rfl) ?_
  refine lv_iconst (v := 1) hx hb dX1_readStatement_77 (by decide) ?_
  have r107 : Int32.toInt 1 = 1 := by decide
  refine gA_int (gA_runV (As := [.int 1]) (rest := []) (ci := 1) (q0 := 1) hx hb hml hown hg hP hD hK hS hA hnw hgk (x_wrong l D ks H.size ad kk V L Z 1 hMV (by decide)) w867 w869 w6 w162 w870 rfl xgReader hdV_yX1_wrong ⟨Nat.le_of_ble_eq_true rfl, Nat.le_of_ble_eq_true rfl⟩ rfl hl.1 rfl (Nat.le_of_ble_eq_true rfl) dX1_readStatement_78 ⟨Nat.le_of_ble_eq_true rfl, Nat.le_of_ble_eq_true rfl⟩) hP hD hK hS hA (fun z108 u109 H locs w110 hP hD hK hS => ?_)
  obtain ⟨V112, L113⟩ := u109
  obtain ⟨hMV112, ajV112, axL113, rgz108, t111⟩ := w110
  have axL113 : L = L113 := Eq.symm axL113
  subst axL113
  have hP : va_P D vwCl (xw ad kk V112 L Z) H := hP
  have hD : va_D A (xw ad kk V112 L Z) := hD
  have hMV112 : rgd bX V112 := hMV112
  have ajV112 : agr [(1, 3)] [] V V112 := ajV112
  have agV112 : agr [(1, 2), (1, 3), (1, 4), (1, 6), (1, 7), (1, 8), (6, 8), (6, 9), (6, 10)] [41, 42, 43, 44, 45, 46, 47, 48, 49, 50, 51, 52, 53, 54, 55, 56, 57, 61, 62, 63, 64, 65, 66] V V112 := agV.tr ajV112 (by decide) (by decide)
  have fwV112 : frX (xR b) V V112 := frX.tr fwV (frX.ag ajV112 (by decide) (by decide))
  have rgz108 : 0 ≤ z108.toInt ∧ z108.toInt ≤ 0 := rgz108
  have t111 : 1 ≤ (V112 1 3).toInt := t111
  have pq114 : (V112 1 2).toInt = ((V 1 2)).toInt := congrArg Int32.toInt (ajV112 1 2 rfl)
  have cd115 : CD V112 b := ⟨CB.ag cd.1 (show agr [(1, 3)] [] V V112 from (agr.tr agr.rf ajV112 (by decide) (by decide))) (fun _ => rfl) (fun _ => rfl), CO.ag cd.2 (show agr [(1, 3)] [] V V112 from (agr.tr agr.rf ajV112 (by decide) (by decide))) (fun _ => rfl) (fun _ => rfl)⟩
  have p0116 : p0x V V112 b := p0x.tr (p0x.rf : p0x V V b) (p0x.ag (show agr [(1, 3)] [] V V112 from (agr.tr agr.rf ajV112 (by decide) (by decide))) (fun _ => rfl) (fun _ => rfl))
  exact W.zret (v := z108) hx hb hr (nb_ok (by omega)) (fun t ht hW => ⟨⟨z108, (V112, L), rfl, ⟨hMV112, agV112, alL, fwV112, (show 0 ≤ z108.toInt ∧ z108.toInt ≤ 1 from by first | exact om_641b3f05f166 rgz108.1 rgz108.2 | first | omega | ((try (have i_tx := Imp.go tx (by omega))); (try (have i_cd := Imp.go cd (by omega))); (try (have i_cd := Imp.go cd (by omega))); (try (have i_tx := Imp.go tx (by omega))); omega)), (Imp.mk (fun hp => by exfalso; omega)), cd115, p0116, (show (V112 1 2).toInt = (V 1 2).toInt ∨ (24 * (b : Int) ≤ (V112 1 2).toInt ∧ (V112 1 2).toInt < 24 * (b : Int) + 24) from by first | exact om_a7db56e9fc7a pq114 | first | omega | ((try (have i_tx := Imp.go tx (by omega))); (try (have i_cd := Imp.go cd (by omega))); (try (have i_cd := Imp.go cd (by omega))); (try (have i_tx := Imp.go tx (by omega))); omega)), (Imp.mk (fun hp => have hp : z108.toInt = 0 := hp; (show 1 ≤ (V112 1 3).toInt from by first | exact om_f8d8213eda45 t111 | first | omega | ((try (have i_tx := Imp.go tx (by omega))); (try (have i_cd := Imp.go cd (by omega))); (try (have i_cd := Imp.go cd (by omega))); (try (have i_tx := Imp.go tx (by omega))); omega))))⟩, by rw [ht]; exact hP, va_K.moved hW.alike hK, hD⟩, hS.F ht⟩) hS.2.2 dX1_readStatement_81
end
section
theorem w1145 : Cond.constant RJ6 264 65536 ∈ GW := gw_k tk9_5 30 (by decide +kernel) rfl
theorem w1451 : Cond.methodLink RX0 101 yX0_candidates ∈ GW := gw_k tk9_6 96 (by decide +kernel) rfl
theorem w1144 : Cond.code yJ6_numberOfTrailingZeros_0f7a4 cJ6_numberOfTrailingZeros_0f7a4 2 (some .int) ∈ GW := gw_k tk9_5 29 (rfl) rfl
theorem w1452 : Cond.methodLink RX0 105 yJ6_numberOfTrailingZeros_0f7a4 ∈ GW := gw_k tk9_6 97 (by decide +kernel) rfl
theorem w1143 : Cond.static yJ6_numberOfTrailingZeros_0f7a4 ∈ GW := gw_k tk9_5 28 (by decide +kernel) rfl
theorem hdS_yJ6_numberOfTrailingZeros_0f7a4 : yJ6_numberOfTrailingZeros_0f7a4.cls ≠ "java/lang/invoke/MethodHandle" ∧ yJ6_numberOfTrailingZeros_0f7a4.cls ≠ "java/lang/invoke/VarHandle" ∧ (parseMethodDescriptor yJ6_numberOfTrailingZeros_0f7a4.desc).map (fun d => d.parameters.length) = some 1 := by decide +kernel
theorem w724 : Cond.fieldLink RX11 93 "WiringHouse" "ending" "I" ∈ GW := gw_k tk9_3 89 (by decide +kernel) rfl
theorem w719 : Cond.fieldLink RX11 42 "WiringHouse" "notes" "LWiringHouse$Notes;" ∈ GW := gw_k tk9_3 84 (by decide +kernel) rfl
theorem w1557 : Cond.code yX7_kindOfCause cX7_kindOfCause 2 (some .int) ∈ GW := gw_k tk9_6 202 (rfl) rfl
theorem w1554 : Cond.methodLink RX11 248 yX7_kindOfCause ∈ GW := gw_k tk9_6 199 (by decide +kernel) rfl
theorem w166 : Cond.initialized RX7 ∈ GW := gw_k tk9_1 11 (by decide +kernel) rfl
theorem w1555 : Cond.instanceMethod yX7_kindOfCause ∈ GW := gw_k tk9_6 200 (by decide +kernel) rfl
theorem w1556 : Cond.selects RX7 yX7_kindOfCause yX7_kindOfCause ∈ GW := gw_k tk9_6 201 (by decide +kernel) rfl
theorem hdV_yX7_kindOfCause : yX7_kindOfCause.cls = RX7 ∧ yX7_kindOfCause.cls ≠ "java/lang/invoke/MethodHandle" ∧ yX7_kindOfCause.cls ≠ "java/lang/invoke/VarHandle" ∧ (parseMethodDescriptor yX7_kindOfCause.desc).map (fun d => d.parameters.length) = some 1 := by decide +kernel
theorem w717 : Cond.fieldLink RX11 28 "WiringHouse" "checker" "LWiringHouse$Checker;" ∈ GW := gw_k tk9_3 82 (by decide +kernel) rfl
theorem w1120 : Cond.code yX2_tell cX2_tell 3 (some .int) ∈ GW := gw_k tk9_5 5 (rfl) rfl
theorem w1117 : Cond.methodLink RX11 129 yX2_tell ∈ GW := gw_k tk9_5 2 (by decide +kernel) rfl
theorem w1118 : Cond.instanceMethod yX2_tell ∈ GW := gw_k tk9_5 3 (by decide +kernel) rfl
theorem w1119 : Cond.selects RX2 yX2_tell yX2_tell ∈ GW := gw_k tk9_5 4 (by decide +kernel) rfl
theorem hdV_yX2_tell : yX2_tell.cls = RX2 ∧ yX2_tell.cls ≠ "java/lang/invoke/MethodHandle" ∧ yX2_tell.cls ≠ "java/lang/invoke/VarHandle" ∧ (parseMethodDescriptor yX2_tell.desc).map (fun d => d.parameters.length) = some 2 := by decide +kernel
theorem w1132 : Cond.code yX2_onRing cX2_onRing 4 (some .int) ∈ GW := gw_k tk9_5 17 (rfl) rfl
theorem w1129 : Cond.methodLink RX11 133 yX2_onRing ∈ GW := gw_k tk9_5 14 (by decide +kernel) rfl
theorem w1130 : Cond.instanceMethod yX2_onRing ∈ GW := gw_k tk9_5 15 (by decide +kernel) rfl
theorem w1131 : Cond.selects RX2 yX2_onRing yX2_onRing ∈ GW := gw_k tk9_5 16 (by decide +kernel) rfl
theorem hdV_yX2_onRing : yX2_onRing.cls = RX2 ∧ yX2_onRing.cls ≠ "java/lang/invoke/MethodHandle" ∧ yX2_onRing.cls ≠ "java/lang/invoke/VarHandle" ∧ (parseMethodDescriptor yX2_onRing.desc).map (fun d => d.parameters.length) = some 2 := by decide +kernel
theorem w1570 : Cond.code yX7_ofClosing cX7_ofClosing 3 (some .int) ∈ GW := gw_k tk9_6 215 (rfl) rfl
theorem w1567 : Cond.methodLink RX11 268 yX7_ofClosing ∈ GW := gw_k tk9_6 212 (by decide +kernel) rfl
theorem w1568 : Cond.instanceMethod yX7_ofClosing ∈ GW := gw_k tk9_6 213 (by decide +kernel) rfl
theorem w1569 : Cond.selects RX7 yX7_ofClosing yX7_ofClosing ∈ GW := gw_k tk9_6 214 (by decide +kernel) rfl
theorem hdV_yX7_ofClosing : yX7_ofClosing.cls = RX7 ∧ yX7_ofClosing.cls ≠ "java/lang/invoke/MethodHandle" ∧ yX7_ofClosing.cls ≠ "java/lang/invoke/VarHandle" ∧ (parseMethodDescriptor yX7_ofClosing.desc).map (fun d => d.parameters.length) = some 2 := by decide +kernel
theorem w1584 : Cond.code yX7_ofThing cX7_ofThing 3 (some .int) ∈ GW := gw_k tk9_6 229 (rfl) rfl
theorem w1581 : Cond.methodLink RX11 278 yX7_ofThing ∈ GW := gw_k tk9_6 226 (by decide +kernel) rfl
theorem w1582 : Cond.instanceMethod yX7_ofThing ∈ GW := gw_k tk9_6 227 (by decide +kernel) rfl
theorem w1583 : Cond.selects RX7 yX7_ofThing yX7_ofThing ∈ GW := gw_k tk9_6 228 (by decide +kernel) rfl
theorem hdV_yX7_ofThing : yX7_ofThing.cls = RX7 ∧ yX7_ofThing.cls ≠ "java/lang/invoke/MethodHandle" ∧ yX7_ofThing.cls ≠ "java/lang/invoke/VarHandle" ∧ (parseMethodDescriptor yX7_ofThing.desc).map (fun d => d.parameters.length) = some 2 := by decide +kernel
theorem w718 : Cond.fieldLink RX11 35 "WiringHouse" "stock" "LWiringHouse$Stock;" ∈ GW := gw_k tk9_3 83 (by decide +kernel) rfl
theorem w1442 : Cond.code yX8_joinedTo cX8_joinedTo 6 (some .int) ∈ GW := gw_k tk9_6 87 (rfl) rfl
theorem w1562 : Cond.methodLink RX11 264 yX8_joinedTo ∈ GW := gw_k tk9_6 207 (by decide +kernel) rfl
theorem w1440 : Cond.instanceMethod yX8_joinedTo ∈ GW := gw_k tk9_6 85 (by decide +kernel) rfl
theorem w1441 : Cond.selects RX8 yX8_joinedTo yX8_joinedTo ∈ GW := gw_k tk9_6 86 (by decide +kernel) rfl
theorem hdV_yX8_joinedTo : yX8_joinedTo.cls = RX8 ∧ yX8_joinedTo.cls ≠ "java/lang/invoke/MethodHandle" ∧ yX8_joinedTo.cls ≠ "java/lang/invoke/VarHandle" ∧ (parseMethodDescriptor yX8_joinedTo.desc).map (fun d => d.parameters.length) = some 3 := by decide +kernel
theorem w723 : Cond.fieldLink RX11 89 "WiringHouse" "ready" "Z" ∈ GW := gw_k tk9_3 88 (by decide +kernel) rfl
theorem w721 : Cond.fieldLink RX11 49 "WiringHouse" "shelf" "LWiringHouse$Book;" ∈ GW := gw_k tk9_3 86 (by decide +kernel) rfl
theorem n598 : lw_tbl[598]? = some (Cond.fieldLinkNest RX11 113 "WiringHouse$Book" "settings" "LWiringHouse$Names;" "WiringHouse") := la9 (n := 155) (i := 443) lz9 (la9 (n := 240) (i := 203) ln9_1 (lb9 (i := 203) (by decide +kernel)))
theorem n483 : lw_tbl[483]? = some (Cond.fieldLinkNest RX11 117 "WiringHouse$Names" "size" "I" "WiringHouse") := la9 (n := 155) (i := 328) lz9 (la9 (n := 240) (i := 88) ln9_1 (lb9 (i := 88) (by decide +kernel)))
theorem n611 : lw_tbl[611]? = some (Cond.fieldLinkNest RX11 122 "WiringHouse$Book" "settingValues" "[I" "WiringHouse") := la9 (n := 155) (i := 456) lz9 (la9 (n := 240) (i := 216) ln9_1 (lb9 (i := 216) (by decide +kernel)))
theorem w1140 : Cond.code yX0_has cX0_has 2 (some .boolean) ∈ GW := gw_k tk9_5 25 (rfl) rfl
theorem w1137 : Cond.methodLink RX11 136 yX0_has ∈ GW := gw_k tk9_5 22 (by decide +kernel) rfl
theorem w1138 : Cond.instanceMethod yX0_has ∈ GW := gw_k tk9_5 23 (by decide +kernel) rfl
theorem w1139 : Cond.selects RX0 yX0_has yX0_has ∈ GW := gw_k tk9_5 24 (by decide +kernel) rfl
theorem hdV_yX0_has : yX0_has.cls = RX0 ∧ yX0_has.cls ≠ "java/lang/invoke/MethodHandle" ∧ yX0_has.cls ≠ "java/lang/invoke/VarHandle" ∧ (parseMethodDescriptor yX0_has.desc).map (fun d => d.parameters.length) = some 1 := by decide +kernel
theorem n617 : lw_tbl[617]? = some (Cond.fieldLinkNest RX11 147 "WiringHouse$Book" "components" "[LWiringHouse$Component;" "WiringHouse") := la9 (n := 155) (i := 462) lz9 (la9 (n := 240) (i := 222) ln9_1 (lb9 (i := 222) (by decide +kernel)))
theorem n512 : lw_tbl[512]? = some (Cond.fieldLinkNest RX11 162 "WiringHouse$Component" "needs" "I" "WiringHouse") := la9 (n := 155) (i := 357) lz9 (la9 (n := 240) (i := 117) ln9_1 (lb9 (i := 117) (by decide +kernel)))
theorem w1141 : Cond.methodLink RX11 170 yX0_candidates ∈ GW := gw_k tk9_5 26 (by decide +kernel) rfl
theorem w1142 : Cond.methodLink RX11 173 yJ6_numberOfTrailingZeros_0f7a4 ∈ GW := gw_k tk9_5 27 (by decide +kernel) rfl
theorem w1153 : Cond.code yX8_open cX8_open 3 (some .int) ∈ GW := gw_k tk9_5 38 (rfl) rfl
theorem w1150 : Cond.methodLink RX11 179 yX8_open ∈ GW := gw_k tk9_5 35 (by decide +kernel) rfl
theorem w1151 : Cond.instanceMethod yX8_open ∈ GW := gw_k tk9_5 36 (by decide +kernel) rfl
theorem w1152 : Cond.selects RX8 yX8_open yX8_open ∈ GW := gw_k tk9_5 37 (by decide +kernel) rfl
theorem hdV_yX8_open : yX8_open.cls = RX8 ∧ yX8_open.cls ≠ "java/lang/invoke/MethodHandle" ∧ yX8_open.cls ≠ "java/lang/invoke/VarHandle" ∧ (parseMethodDescriptor yX8_open.desc).map (fun d => d.parameters.length) = some 2 := by decide +kernel
theorem w1161 : Cond.code yX8_isOpen cX8_isOpen 2 (some .boolean) ∈ GW := gw_k tk9_5 46 (rfl) rfl
theorem w1158 : Cond.methodLink RX11 182 yX8_isOpen ∈ GW := gw_k tk9_5 43 (by decide +kernel) rfl
theorem w1159 : Cond.instanceMethod yX8_isOpen ∈ GW := gw_k tk9_5 44 (by decide +kernel) rfl
theorem w1160 : Cond.selects RX8 yX8_isOpen yX8_isOpen ∈ GW := gw_k tk9_5 45 (by decide +kernel) rfl
theorem hdV_yX8_isOpen : yX8_isOpen.cls = RX8 ∧ yX8_isOpen.cls ≠ "java/lang/invoke/MethodHandle" ∧ yX8_isOpen.cls ≠ "java/lang/invoke/VarHandle" ∧ (parseMethodDescriptor yX8_isOpen.desc).map (fun d => d.parameters.length) = some 1 := by decide +kernel
theorem n374 : lw_tbl[374]? = some (Cond.fieldLinkNest RX11 185 "WiringHouse$Stock" "scopeKinds" "[I" "WiringHouse") := la9 (n := 155) (i := 219) lz9 (lb9 (i := 219) (by decide +kernel))
theorem n521 : lw_tbl[521]? = some (Cond.fieldLinkNest RX11 151 "WiringHouse$Component" "scope" "I" "WiringHouse") := la9 (n := 155) (i := 366) lz9 (la9 (n := 240) (i := 126) ln9_1 (lb9 (i := 126) (by decide +kernel)))
theorem w1268 : Cond.code yX8_placeOf cX8_placeOf 4 (some .int) ∈ GW := gw_k tk9_5 153 (rfl) rfl
theorem w1575 : Cond.methodLink RX11 271 yX8_placeOf ∈ GW := gw_k tk9_6 220 (by decide +kernel) rfl
theorem w1266 : Cond.instanceMethod yX8_placeOf ∈ GW := gw_k tk9_5 151 (by decide +kernel) rfl
theorem w1267 : Cond.selects RX8 yX8_placeOf yX8_placeOf ∈ GW := gw_k tk9_5 152 (by decide +kernel) rfl
theorem hdV_yX8_placeOf : yX8_placeOf.cls = RX8 ∧ yX8_placeOf.cls ≠ "java/lang/invoke/MethodHandle" ∧ yX8_placeOf.cls ≠ "java/lang/invoke/VarHandle" ∧ (parseMethodDescriptor yX8_placeOf.desc).map (fun d => d.parameters.length) = some 2 := by decide +kernel
theorem w1272 : Cond.code yX8_isSpoiled cX8_isSpoiled 3 (some .boolean) ∈ GW := gw_k tk9_5 157 (rfl) rfl
theorem w1576 : Cond.methodLink RX11 274 yX8_isSpoiled ∈ GW := gw_k tk9_6 221 (by decide +kernel) rfl
theorem w1270 : Cond.instanceMethod yX8_isSpoiled ∈ GW := gw_k tk9_5 155 (by decide +kernel) rfl
theorem w1271 : Cond.selects RX8 yX8_isSpoiled yX8_isSpoiled ∈ GW := gw_k tk9_5 156 (by decide +kernel) rfl
theorem hdV_yX8_isSpoiled : yX8_isSpoiled.cls = RX8 ∧ yX8_isSpoiled.cls ≠ "java/lang/invoke/MethodHandle" ∧ yX8_isSpoiled.cls ≠ "java/lang/invoke/VarHandle" ∧ (parseMethodDescriptor yX8_isSpoiled.desc).map (fun d => d.parameters.length) = some 2 := by decide +kernel
theorem n595 : lw_tbl[595]? = some (Cond.fieldLinkNest RX11 281 "WiringHouse$Book" "types" "LWiringHouse$Names;" "WiringHouse") := la9 (n := 155) (i := 440) lz9 (la9 (n := 240) (i := 200) ln9_1 (lb9 (i := 200) (by decide +kernel)))
theorem n602 : lw_tbl[602]? = some (Cond.fieldLinkNest RX11 284 "WiringHouse$Book" "names" "LWiringHouse$Names;" "WiringHouse") := la9 (n := 155) (i := 447) lz9 (la9 (n := 240) (i := 207) ln9_1 (lb9 (i := 207) (by decide +kernel)))
theorem n604 : lw_tbl[604]? = some (Cond.fieldLinkNest RX11 218 "WiringHouse$Book" "methods" "LWiringHouse$Names;" "WiringHouse") := la9 (n := 155) (i := 449) lz9 (la9 (n := 240) (i := 209) ln9_1 (lb9 (i := 209) (by decide +kernel)))
theorem n627 : lw_tbl[627]? = some (Cond.fieldLinkNest RX11 287 "WiringHouse$Book" "wrapCount" "I" "WiringHouse") := la9 (n := 155) (i := 472) lz9 (la9 (n := 240) (i := 232) ln9_1 (lb9 (i := 232) (by decide +kernel)))
theorem w1592 : Cond.code yX8_openScopes cX8_openScopes 3 (some .int) ∈ GW := gw_k tk9_6 237 (rfl) rfl
theorem w1589 : Cond.methodLink RX11 290 yX8_openScopes ∈ GW := gw_k tk9_6 234 (by decide +kernel) rfl
theorem w1590 : Cond.instanceMethod yX8_openScopes ∈ GW := gw_k tk9_6 235 (by decide +kernel) rfl
theorem w1591 : Cond.selects RX8 yX8_openScopes yX8_openScopes ∈ GW := gw_k tk9_6 236 (by decide +kernel) rfl
theorem hdV_yX8_openScopes : yX8_openScopes.cls = RX8 ∧ yX8_openScopes.cls ≠ "java/lang/invoke/MethodHandle" ∧ yX8_openScopes.cls ≠ "java/lang/invoke/VarHandle" ∧ (parseMethodDescriptor yX8_openScopes.desc).map (fun d => d.parameters.length) = some 0 := by decide +kernel
theorem n392 : lw_tbl[392]? = some (Cond.fieldLinkNest RX11 293 "WiringHouse$Stock" "objectCount" "I" "WiringHouse") := la9 (n := 155) (i := 237) lz9 (lb9 (i := 237) (by decide +kernel))
theorem w1596 : Cond.code yX8_madeObjects cX8_madeObjects 3 (some .int) ∈ GW := gw_k tk9_7 1 (rfl) rfl
theorem w1593 : Cond.methodLink RX11 296 yX8_madeObjects ∈ GW := gw_k tk9_6 238 (by decide +kernel) rfl
theorem w1594 : Cond.instanceMethod yX8_madeObjects ∈ GW := gw_k tk9_6 239 (by decide +kernel) rfl
theorem w1595 : Cond.selects RX8 yX8_madeObjects yX8_madeObjects ∈ GW := gw_k tk9_7 0 (by decide +kernel) rfl
theorem hdV_yX8_madeObjects : yX8_madeObjects.cls = RX8 ∧ yX8_madeObjects.cls ≠ "java/lang/invoke/MethodHandle" ∧ yX8_madeObjects.cls ≠ "java/lang/invoke/VarHandle" ∧ (parseMethodDescriptor yX8_madeObjects.desc).map (fun d => d.parameters.length) = some 0 := by decide +kernel
theorem w720 : Cond.fieldLink RX11 61 "WiringHouse" "machine" "LWiringHouse$Machine;" ∈ GW := gw_k tk9_3 85 (by decide +kernel) rfl
theorem n683 : lw_tbl[683]? = some (Cond.fieldLinkNest RX11 299 "WiringHouse$Machine" "stepsInAll" "I" "WiringHouse") := la9 (n := 155) (i := 528) lz9 (la9 (n := 240) (i := 288) ln9_1 (la9 (n := 240) (i := 48) ln9_2 (lb9 (i := 48) (by decide +kernel))))
theorem n681 : lw_tbl[681]? = some (Cond.fieldLinkNest RX11 302 "WiringHouse$Machine" "stepsNow" "I" "WiringHouse") := la9 (n := 155) (i := 526) lz9 (la9 (n := 240) (i := 286) ln9_1 (la9 (n := 240) (i := 46) ln9_2 (lb9 (i := 46) (by decide +kernel))))
theorem n346 : lw_tbl[346]? = some (Cond.fieldLinkNest RX11 305 "WiringHouse$Checker" "faults" "I" "WiringHouse") := la9 (n := 155) (i := 191) lz9 (lb9 (i := 191) (by decide +kernel))
theorem w715 : Cond.fieldLink RX11 10 "WiringHouse" "tape" "LWiringHouse$Tape;" ∈ GW := gw_k tk9_3 80 (by decide +kernel) rfl
theorem n257 : lw_tbl[257]? = some (Cond.fieldLinkNest RX11 69 "WiringHouse$Tape" "length" "I" "WiringHouse") := la9 (n := 155) (i := 102) lz9 (lb9 (i := 102) (by decide +kernel))
theorem w1068 : Cond.code yX2_examine cX2_examine 3 (some .int) ∈ GW := gw_k tk9_4 193 (rfl) rfl
theorem w1065 : Cond.methodLink RX11 126 yX2_examine ∈ GW := gw_k tk9_4 190 (by decide +kernel) rfl
theorem w1066 : Cond.instanceMethod yX2_examine ∈ GW := gw_k tk9_4 191 (by decide +kernel) rfl
theorem w1067 : Cond.selects RX2 yX2_examine yX2_examine ∈ GW := gw_k tk9_4 192 (by decide +kernel) rfl
theorem hdV_yX2_examine : yX2_examine.cls = RX2 ∧ yX2_examine.cls ≠ "java/lang/invoke/MethodHandle" ∧ yX2_examine.cls ≠ "java/lang/invoke/VarHandle" ∧ (parseMethodDescriptor yX2_examine.desc).map (fun d => d.parameters.length) = some 1 := by decide +kernel
theorem w673 : Cond.fieldLink RX5 39 "WiringHouse$Machine" "depth" "I" ∈ GW := gw_k tk9_3 38 (by decide +kernel) rfl
theorem w674 : Cond.fieldLink RX5 43 "WiringHouse$Machine" "top" "I" ∈ GW := gw_k tk9_3 39 (by decide +kernel) rfl
theorem w675 : Cond.fieldLink RX5 46 "WiringHouse$Machine" "madeCount" "I" ∈ GW := gw_k tk9_3 40 (by decide +kernel) rfl
theorem w676 : Cond.fieldLink RX5 49 "WiringHouse$Machine" "signal" "I" ∈ GW := gw_k tk9_3 41 (by decide +kernel) rfl
theorem w680 : Cond.fieldLink RX5 52 "WiringHouse$Machine" "stepsNow" "I" ∈ GW := gw_k tk9_3 45 (by decide +kernel) rfl
theorem w668 : Cond.fieldLink RX5 32 "WiringHouse$Machine" "notes" "LWiringHouse$Notes;" ∈ GW := gw_k tk9_3 33 (by decide +kernel) rfl
theorem w678 : Cond.fieldLink RX5 55 "WiringHouse$Machine" "needs" "I" ∈ GW := gw_k tk9_3 43 (by decide +kernel) rfl
theorem w679 : Cond.fieldLink RX5 58 "WiringHouse$Machine" "failure" "I" ∈ GW := gw_k tk9_3 44 (by decide +kernel) rfl
theorem w1169 : Cond.code yX7_noteCause cX7_noteCause 3 none ∈ GW := gw_k tk9_5 54 (rfl) rfl
theorem w1505 : Cond.methodLink RX5 61 yX7_noteCause ∈ GW := gw_k tk9_6 150 (by decide +kernel) rfl
theorem w1167 : Cond.instanceMethod yX7_noteCause ∈ GW := gw_k tk9_5 52 (by decide +kernel) rfl
theorem w1168 : Cond.selects RX7 yX7_noteCause yX7_noteCause ∈ GW := gw_k tk9_5 53 (by decide +kernel) rfl
theorem hdV_yX7_noteCause : yX7_noteCause.cls = RX7 ∧ yX7_noteCause.cls ≠ "java/lang/invoke/MethodHandle" ∧ yX7_noteCause.cls ≠ "java/lang/invoke/VarHandle" ∧ (parseMethodDescriptor yX7_noteCause.desc).map (fun d => d.parameters.length) = some 2 := by decide +kernel
theorem w677 : Cond.fieldLink RX5 67 "WiringHouse$Machine" "answer" "I" ∈ GW := gw_k tk9_3 42 (by decide +kernel) rfl
theorem n1203 : lw_tbl[1203]? = some (Cond.fieldLinkNest RX5 147 "WiringHouse$Frame" "needs" "I" "WiringHouse") := la9 (n := 155) (i := 1048) lz9 (la9 (n := 240) (i := 808) ln9_1 (la9 (n := 240) (i := 568) ln9_2 (la9 (n := 240) (i := 328) ln9_3 (la9 (n := 240) (i := 88) ln9_4 (lb9 (i := 88) (by decide +kernel))))))
theorem n1204 : lw_tbl[1204]? = some (Cond.fieldLinkNest RX5 148 "WiringHouse$Frame" "failure" "I" "WiringHouse") := la9 (n := 155) (i := 1049) lz9 (la9 (n := 240) (i := 809) ln9_1 (la9 (n := 240) (i := 569) ln9_2 (la9 (n := 240) (i := 329) ln9_3 (la9 (n := 240) (i := 89) ln9_4 (lb9 (i := 89) (by decide +kernel))))))
theorem w682 : Cond.fieldLink RX5 149 "WiringHouse$Machine" "stepsInAll" "I" ∈ GW := gw_k tk9_3 47 (by decide +kernel) rfl
theorem w1285 : Cond.constant RX5 152 60000 ∈ GW := gw_k tk9_5 170 (by decide +kernel) rfl
theorem w670 : Cond.fieldLink RX5 17 "WiringHouse$Machine" "values" "[I" ∈ GW := gw_k tk9_3 35 (by decide +kernel) rfl
theorem n1207 : lw_tbl[1207]? = some (Cond.fieldLinkNest RX5 144 "WiringHouse$Frame" "base" "I" "WiringHouse") := la9 (n := 155) (i := 1052) lz9 (la9 (n := 240) (i := 812) ln9_1 (la9 (n := 240) (i := 572) ln9_2 (la9 (n := 240) (i := 332) ln9_3 (la9 (n := 240) (i := 92) ln9_4 (lb9 (i := 92) (by decide +kernel))))))
theorem w1311 : Cond.code yX5_leave cX5_leave 1 none ∈ GW := gw_k tk9_5 196 (rfl) rfl
theorem w1308 : Cond.methodLink RX5 157 yX5_leave ∈ GW := gw_k tk9_5 193 (by decide +kernel) rfl
theorem w171 : Cond.initialized RX5 ∈ GW := gw_k tk9_1 16 (by decide +kernel) rfl
theorem w1310 : Cond.instanceMethod yX5_leave ∈ GW := gw_k tk9_5 195 (by decide +kernel) rfl
theorem w50 : Cond.selects RX5 yX5_leave yX5_leave ∈ GW := gw_mem 50 (by decide +kernel) rfl
theorem hdV_yX5_leave : yX5_leave.cls = RX5 ∧ yX5_leave.cls ≠ "java/lang/invoke/MethodHandle" ∧ yX5_leave.cls ≠ "java/lang/invoke/VarHandle" ∧ (parseMethodDescriptor yX5_leave.desc).map (fun d => d.parameters.length) = some 0 := by decide +kernel
theorem w667 : Cond.fieldLink RX5 28 "WiringHouse$Machine" "stock" "LWiringHouse$Stock;" ∈ GW := gw_k tk9_3 32 (by decide +kernel) rfl
theorem n1192 : lw_tbl[1192]? = some (Cond.fieldLinkNest RX5 100 "WiringHouse$Frame" "object" "I" "WiringHouse") := la9 (n := 155) (i := 1037) lz9 (la9 (n := 240) (i := 797) ln9_1 (la9 (n := 240) (i := 557) ln9_2 (la9 (n := 240) (i := 317) ln9_3 (la9 (n := 240) (i := 77) ln9_4 (lb9 (i := 77) (by decide +kernel))))))
theorem w1351 : Cond.code yX8_finishObject cX8_finishObject 2 none ∈ GW := gw_k tk9_5 236 (rfl) rfl
theorem w1348 : Cond.methodLink RX5 247 yX8_finishObject ∈ GW := gw_k tk9_5 233 (by decide +kernel) rfl
theorem w1349 : Cond.instanceMethod yX8_finishObject ∈ GW := gw_k tk9_5 234 (by decide +kernel) rfl
theorem w1350 : Cond.selects RX8 yX8_finishObject yX8_finishObject ∈ GW := gw_k tk9_5 235 (by decide +kernel) rfl
theorem hdV_yX8_finishObject : yX8_finishObject.cls = RX8 ∧ yX8_finishObject.cls ≠ "java/lang/invoke/MethodHandle" ∧ yX8_finishObject.cls ≠ "java/lang/invoke/VarHandle" ∧ (parseMethodDescriptor yX8_finishObject.desc).map (fun d => d.parameters.length) = some 1 := by decide +kernel
theorem w1307 : Cond.code yX5_answerWith cX5_answerWith 2 none ∈ GW := gw_k tk9_5 192 (rfl) rfl
theorem w1304 : Cond.methodLink RX5 203 yX5_answerWith ∈ GW := gw_k tk9_5 189 (by decide +kernel) rfl
theorem w1306 : Cond.instanceMethod yX5_answerWith ∈ GW := gw_k tk9_5 191 (by decide +kernel) rfl
theorem w49 : Cond.selects RX5 yX5_answerWith yX5_answerWith ∈ GW := gw_mem 49 (by decide +kernel) rfl
theorem hdV_yX5_answerWith : yX5_answerWith.cls = RX5 ∧ yX5_answerWith.cls ≠ "java/lang/invoke/MethodHandle" ∧ yX5_answerWith.cls ≠ "java/lang/invoke/VarHandle" ∧ (parseMethodDescriptor yX5_answerWith.desc).map (fun d => d.parameters.length) = some 1 := by decide +kernel
theorem w671 : Cond.fieldLink RX5 21 "WiringHouse$Machine" "made" "[I" ∈ GW := gw_k tk9_3 36 (by decide +kernel) rfl
theorem w1339 : Cond.code yX8_dropObject cX8_dropObject 3 none ∈ GW := gw_k tk9_5 224 (rfl) rfl
theorem w1336 : Cond.methodLink RX5 250 yX8_dropObject ∈ GW := gw_k tk9_5 221 (by decide +kernel) rfl
theorem w1337 : Cond.instanceMethod yX8_dropObject ∈ GW := gw_k tk9_5 222 (by decide +kernel) rfl
theorem w1338 : Cond.selects RX8 yX8_dropObject yX8_dropObject ∈ GW := gw_k tk9_5 223 (by decide +kernel) rfl
theorem hdV_yX8_dropObject : yX8_dropObject.cls = RX8 ∧ yX8_dropObject.cls ≠ "java/lang/invoke/MethodHandle" ∧ yX8_dropObject.cls ≠ "java/lang/invoke/VarHandle" ∧ (parseMethodDescriptor yX8_dropObject.desc).map (fun d => d.parameters.length) = some 1 := by decide +kernel
theorem w672 : Cond.fieldLink RX5 24 "WiringHouse$Machine" "book" "LWiringHouse$Book;" ∈ GW := gw_k tk9_3 37 (by decide +kernel) rfl
theorem n618 : lw_tbl[618]? = some (Cond.fieldLinkNest RX5 178 "WiringHouse$Book" "components" "[LWiringHouse$Component;" "WiringHouse") := la9 (n := 155) (i := 463) lz9 (la9 (n := 240) (i := 223) ln9_1 (lb9 (i := 223) (by decide +kernel)))
theorem n1193 : lw_tbl[1193]? = some (Cond.fieldLinkNest RX5 103 "WiringHouse$Frame" "component" "I" "WiringHouse") := la9 (n := 155) (i := 1038) lz9 (la9 (n := 240) (i := 798) ln9_1 (la9 (n := 240) (i := 558) ln9_2 (la9 (n := 240) (i := 318) ln9_3 (la9 (n := 240) (i := 78) ln9_4 (lb9 (i := 78) (by decide +kernel))))))
theorem n522 : lw_tbl[522]? = some (Cond.fieldLinkNest RX5 182 "WiringHouse$Component" "scope" "I" "WiringHouse") := la9 (n := 155) (i := 367) lz9 (la9 (n := 240) (i := 127) ln9_1 (lb9 (i := 127) (by decide +kernel)))
theorem n1194 : lw_tbl[1194]? = some (Cond.fieldLinkNest RX5 106 "WiringHouse$Frame" "scope" "I" "WiringHouse") := la9 (n := 155) (i := 1039) lz9 (la9 (n := 240) (i := 799) ln9_1 (la9 (n := 240) (i := 559) ln9_2 (la9 (n := 240) (i := 319) ln9_3 (la9 (n := 240) (i := 79) ln9_4 (lb9 (i := 79) (by decide +kernel))))))
theorem w1343 : Cond.code yX8_spoil cX8_spoil 3 none ∈ GW := gw_k tk9_5 228 (rfl) rfl
theorem w1340 : Cond.methodLink RX5 253 yX8_spoil ∈ GW := gw_k tk9_5 225 (by decide +kernel) rfl
theorem w1341 : Cond.instanceMethod yX8_spoil ∈ GW := gw_k tk9_5 226 (by decide +kernel) rfl
theorem w1342 : Cond.selects RX8 yX8_spoil yX8_spoil ∈ GW := gw_k tk9_5 227 (by decide +kernel) rfl
theorem hdV_yX8_spoil : yX8_spoil.cls = RX8 ∧ yX8_spoil.cls ≠ "java/lang/invoke/MethodHandle" ∧ yX8_spoil.cls ≠ "java/lang/invoke/VarHandle" ∧ (parseMethodDescriptor yX8_spoil.desc).map (fun d => d.parameters.length) = some 2 := by decide +kernel
theorem w1046 : Cond.code yX5_restart cX5_restart 1 none ∈ GW := gw_k tk9_4 171 (rfl) rfl
theorem w1043 : Cond.methodLink RX5 36 yX5_restart ∈ GW := gw_k tk9_4 168 (by decide +kernel) rfl
theorem w1044 : Cond.instanceMethod yX5_restart ∈ GW := gw_k tk9_4 169 (by decide +kernel) rfl
theorem w1045 : Cond.selects RX5 yX5_restart yX5_restart ∈ GW := gw_k tk9_4 170 (by decide +kernel) rfl
theorem hdV_yX5_restart : yX5_restart.cls = RX5 ∧ yX5_restart.cls ≠ "java/lang/invoke/MethodHandle" ∧ yX5_restart.cls ≠ "java/lang/invoke/VarHandle" ∧ (parseMethodDescriptor yX5_restart.desc).map (fun d => d.parameters.length) = some 0 := by decide +kernel
theorem dk9_dJ6_numberOfTrailingZeros_0f7a4_0_0 : dOk cJ6_numberOfTrailingZeros_0f7a4 [(0, .iload_n 0, 1), (1, .iconst (-1), 1), (2, .ixor, 1), (3, .iload_n 0, 1), (4, .iconst 1, 1), (5, .isub, 1), (6, .iand, 1), (7, .istore_n 0, 1), (8, .iload_n 0, 1), (9, .ifCond .gt 8, 3), (17, .iconst 1, 1), (18, .istore_n 1, 1), (19, .iload_n 0, 1), (20, .ldc_w 264, 3), (23, .if_icmp .le 11, 3), (34, .iload_n 0, 1), (35, .sipush 256, 3), (38, .if_icmp .le 11, 3), (49, .iload_n 0, 1), (50, .bipush 16, 2), (52, .if_icmp .le 10, 3), (62, .iload_n 0, 1), (63, .iconst 4, 1), (64, .if_icmp .le 10, 3)] = true ∧ dOk cJ6_numberOfTrailingZeros_0f7a4 [(74, .iload_n 1, 1), (75, .iload_n 0, 1), (76, .iconst 1, 1), (77, .iushr, 1), (78, .iadd, 1), (79, .ireturn, 1), (67, .iinc 1 2, 3), (70, .iload_n 0, 1), (71, .iconst 2, 1), (72, .iushr, 1), (73, .istore_n 0, 1), (55, .iinc 1 4, 3), (58, .iload_n 0, 1), (59, .iconst 4, 1), (60, .iushr, 1), (61, .istore_n 0, 1), (41, .iinc 1 8, 3), (44, .iload_n 0, 1), (45, .bipush 8, 2), (47, .iushr, 1), (48, .istore_n 0, 1), (26, .iinc 1 16, 3), (29, .iload_n 0, 1), (30, .bipush 16, 2)] = true ∧ dOk cJ6_numberOfTrailingZeros_0f7a4 [(32, .iushr, 1), (33, .istore_n 0, 1), (12, .iload_n 0, 1), (13, .bipush 32, 2), (15, .iand, 1), (16, .ireturn, 1)] = true := by decide +kernel
theorem dJ6_numberOfTrailingZeros_0f7a4_0 : decode cJ6_numberOfTrailingZeros_0f7a4 0 = .ok (.iload_n 0, 1) := dr9 dk9_dJ6_numberOfTrailingZeros_0f7a4_0_0.1 0 (0, .iload_n 0, 1) rfl
theorem dJ6_numberOfTrailingZeros_0f7a4_1 : decode cJ6_numberOfTrailingZeros_0f7a4 1 = .ok (.iconst (-1), 1) := dr9 dk9_dJ6_numberOfTrailingZeros_0f7a4_0_0.1 1 (1, .iconst (-1), 1) rfl
theorem dJ6_numberOfTrailingZeros_0f7a4_2 : decode cJ6_numberOfTrailingZeros_0f7a4 2 = .ok (.ixor, 1) := dr9 dk9_dJ6_numberOfTrailingZeros_0f7a4_0_0.1 2 (2, .ixor, 1) rfl
theorem dJ6_numberOfTrailingZeros_0f7a4_3 : decode cJ6_numberOfTrailingZeros_0f7a4 3 = .ok (.iload_n 0, 1) := dr9 dk9_dJ6_numberOfTrailingZeros_0f7a4_0_0.1 3 (3, .iload_n 0, 1) rfl
theorem dJ6_numberOfTrailingZeros_0f7a4_4 : decode cJ6_numberOfTrailingZeros_0f7a4 4 = .ok (.iconst 1, 1) := dr9 dk9_dJ6_numberOfTrailingZeros_0f7a4_0_0.1 4 (4, .iconst 1, 1) rfl
theorem dJ6_numberOfTrailingZeros_0f7a4_5 : decode cJ6_numberOfTrailingZeros_0f7a4 5 = .ok (.isub, 1) := dr9 dk9_dJ6_numberOfTrailingZeros_0f7a4_0_0.1 5 (5, .isub, 1) rfl
theorem dJ6_numberOfTrailingZeros_0f7a4_6 : decode cJ6_numberOfTrailingZeros_0f7a4 6 = .ok (.iand, 1) := dr9 dk9_dJ6_numberOfTrailingZeros_0f7a4_0_0.1 6 (6, .iand, 1) rfl
theorem dJ6_numberOfTrailingZeros_0f7a4_7 : decode cJ6_numberOfTrailingZeros_0f7a4 7 = .ok (.istore_n 0, 1) := dr9 dk9_dJ6_numberOfTrailingZeros_0f7a4_0_0.1 7 (7, .istore_n 0, 1) rfl
theorem dJ6_numberOfTrailingZeros_0f7a4_8 : decode cJ6_numberOfTrailingZeros_0f7a4 8 = .ok (.iload_n 0, 1) := dr9 dk9_dJ6_numberOfTrailingZeros_0f7a4_0_0.1 8 (8, .iload_n 0, 1) rfl
theorem dJ6_numberOfTrailingZeros_0f7a4_9 : decode cJ6_numberOfTrailingZeros_0f7a4 9 = .ok (.ifCond .gt 8, 3) := dr9 dk9_dJ6_numberOfTrailingZeros_0f7a4_0_0.1 9 (9, .ifCond .gt 8, 3) rfl
theorem dJ6_numberOfTrailingZeros_0f7a4_17 : decode cJ6_numberOfTrailingZeros_0f7a4 17 = .ok (.iconst 1, 1) := dr9 dk9_dJ6_numberOfTrailingZeros_0f7a4_0_0.1 10 (17, .iconst 1, 1) rfl
theorem dJ6_numberOfTrailingZeros_0f7a4_18 : decode cJ6_numberOfTrailingZeros_0f7a4 18 = .ok (.istore_n 1, 1) := dr9 dk9_dJ6_numberOfTrailingZeros_0f7a4_0_0.1 11 (18, .istore_n 1, 1) rfl
theorem dJ6_numberOfTrailingZeros_0f7a4_19 : decode cJ6_numberOfTrailingZeros_0f7a4 19 = .ok (.iload_n 0, 1) := dr9 dk9_dJ6_numberOfTrailingZeros_0f7a4_0_0.1 12 (19, .iload_n 0, 1) rfl
theorem dJ6_numberOfTrailingZeros_0f7a4_20 : decode cJ6_numberOfTrailingZeros_0f7a4 20 = .ok (.ldc_w 264, 3) := dr9 dk9_dJ6_numberOfTrailingZeros_0f7a4_0_0.1 13 (20, .ldc_w 264, 3) rfl
theorem dJ6_numberOfTrailingZeros_0f7a4_23 : decode cJ6_numberOfTrailingZeros_0f7a4 23 = .ok (.if_icmp .le 11, 3) := dr9 dk9_dJ6_numberOfTrailingZeros_0f7a4_0_0.1 14 (23, .if_icmp .le 11, 3) rfl
theorem dJ6_numberOfTrailingZeros_0f7a4_34 : decode cJ6_numberOfTrailingZeros_0f7a4 34 = .ok (.iload_n 0, 1) := dr9 dk9_dJ6_numberOfTrailingZeros_0f7a4_0_0.1 15 (34, .iload_n 0, 1) rfl
theorem dJ6_numberOfTrailingZeros_0f7a4_35 : decode cJ6_numberOfTrailingZeros_0f7a4 35 = .ok (.sipush 256, 3) := dr9 dk9_dJ6_numberOfTrailingZeros_0f7a4_0_0.1 16 (35, .sipush 256, 3) rfl
theorem dJ6_numberOfTrailingZeros_0f7a4_38 : decode cJ6_numberOfTrailingZeros_0f7a4 38 = .ok (.if_icmp .le 11, 3) := dr9 dk9_dJ6_numberOfTrailingZeros_0f7a4_0_0.1 17 (38, .if_icmp .le 11, 3) rfl
theorem dJ6_numberOfTrailingZeros_0f7a4_49 : decode cJ6_numberOfTrailingZeros_0f7a4 49 = .ok (.iload_n 0, 1) := dr9 dk9_dJ6_numberOfTrailingZeros_0f7a4_0_0.1 18 (49, .iload_n 0, 1) rfl
theorem dJ6_numberOfTrailingZeros_0f7a4_50 : decode cJ6_numberOfTrailingZeros_0f7a4 50 = .ok (.bipush 16, 2) := dr9 dk9_dJ6_numberOfTrailingZeros_0f7a4_0_0.1 19 (50, .bipush 16, 2) rfl
theorem dJ6_numberOfTrailingZeros_0f7a4_52 : decode cJ6_numberOfTrailingZeros_0f7a4 52 = .ok (.if_icmp .le 10, 3) := dr9 dk9_dJ6_numberOfTrailingZeros_0f7a4_0_0.1 20 (52, .if_icmp .le 10, 3) rfl
theorem dJ6_numberOfTrailingZeros_0f7a4_62 : decode cJ6_numberOfTrailingZeros_0f7a4 62 = .ok (.iload_n 0, 1) := dr9 dk9_dJ6_numberOfTrailingZeros_0f7a4_0_0.1 21 (62, .iload_n 0, 1) rfl
theorem dJ6_numberOfTrailingZeros_0f7a4_63 : decode cJ6_numberOfTrailingZeros_0f7a4 63 = .ok (.iconst 4, 1) := dr9 dk9_dJ6_numberOfTrailingZeros_0f7a4_0_0.1 22 (63, .iconst 4, 1) rfl
theorem dJ6_numberOfTrailingZeros_0f7a4_64 : decode cJ6_numberOfTrailingZeros_0f7a4 64 = .ok (.if_icmp .le 10, 3) := dr9 dk9_dJ6_numberOfTrailingZeros_0f7a4_0_0.1 23 (64, .if_icmp .le 10, 3) rfl
theorem dJ6_numberOfTrailingZeros_0f7a4_74 : decode cJ6_numberOfTrailingZeros_0f7a4 74 = .ok (.iload_n 1, 1) := dr9 dk9_dJ6_numberOfTrailingZeros_0f7a4_0_0.2.1 0 (74, .iload_n 1, 1) rfl
theorem dJ6_numberOfTrailingZeros_0f7a4_75 : decode cJ6_numberOfTrailingZeros_0f7a4 75 = .ok (.iload_n 0, 1) := dr9 dk9_dJ6_numberOfTrailingZeros_0f7a4_0_0.2.1 1 (75, .iload_n 0, 1) rfl
theorem dJ6_numberOfTrailingZeros_0f7a4_76 : decode cJ6_numberOfTrailingZeros_0f7a4 76 = .ok (.iconst 1, 1) := dr9 dk9_dJ6_numberOfTrailingZeros_0f7a4_0_0.2.1 2 (76, .iconst 1, 1) rfl
theorem dJ6_numberOfTrailingZeros_0f7a4_77 : decode cJ6_numberOfTrailingZeros_0f7a4 77 = .ok (.iushr, 1) := dr9 dk9_dJ6_numberOfTrailingZeros_0f7a4_0_0.2.1 3 (77, .iushr, 1) rfl
theorem dJ6_numberOfTrailingZeros_0f7a4_78 : decode cJ6_numberOfTrailingZeros_0f7a4 78 = .ok (.iadd, 1) := dr9 dk9_dJ6_numberOfTrailingZeros_0f7a4_0_0.2.1 4 (78, .iadd, 1) rfl
theorem dJ6_numberOfTrailingZeros_0f7a4_79 : decode cJ6_numberOfTrailingZeros_0f7a4 79 = .ok (.ireturn, 1) := dr9 dk9_dJ6_numberOfTrailingZeros_0f7a4_0_0.2.1 5 (79, .ireturn, 1) rfl
theorem dJ6_numberOfTrailingZeros_0f7a4_67 : decode cJ6_numberOfTrailingZeros_0f7a4 67 = .ok (.iinc 1 2, 3) := dr9 dk9_dJ6_numberOfTrailingZeros_0f7a4_0_0.2.1 6 (67, .iinc 1 2, 3) rfl
theorem dJ6_numberOfTrailingZeros_0f7a4_70 : decode cJ6_numberOfTrailingZeros_0f7a4 70 = .ok (.iload_n 0, 1) := dr9 dk9_dJ6_numberOfTrailingZeros_0f7a4_0_0.2.1 7 (70, .iload_n 0, 1) rfl
theorem dJ6_numberOfTrailingZeros_0f7a4_71 : decode cJ6_numberOfTrailingZeros_0f7a4 71 = .ok (.iconst 2, 1) := dr9 dk9_dJ6_numberOfTrailingZeros_0f7a4_0_0.2.1 8 (71, .iconst 2, 1) rfl
theorem dJ6_numberOfTrailingZeros_0f7a4_72 : decode cJ6_numberOfTrailingZeros_0f7a4 72 = .ok (.iushr, 1) := dr9 dk9_dJ6_numberOfTrailingZeros_0f7a4_0_0.2.1 9 (72, .iushr, 1) rfl
theorem dJ6_numberOfTrailingZeros_0f7a4_73 : decode cJ6_numberOfTrailingZeros_0f7a4 73 = .ok (.istore_n 0, 1) := dr9 dk9_dJ6_numberOfTrailingZeros_0f7a4_0_0.2.1 10 (73, .istore_n 0, 1) rfl
theorem dJ6_numberOfTrailingZeros_0f7a4_55 : decode cJ6_numberOfTrailingZeros_0f7a4 55 = .ok (.iinc 1 4, 3) := dr9 dk9_dJ6_numberOfTrailingZeros_0f7a4_0_0.2.1 11 (55, .iinc 1 4, 3) rfl
theorem dJ6_numberOfTrailingZeros_0f7a4_58 : decode cJ6_numberOfTrailingZeros_0f7a4 58 = .ok (.iload_n 0, 1) := dr9 dk9_dJ6_numberOfTrailingZeros_0f7a4_0_0.2.1 12 (58, .iload_n 0, 1) rfl
theorem dJ6_numberOfTrailingZeros_0f7a4_59 : decode cJ6_numberOfTrailingZeros_0f7a4 59 = .ok (.iconst 4, 1) := dr9 dk9_dJ6_numberOfTrailingZeros_0f7a4_0_0.2.1 13 (59, .iconst 4, 1) rfl
theorem dJ6_numberOfTrailingZeros_0f7a4_60 : decode cJ6_numberOfTrailingZeros_0f7a4 60 = .ok (.iushr, 1) := dr9 dk9_dJ6_numberOfTrailingZeros_0f7a4_0_0.2.1 14 (60, .iushr, 1) rfl
theorem dJ6_numberOfTrailingZeros_0f7a4_61 : decode cJ6_numberOfTrailingZeros_0f7a4 61 = .ok (.istore_n 0, 1) := dr9 dk9_dJ6_numberOfTrailingZeros_0f7a4_0_0.2.1 15 (61, .istore_n 0, 1) rfl
theorem dJ6_numberOfTrailingZeros_0f7a4_41 : decode cJ6_numberOfTrailingZeros_0f7a4 41 = .ok (.iinc 1 8, 3) := dr9 dk9_dJ6_numberOfTrailingZeros_0f7a4_0_0.2.1 16 (41, .iinc 1 8, 3) rfl
theorem dJ6_numberOfTrailingZeros_0f7a4_44 : decode cJ6_numberOfTrailingZeros_0f7a4 44 = .ok (.iload_n 0, 1) := dr9 dk9_dJ6_numberOfTrailingZeros_0f7a4_0_0.2.1 17 (44, .iload_n 0, 1) rfl
theorem dJ6_numberOfTrailingZeros_0f7a4_45 : decode cJ6_numberOfTrailingZeros_0f7a4 45 = .ok (.bipush 8, 2) := dr9 dk9_dJ6_numberOfTrailingZeros_0f7a4_0_0.2.1 18 (45, .bipush 8, 2) rfl
theorem dJ6_numberOfTrailingZeros_0f7a4_47 : decode cJ6_numberOfTrailingZeros_0f7a4 47 = .ok (.iushr, 1) := dr9 dk9_dJ6_numberOfTrailingZeros_0f7a4_0_0.2.1 19 (47, .iushr, 1) rfl
theorem dJ6_numberOfTrailingZeros_0f7a4_48 : decode cJ6_numberOfTrailingZeros_0f7a4 48 = .ok (.istore_n 0, 1) := dr9 dk9_dJ6_numberOfTrailingZeros_0f7a4_0_0.2.1 20 (48, .istore_n 0, 1) rfl
theorem dJ6_numberOfTrailingZeros_0f7a4_26 : decode cJ6_numberOfTrailingZeros_0f7a4 26 = .ok (.iinc 1 16, 3) := dr9 dk9_dJ6_numberOfTrailingZeros_0f7a4_0_0.2.1 21 (26, .iinc 1 16, 3) rfl
theorem dJ6_numberOfTrailingZeros_0f7a4_29 : decode cJ6_numberOfTrailingZeros_0f7a4 29 = .ok (.iload_n 0, 1) := dr9 dk9_dJ6_numberOfTrailingZeros_0f7a4_0_0.2.1 22 (29, .iload_n 0, 1) rfl
theorem dJ6_numberOfTrailingZeros_0f7a4_30 : decode cJ6_numberOfTrailingZeros_0f7a4 30 = .ok (.bipush 16, 2) := dr9 dk9_dJ6_numberOfTrailingZeros_0f7a4_0_0.2.1 23 (30, .bipush 16, 2) rfl
theorem dJ6_numberOfTrailingZeros_0f7a4_32 : decode cJ6_numberOfTrailingZeros_0f7a4 32 = .ok (.iushr, 1) := dr9 dk9_dJ6_numberOfTrailingZeros_0f7a4_0_0.2.2 0 (32, .iushr, 1) rfl
theorem dJ6_numberOfTrailingZeros_0f7a4_33 : decode cJ6_numberOfTrailingZeros_0f7a4 33 = .ok (.istore_n 0, 1) := dr9 dk9_dJ6_numberOfTrailingZeros_0f7a4_0_0.2.2 1 (33, .istore_n 0, 1) rfl
theorem dJ6_numberOfTrailingZeros_0f7a4_12 : decode cJ6_numberOfTrailingZeros_0f7a4 12 = .ok (.iload_n 0, 1) := dr9 dk9_dJ6_numberOfTrailingZeros_0f7a4_0_0.2.2 2 (12, .iload_n 0, 1) rfl
theorem dJ6_numberOfTrailingZeros_0f7a4_13 : decode cJ6_numberOfTrailingZeros_0f7a4 13 = .ok (.bipush 32, 2) := dr9 dk9_dJ6_numberOfTrailingZeros_0f7a4_0_0.2.2 3 (13, .bipush 32, 2) rfl
theorem dJ6_numberOfTrailingZeros_0f7a4_15 : decode cJ6_numberOfTrailingZeros_0f7a4 15 = .ok (.iand, 1) := dr9 dk9_dJ6_numberOfTrailingZeros_0f7a4_0_0.2.2 4 (15, .iand, 1) rfl
theorem dJ6_numberOfTrailingZeros_0f7a4_16 : decode cJ6_numberOfTrailingZeros_0f7a4 16 = .ok (.ireturn, 1) := dr9 dk9_dJ6_numberOfTrailingZeros_0f7a4_0_0.2.2 5 (16, .ireturn, 1) rfl
theorem dk9_dX0_firstCandidate_0_0 : dOk cX0_firstCandidate [(0, .aload_n 0, 1), (1, .iload_n 1, 1), (2, .iload_n 2, 1), (3, .invokevirtual 101, 3), (6, .istore_n 3, 1), (7, .iload_n 3, 1), (8, .ifCond .ne 7, 3), (15, .iload_n 3, 1), (16, .invokestatic 105, 3), (19, .ireturn, 1), (11, .iconst (-1), 1), (12, .goto 7, 3)] = true := by decide +kernel
theorem dX0_firstCandidate_0 : decode cX0_firstCandidate 0 = .ok (.aload_n 0, 1) := dr9 dk9_dX0_firstCandidate_0_0 0 (0, .aload_n 0, 1) rfl
theorem dX0_firstCandidate_1 : decode cX0_firstCandidate 1 = .ok (.iload_n 1, 1) := dr9 dk9_dX0_firstCandidate_0_0 1 (1, .iload_n 1, 1) rfl
theorem dX0_firstCandidate_2 : decode cX0_firstCandidate 2 = .ok (.iload_n 2, 1) := dr9 dk9_dX0_firstCandidate_0_0 2 (2, .iload_n 2, 1) rfl
theorem dX0_firstCandidate_3 : decode cX0_firstCandidate 3 = .ok (.invokevirtual 101, 3) := dr9 dk9_dX0_firstCandidate_0_0 3 (3, .invokevirtual 101, 3) rfl
theorem dX0_firstCandidate_6 : decode cX0_firstCandidate 6 = .ok (.istore_n 3, 1) := dr9 dk9_dX0_firstCandidate_0_0 4 (6, .istore_n 3, 1) rfl
theorem dX0_firstCandidate_7 : decode cX0_firstCandidate 7 = .ok (.iload_n 3, 1) := dr9 dk9_dX0_firstCandidate_0_0 5 (7, .iload_n 3, 1) rfl
theorem dX0_firstCandidate_8 : decode cX0_firstCandidate 8 = .ok (.ifCond .ne 7, 3) := dr9 dk9_dX0_firstCandidate_0_0 6 (8, .ifCond .ne 7, 3) rfl
theorem dX0_firstCandidate_15 : decode cX0_firstCandidate 15 = .ok (.iload_n 3, 1) := dr9 dk9_dX0_firstCandidate_0_0 7 (15, .iload_n 3, 1) rfl
theorem dX0_firstCandidate_16 : decode cX0_firstCandidate 16 = .ok (.invokestatic 105, 3) := dr9 dk9_dX0_firstCandidate_0_0 8 (16, .invokestatic 105, 3) rfl
theorem dX0_firstCandidate_19 : decode cX0_firstCandidate 19 = .ok (.ireturn, 1) := dr9 dk9_dX0_firstCandidate_0_0 9 (19, .ireturn, 1) rfl
theorem dX0_firstCandidate_11 : decode cX0_firstCandidate 11 = .ok (.iconst (-1), 1) := dr9 dk9_dX0_firstCandidate_0_0 10 (11, .iconst (-1), 1) rfl
theorem dX0_firstCandidate_12 : decode cX0_firstCandidate 12 = .ok (.goto 7, 3) := dr9 dk9_dX0_firstCandidate_0_0 11 (12, .goto 7, 3) rfl
theorem dk9_dX11_ends_0_0 : dOk cX11_ends [(0, .aload_n 0, 1), (1, .iload_n 1, 1), (2, .putfield 93, 3), (5, .iload_n 2, 1), (6, .ireturn, 1)] = true := by decide +kernel
theorem dX11_ends_0 : decode cX11_ends 0 = .ok (.aload_n 0, 1) := dr9 dk9_dX11_ends_0_0 0 (0, .aload_n 0, 1) rfl
theorem dX11_ends_1 : decode cX11_ends 1 = .ok (.iload_n 1, 1) := dr9 dk9_dX11_ends_0_0 1 (1, .iload_n 1, 1) rfl
theorem dX11_ends_2 : decode cX11_ends 2 = .ok (.putfield 93, 3) := dr9 dk9_dX11_ends_0_0 2 (2, .putfield 93, 3) rfl
theorem dX11_ends_5 : decode cX11_ends 5 = .ok (.iload_n 2, 1) := dr9 dk9_dX11_ends_0_0 3 (5, .iload_n 2, 1) rfl
theorem dX11_ends_6 : decode cX11_ends 6 = .ok (.ireturn, 1) := dr9 dk9_dX11_ends_0_0 4 (6, .ireturn, 1) rfl
theorem dk9_dX11_outcome_0_0 : dOk cX11_outcome [(0, .aload_n 0, 1), (1, .getfield 93, 3), (4, .ireturn, 1)] = true := by decide +kernel
theorem dX11_outcome_0 : decode cX11_outcome 0 = .ok (.aload_n 0, 1) := dr9 dk9_dX11_outcome_0_0 0 (0, .aload_n 0, 1) rfl
theorem dX11_outcome_1 : decode cX11_outcome 1 = .ok (.getfield 93, 3) := dr9 dk9_dX11_outcome_0_0 1 (1, .getfield 93, 3) rfl
theorem dX11_outcome_4 : decode cX11_outcome 4 = .ok (.ireturn, 1) := dr9 dk9_dX11_outcome_0_0 2 (4, .ireturn, 1) rfl
theorem dk9_dX11_cause_0_0 : dOk cX11_cause [(0, .aload_n 0, 1), (1, .getfield 42, 3), (4, .iload_n 1, 1), (5, .invokevirtual 248, 3), (8, .ireturn, 1)] = true := by decide +kernel
theorem dX11_cause_0 : decode cX11_cause 0 = .ok (.aload_n 0, 1) := dr9 dk9_dX11_cause_0_0 0 (0, .aload_n 0, 1) rfl
theorem dX11_cause_1 : decode cX11_cause 1 = .ok (.getfield 42, 3) := dr9 dk9_dX11_cause_0_0 1 (1, .getfield 42, 3) rfl
theorem dX11_cause_4 : decode cX11_cause 4 = .ok (.iload_n 1, 1) := dr9 dk9_dX11_cause_0_0 2 (4, .iload_n 1, 1) rfl
theorem dX11_cause_5 : decode cX11_cause 5 = .ok (.invokevirtual 248, 3) := dr9 dk9_dX11_cause_0_0 3 (5, .invokevirtual 248, 3) rfl
theorem dX11_cause_8 : decode cX11_cause 8 = .ok (.ireturn, 1) := dr9 dk9_dX11_cause_0_0 4 (8, .ireturn, 1) rfl
theorem dk9_dX11_fault_0_0 : dOk cX11_fault [(0, .aload_n 0, 1), (1, .getfield 28, 3), (4, .iload_n 1, 1), (5, .iload_n 2, 1), (6, .invokevirtual 129, 3), (9, .ireturn, 1)] = true := by decide +kernel
theorem dX11_fault_0 : decode cX11_fault 0 = .ok (.aload_n 0, 1) := dr9 dk9_dX11_fault_0_0 0 (0, .aload_n 0, 1) rfl
theorem dX11_fault_1 : decode cX11_fault 1 = .ok (.getfield 28, 3) := dr9 dk9_dX11_fault_0_0 1 (1, .getfield 28, 3) rfl
theorem dX11_fault_4 : decode cX11_fault 4 = .ok (.iload_n 1, 1) := dr9 dk9_dX11_fault_0_0 2 (4, .iload_n 1, 1) rfl
theorem dX11_fault_5 : decode cX11_fault 5 = .ok (.iload_n 2, 1) := dr9 dk9_dX11_fault_0_0 3 (5, .iload_n 2, 1) rfl
theorem dX11_fault_6 : decode cX11_fault 6 = .ok (.invokevirtual 129, 3) := dr9 dk9_dX11_fault_0_0 4 (6, .invokevirtual 129, 3) rfl
theorem dX11_fault_9 : decode cX11_fault 9 = .ok (.ireturn, 1) := dr9 dk9_dX11_fault_0_0 5 (9, .ireturn, 1) rfl
theorem dk9_dX11_cycle_0_0 : dOk cX11_cycle [(0, .aload_n 0, 1), (1, .getfield 28, 3), (4, .iload_n 1, 1), (5, .iload_n 2, 1), (6, .invokevirtual 133, 3), (9, .ireturn, 1)] = true := by decide +kernel
theorem dX11_cycle_0 : decode cX11_cycle 0 = .ok (.aload_n 0, 1) := dr9 dk9_dX11_cycle_0_0 0 (0, .aload_n 0, 1) rfl
theorem dX11_cycle_1 : decode cX11_cycle 1 = .ok (.getfield 28, 3) := dr9 dk9_dX11_cycle_0_0 1 (1, .getfield 28, 3) rfl
theorem dX11_cycle_4 : decode cX11_cycle 4 = .ok (.iload_n 1, 1) := dr9 dk9_dX11_cycle_0_0 2 (4, .iload_n 1, 1) rfl
theorem dX11_cycle_5 : decode cX11_cycle 5 = .ok (.iload_n 2, 1) := dr9 dk9_dX11_cycle_0_0 3 (5, .iload_n 2, 1) rfl
theorem dX11_cycle_6 : decode cX11_cycle 6 = .ok (.invokevirtual 133, 3) := dr9 dk9_dX11_cycle_0_0 4 (6, .invokevirtual 133, 3) rfl
theorem dX11_cycle_9 : decode cX11_cycle 9 = .ok (.ireturn, 1) := dr9 dk9_dX11_cycle_0_0 5 (9, .ireturn, 1) rfl
theorem dk9_dX11_closed_0_0 : dOk cX11_closed [(0, .aload_n 0, 1), (1, .getfield 42, 3), (4, .iload_n 1, 1), (5, .iload_n 2, 1), (6, .invokevirtual 268, 3), (9, .ireturn, 1)] = true := by decide +kernel
theorem dX11_closed_0 : decode cX11_closed 0 = .ok (.aload_n 0, 1) := dr9 dk9_dX11_closed_0_0 0 (0, .aload_n 0, 1) rfl
theorem dX11_closed_1 : decode cX11_closed 1 = .ok (.getfield 42, 3) := dr9 dk9_dX11_closed_0_0 1 (1, .getfield 42, 3) rfl
theorem dX11_closed_4 : decode cX11_closed 4 = .ok (.iload_n 1, 1) := dr9 dk9_dX11_closed_0_0 2 (4, .iload_n 1, 1) rfl
theorem dX11_closed_5 : decode cX11_closed 5 = .ok (.iload_n 2, 1) := dr9 dk9_dX11_closed_0_0 3 (5, .iload_n 2, 1) rfl
theorem dX11_closed_6 : decode cX11_closed 6 = .ok (.invokevirtual 268, 3) := dr9 dk9_dX11_closed_0_0 4 (6, .invokevirtual 268, 3) rfl
theorem dX11_closed_9 : decode cX11_closed 9 = .ok (.ireturn, 1) := dr9 dk9_dX11_closed_0_0 5 (9, .ireturn, 1) rfl
theorem dk9_dX11_did_0_0 : dOk cX11_did [(0, .aload_n 0, 1), (1, .getfield 42, 3), (4, .iload_n 1, 1), (5, .iload_n 2, 1), (6, .invokevirtual 278, 3), (9, .ireturn, 1)] = true := by decide +kernel
theorem dX11_did_0 : decode cX11_did 0 = .ok (.aload_n 0, 1) := dr9 dk9_dX11_did_0_0 0 (0, .aload_n 0, 1) rfl
theorem dX11_did_1 : decode cX11_did 1 = .ok (.getfield 42, 3) := dr9 dk9_dX11_did_0_0 1 (1, .getfield 42, 3) rfl
theorem dX11_did_4 : decode cX11_did 4 = .ok (.iload_n 1, 1) := dr9 dk9_dX11_did_0_0 2 (4, .iload_n 1, 1) rfl
theorem dX11_did_5 : decode cX11_did 5 = .ok (.iload_n 2, 1) := dr9 dk9_dX11_did_0_0 3 (5, .iload_n 2, 1) rfl
theorem dX11_did_6 : decode cX11_did 6 = .ok (.invokevirtual 278, 3) := dr9 dk9_dX11_did_0_0 4 (6, .invokevirtual 278, 3) rfl
theorem dX11_did_9 : decode cX11_did 9 = .ok (.ireturn, 1) := dr9 dk9_dX11_did_0_0 5 (9, .ireturn, 1) rfl
theorem dk9_dX11_joined_0_0 : dOk cX11_joined [(0, .aload_n 0, 1), (1, .getfield 35, 3), (4, .iload_n 1, 1), (5, .iload_n 2, 1), (6, .iload_n 3, 1), (7, .invokevirtual 264, 3), (10, .ireturn, 1)] = true := by decide +kernel
theorem dX11_joined_0 : decode cX11_joined 0 = .ok (.aload_n 0, 1) := dr9 dk9_dX11_joined_0_0 0 (0, .aload_n 0, 1) rfl
theorem dX11_joined_1 : decode cX11_joined 1 = .ok (.getfield 35, 3) := dr9 dk9_dX11_joined_0_0 1 (1, .getfield 35, 3) rfl
theorem dX11_joined_4 : decode cX11_joined 4 = .ok (.iload_n 1, 1) := dr9 dk9_dX11_joined_0_0 2 (4, .iload_n 1, 1) rfl
theorem dX11_joined_5 : decode cX11_joined 5 = .ok (.iload_n 2, 1) := dr9 dk9_dX11_joined_0_0 3 (5, .iload_n 2, 1) rfl
theorem dX11_joined_6 : decode cX11_joined 6 = .ok (.iload_n 3, 1) := dr9 dk9_dX11_joined_0_0 4 (6, .iload_n 3, 1) rfl
theorem dX11_joined_7 : decode cX11_joined 7 = .ok (.invokevirtual 264, 3) := dr9 dk9_dX11_joined_0_0 5 (7, .invokevirtual 264, 3) rfl
theorem dX11_joined_10 : decode cX11_joined 10 = .ok (.ireturn, 1) := dr9 dk9_dX11_joined_0_0 6 (10, .ireturn, 1) rfl
theorem dk9_dX11_setting_0_0 : dOk cX11_setting [(0, .aload_n 0, 1), (1, .getfield 89, 3), (4, .ifCond .ne 21, 3), (25, .iconst 0, 1), (26, .ireturn, 1), (7, .iload_n 1, 1), (8, .ifCond .lt 17, 3), (11, .iload_n 1, 1), (12, .aload_n 0, 1), (13, .getfield 49, 3), (16, .getfield 113, 3), (19, .getfield 117, 3), (22, .if_icmp .lt 5, 3), (27, .aload_n 0, 1), (28, .getfield 49, 3), (31, .getfield 122, 3), (34, .iload_n 1, 1), (35, .iload_n 2, 1), (36, .iastore, 1), (37, .iconst 1, 1), (38, .ireturn, 1)] = true := by decide +kernel
theorem dX11_setting_0 : decode cX11_setting 0 = .ok (.aload_n 0, 1) := dr9 dk9_dX11_setting_0_0 0 (0, .aload_n 0, 1) rfl
theorem dX11_setting_1 : decode cX11_setting 1 = .ok (.getfield 89, 3) := dr9 dk9_dX11_setting_0_0 1 (1, .getfield 89, 3) rfl
theorem dX11_setting_4 : decode cX11_setting 4 = .ok (.ifCond .ne 21, 3) := dr9 dk9_dX11_setting_0_0 2 (4, .ifCond .ne 21, 3) rfl
theorem dX11_setting_25 : decode cX11_setting 25 = .ok (.iconst 0, 1) := dr9 dk9_dX11_setting_0_0 3 (25, .iconst 0, 1) rfl
theorem dX11_setting_26 : decode cX11_setting 26 = .ok (.ireturn, 1) := dr9 dk9_dX11_setting_0_0 4 (26, .ireturn, 1) rfl
theorem dX11_setting_7 : decode cX11_setting 7 = .ok (.iload_n 1, 1) := dr9 dk9_dX11_setting_0_0 5 (7, .iload_n 1, 1) rfl
theorem dX11_setting_8 : decode cX11_setting 8 = .ok (.ifCond .lt 17, 3) := dr9 dk9_dX11_setting_0_0 6 (8, .ifCond .lt 17, 3) rfl
theorem dX11_setting_11 : decode cX11_setting 11 = .ok (.iload_n 1, 1) := dr9 dk9_dX11_setting_0_0 7 (11, .iload_n 1, 1) rfl
theorem dX11_setting_12 : decode cX11_setting 12 = .ok (.aload_n 0, 1) := dr9 dk9_dX11_setting_0_0 8 (12, .aload_n 0, 1) rfl
theorem dX11_setting_13 : decode cX11_setting 13 = .ok (.getfield 49, 3) := dr9 dk9_dX11_setting_0_0 9 (13, .getfield 49, 3) rfl
theorem dX11_setting_16 : decode cX11_setting 16 = .ok (.getfield 113, 3) := dr9 dk9_dX11_setting_0_0 10 (16, .getfield 113, 3) rfl
theorem dX11_setting_19 : decode cX11_setting 19 = .ok (.getfield 117, 3) := dr9 dk9_dX11_setting_0_0 11 (19, .getfield 117, 3) rfl
theorem dX11_setting_22 : decode cX11_setting 22 = .ok (.if_icmp .lt 5, 3) := dr9 dk9_dX11_setting_0_0 12 (22, .if_icmp .lt 5, 3) rfl
theorem dX11_setting_27 : decode cX11_setting 27 = .ok (.aload_n 0, 1) := dr9 dk9_dX11_setting_0_0 13 (27, .aload_n 0, 1) rfl
theorem dX11_setting_28 : decode cX11_setting 28 = .ok (.getfield 49, 3) := dr9 dk9_dX11_setting_0_0 14 (28, .getfield 49, 3) rfl
theorem dX11_setting_31 : decode cX11_setting 31 = .ok (.getfield 122, 3) := dr9 dk9_dX11_setting_0_0 15 (31, .getfield 122, 3) rfl
theorem dX11_setting_34 : decode cX11_setting 34 = .ok (.iload_n 1, 1) := dr9 dk9_dX11_setting_0_0 16 (34, .iload_n 1, 1) rfl
theorem dX11_setting_35 : decode cX11_setting 35 = .ok (.iload_n 2, 1) := dr9 dk9_dX11_setting_0_0 17 (35, .iload_n 2, 1) rfl
theorem dX11_setting_36 : decode cX11_setting 36 = .ok (.iastore, 1) := dr9 dk9_dX11_setting_0_0 18 (36, .iastore, 1) rfl
theorem dX11_setting_37 : decode cX11_setting 37 = .ok (.iconst 1, 1) := dr9 dk9_dX11_setting_0_0 19 (37, .iconst 1, 1) rfl
theorem dX11_setting_38 : decode cX11_setting 38 = .ok (.ireturn, 1) := dr9 dk9_dX11_setting_0_0 20 (38, .ireturn, 1) rfl
theorem dk9_dX11_candidate_0_0 : dOk cX11_candidate [(0, .aload_n 0, 1), (1, .getfield 49, 3), (4, .iload_n 1, 1), (5, .invokevirtual 136, 3), (8, .ifCond .eq 27, 3), (35, .iconst (-1), 1), (36, .ireturn, 1), (11, .iload_n 2, 1), (12, .ifCond .lt 23, 3), (15, .iload_n 2, 1), (16, .aload_n 0, 1), (17, .getfield 49, 3), (20, .getfield 147, 3), (23, .iload_n 1, 1), (24, .aaload, 1), (25, .getfield 162, 3), (28, .if_icmp .ge 7, 3), (31, .iload_n 3, 1), (32, .ifCond .ge 5, 3), (37, .aload_n 0, 1), (38, .getfield 49, 3), (41, .iload_n 1, 1), (42, .iload_n 2, 1), (43, .invokevirtual 170, 3)] = true ∧ dOk cX11_candidate [(46, .istore 4, 2), (48, .iconst 0, 1), (49, .istore 5, 2), (51, .iload 5, 2), (53, .iload_n 3, 1), (54, .if_icmp .ge 23, 3), (77, .iload 4, 2), (79, .ifCond .ne 7, 3), (86, .iload 4, 2), (88, .invokestatic 173, 3), (91, .ireturn, 1), (82, .iconst (-1), 1), (83, .goto 8, 3), (57, .iload 4, 2), (59, .ifCond .eq 18, 3), (62, .iload 4, 2), (64, .iload 4, 2), (66, .iconst 1, 1), (67, .isub, 1), (68, .iand, 1), (69, .istore 4, 2), (71, .iinc 5 1, 3), (74, .goto (-23), 3)] = true := by decide +kernel
theorem dX11_candidate_0 : decode cX11_candidate 0 = .ok (.aload_n 0, 1) := dr9 dk9_dX11_candidate_0_0.1 0 (0, .aload_n 0, 1) rfl
theorem dX11_candidate_1 : decode cX11_candidate 1 = .ok (.getfield 49, 3) := dr9 dk9_dX11_candidate_0_0.1 1 (1, .getfield 49, 3) rfl
theorem dX11_candidate_4 : decode cX11_candidate 4 = .ok (.iload_n 1, 1) := dr9 dk9_dX11_candidate_0_0.1 2 (4, .iload_n 1, 1) rfl
theorem dX11_candidate_5 : decode cX11_candidate 5 = .ok (.invokevirtual 136, 3) := dr9 dk9_dX11_candidate_0_0.1 3 (5, .invokevirtual 136, 3) rfl
theorem dX11_candidate_8 : decode cX11_candidate 8 = .ok (.ifCond .eq 27, 3) := dr9 dk9_dX11_candidate_0_0.1 4 (8, .ifCond .eq 27, 3) rfl
theorem dX11_candidate_35 : decode cX11_candidate 35 = .ok (.iconst (-1), 1) := dr9 dk9_dX11_candidate_0_0.1 5 (35, .iconst (-1), 1) rfl
theorem dX11_candidate_36 : decode cX11_candidate 36 = .ok (.ireturn, 1) := dr9 dk9_dX11_candidate_0_0.1 6 (36, .ireturn, 1) rfl
theorem dX11_candidate_11 : decode cX11_candidate 11 = .ok (.iload_n 2, 1) := dr9 dk9_dX11_candidate_0_0.1 7 (11, .iload_n 2, 1) rfl
theorem dX11_candidate_12 : decode cX11_candidate 12 = .ok (.ifCond .lt 23, 3) := dr9 dk9_dX11_candidate_0_0.1 8 (12, .ifCond .lt 23, 3) rfl
theorem dX11_candidate_15 : decode cX11_candidate 15 = .ok (.iload_n 2, 1) := dr9 dk9_dX11_candidate_0_0.1 9 (15, .iload_n 2, 1) rfl
theorem dX11_candidate_16 : decode cX11_candidate 16 = .ok (.aload_n 0, 1) := dr9 dk9_dX11_candidate_0_0.1 10 (16, .aload_n 0, 1) rfl
theorem dX11_candidate_17 : decode cX11_candidate 17 = .ok (.getfield 49, 3) := dr9 dk9_dX11_candidate_0_0.1 11 (17, .getfield 49, 3) rfl
theorem dX11_candidate_20 : decode cX11_candidate 20 = .ok (.getfield 147, 3) := dr9 dk9_dX11_candidate_0_0.1 12 (20, .getfield 147, 3) rfl
theorem dX11_candidate_23 : decode cX11_candidate 23 = .ok (.iload_n 1, 1) := dr9 dk9_dX11_candidate_0_0.1 13 (23, .iload_n 1, 1) rfl
theorem dX11_candidate_24 : decode cX11_candidate 24 = .ok (.aaload, 1) := dr9 dk9_dX11_candidate_0_0.1 14 (24, .aaload, 1) rfl
theorem dX11_candidate_25 : decode cX11_candidate 25 = .ok (.getfield 162, 3) := dr9 dk9_dX11_candidate_0_0.1 15 (25, .getfield 162, 3) rfl
theorem dX11_candidate_28 : decode cX11_candidate 28 = .ok (.if_icmp .ge 7, 3) := dr9 dk9_dX11_candidate_0_0.1 16 (28, .if_icmp .ge 7, 3) rfl
theorem dX11_candidate_31 : decode cX11_candidate 31 = .ok (.iload_n 3, 1) := dr9 dk9_dX11_candidate_0_0.1 17 (31, .iload_n 3, 1) rfl
theorem dX11_candidate_32 : decode cX11_candidate 32 = .ok (.ifCond .ge 5, 3) := dr9 dk9_dX11_candidate_0_0.1 18 (32, .ifCond .ge 5, 3) rfl
theorem dX11_candidate_37 : decode cX11_candidate 37 = .ok (.aload_n 0, 1) := dr9 dk9_dX11_candidate_0_0.1 19 (37, .aload_n 0, 1) rfl
theorem dX11_candidate_38 : decode cX11_candidate 38 = .ok (.getfield 49, 3) := dr9 dk9_dX11_candidate_0_0.1 20 (38, .getfield 49, 3) rfl
theorem dX11_candidate_41 : decode cX11_candidate 41 = .ok (.iload_n 1, 1) := dr9 dk9_dX11_candidate_0_0.1 21 (41, .iload_n 1, 1) rfl
theorem dX11_candidate_42 : decode cX11_candidate 42 = .ok (.iload_n 2, 1) := dr9 dk9_dX11_candidate_0_0.1 22 (42, .iload_n 2, 1) rfl
theorem dX11_candidate_43 : decode cX11_candidate 43 = .ok (.invokevirtual 170, 3) := dr9 dk9_dX11_candidate_0_0.1 23 (43, .invokevirtual 170, 3) rfl
theorem dX11_candidate_46 : decode cX11_candidate 46 = .ok (.istore 4, 2) := dr9 dk9_dX11_candidate_0_0.2 0 (46, .istore 4, 2) rfl
theorem dX11_candidate_48 : decode cX11_candidate 48 = .ok (.iconst 0, 1) := dr9 dk9_dX11_candidate_0_0.2 1 (48, .iconst 0, 1) rfl
theorem dX11_candidate_49 : decode cX11_candidate 49 = .ok (.istore 5, 2) := dr9 dk9_dX11_candidate_0_0.2 2 (49, .istore 5, 2) rfl
theorem dX11_candidate_51 : decode cX11_candidate 51 = .ok (.iload 5, 2) := dr9 dk9_dX11_candidate_0_0.2 3 (51, .iload 5, 2) rfl
theorem dX11_candidate_53 : decode cX11_candidate 53 = .ok (.iload_n 3, 1) := dr9 dk9_dX11_candidate_0_0.2 4 (53, .iload_n 3, 1) rfl
theorem dX11_candidate_54 : decode cX11_candidate 54 = .ok (.if_icmp .ge 23, 3) := dr9 dk9_dX11_candidate_0_0.2 5 (54, .if_icmp .ge 23, 3) rfl
theorem dX11_candidate_77 : decode cX11_candidate 77 = .ok (.iload 4, 2) := dr9 dk9_dX11_candidate_0_0.2 6 (77, .iload 4, 2) rfl
theorem dX11_candidate_79 : decode cX11_candidate 79 = .ok (.ifCond .ne 7, 3) := dr9 dk9_dX11_candidate_0_0.2 7 (79, .ifCond .ne 7, 3) rfl
theorem dX11_candidate_86 : decode cX11_candidate 86 = .ok (.iload 4, 2) := dr9 dk9_dX11_candidate_0_0.2 8 (86, .iload 4, 2) rfl
theorem dX11_candidate_88 : decode cX11_candidate 88 = .ok (.invokestatic 173, 3) := dr9 dk9_dX11_candidate_0_0.2 9 (88, .invokestatic 173, 3) rfl
theorem dX11_candidate_91 : decode cX11_candidate 91 = .ok (.ireturn, 1) := dr9 dk9_dX11_candidate_0_0.2 10 (91, .ireturn, 1) rfl
theorem dX11_candidate_82 : decode cX11_candidate 82 = .ok (.iconst (-1), 1) := dr9 dk9_dX11_candidate_0_0.2 11 (82, .iconst (-1), 1) rfl
theorem dX11_candidate_83 : decode cX11_candidate 83 = .ok (.goto 8, 3) := dr9 dk9_dX11_candidate_0_0.2 12 (83, .goto 8, 3) rfl
theorem dX11_candidate_57 : decode cX11_candidate 57 = .ok (.iload 4, 2) := dr9 dk9_dX11_candidate_0_0.2 13 (57, .iload 4, 2) rfl
theorem dX11_candidate_59 : decode cX11_candidate 59 = .ok (.ifCond .eq 18, 3) := dr9 dk9_dX11_candidate_0_0.2 14 (59, .ifCond .eq 18, 3) rfl
theorem dX11_candidate_62 : decode cX11_candidate 62 = .ok (.iload 4, 2) := dr9 dk9_dX11_candidate_0_0.2 15 (62, .iload 4, 2) rfl
theorem dX11_candidate_64 : decode cX11_candidate 64 = .ok (.iload 4, 2) := dr9 dk9_dX11_candidate_0_0.2 16 (64, .iload 4, 2) rfl
theorem dX11_candidate_66 : decode cX11_candidate 66 = .ok (.iconst 1, 1) := dr9 dk9_dX11_candidate_0_0.2 17 (66, .iconst 1, 1) rfl
theorem dX11_candidate_67 : decode cX11_candidate 67 = .ok (.isub, 1) := dr9 dk9_dX11_candidate_0_0.2 18 (67, .isub, 1) rfl
theorem dX11_candidate_68 : decode cX11_candidate 68 = .ok (.iand, 1) := dr9 dk9_dX11_candidate_0_0.2 19 (68, .iand, 1) rfl
theorem dX11_candidate_69 : decode cX11_candidate 69 = .ok (.istore 4, 2) := dr9 dk9_dX11_candidate_0_0.2 20 (69, .istore 4, 2) rfl
theorem dX11_candidate_71 : decode cX11_candidate 71 = .ok (.iinc 5 1, 3) := dr9 dk9_dX11_candidate_0_0.2 21 (71, .iinc 5 1, 3) rfl
theorem dX11_candidate_74 : decode cX11_candidate 74 = .ok (.goto (-23), 3) := dr9 dk9_dX11_candidate_0_0.2 22 (74, .goto (-23), 3) rfl
theorem dk9_dX11_day_0_0 : dOk cX11_day [(0, .aload_n 0, 1), (1, .getfield 89, 3), (4, .ifCond .eq 15, 3), (19, .iconst (-1), 1), (20, .ireturn, 1), (7, .aload_n 0, 1), (8, .getfield 35, 3), (11, .iconst 1, 1), (12, .iconst 0, 1), (13, .invokevirtual 179, 3), (16, .goto 4, 3)] = true := by decide +kernel
theorem dX11_day_0 : decode cX11_day 0 = .ok (.aload_n 0, 1) := dr9 dk9_dX11_day_0_0 0 (0, .aload_n 0, 1) rfl
theorem dX11_day_1 : decode cX11_day 1 = .ok (.getfield 89, 3) := dr9 dk9_dX11_day_0_0 1 (1, .getfield 89, 3) rfl
theorem dX11_day_4 : decode cX11_day 4 = .ok (.ifCond .eq 15, 3) := dr9 dk9_dX11_day_0_0 2 (4, .ifCond .eq 15, 3) rfl
theorem dX11_day_19 : decode cX11_day 19 = .ok (.iconst (-1), 1) := dr9 dk9_dX11_day_0_0 3 (19, .iconst (-1), 1) rfl
theorem dX11_day_20 : decode cX11_day 20 = .ok (.ireturn, 1) := dr9 dk9_dX11_day_0_0 4 (20, .ireturn, 1) rfl
theorem dX11_day_7 : decode cX11_day 7 = .ok (.aload_n 0, 1) := dr9 dk9_dX11_day_0_0 5 (7, .aload_n 0, 1) rfl
theorem dX11_day_8 : decode cX11_day 8 = .ok (.getfield 35, 3) := dr9 dk9_dX11_day_0_0 6 (8, .getfield 35, 3) rfl
theorem dX11_day_11 : decode cX11_day 11 = .ok (.iconst 1, 1) := dr9 dk9_dX11_day_0_0 7 (11, .iconst 1, 1) rfl
theorem dX11_day_12 : decode cX11_day 12 = .ok (.iconst 0, 1) := dr9 dk9_dX11_day_0_0 8 (12, .iconst 0, 1) rfl
theorem dX11_day_13 : decode cX11_day 13 = .ok (.invokevirtual 179, 3) := dr9 dk9_dX11_day_0_0 9 (13, .invokevirtual 179, 3) rfl
theorem dX11_day_16 : decode cX11_day 16 = .ok (.goto 4, 3) := dr9 dk9_dX11_day_0_0 10 (16, .goto 4, 3) rfl
theorem dk9_dX11_meal_0_0 : dOk cX11_meal [(0, .aload_n 0, 1), (1, .getfield 35, 3), (4, .iload_n 1, 1), (5, .invokevirtual 182, 3), (8, .ifCond .eq 20, 3), (28, .iconst 0, 1), (29, .istore_n 2, 1), (30, .aload_n 0, 1), (31, .getfield 89, 3), (34, .ifCond .eq 19, 3), (53, .iconst (-1), 1), (54, .ireturn, 1), (37, .iload_n 2, 1), (38, .ifCond .eq 15, 3), (11, .aload_n 0, 1), (12, .getfield 35, 3), (15, .getfield 185, 3), (18, .iload_n 1, 1), (19, .iaload, 1), (20, .iconst 1, 1), (21, .if_icmp .ne 7, 3), (24, .iconst 1, 1), (25, .goto 4, 3), (41, .aload_n 0, 1)] = true ∧ dOk cX11_meal [(42, .getfield 35, 3), (45, .iconst 2, 1), (46, .iload_n 1, 1), (47, .invokevirtual 179, 3), (50, .goto 4, 3)] = true := by decide +kernel
theorem dX11_meal_0 : decode cX11_meal 0 = .ok (.aload_n 0, 1) := dr9 dk9_dX11_meal_0_0.1 0 (0, .aload_n 0, 1) rfl
theorem dX11_meal_1 : decode cX11_meal 1 = .ok (.getfield 35, 3) := dr9 dk9_dX11_meal_0_0.1 1 (1, .getfield 35, 3) rfl
theorem dX11_meal_4 : decode cX11_meal 4 = .ok (.iload_n 1, 1) := dr9 dk9_dX11_meal_0_0.1 2 (4, .iload_n 1, 1) rfl
theorem dX11_meal_5 : decode cX11_meal 5 = .ok (.invokevirtual 182, 3) := dr9 dk9_dX11_meal_0_0.1 3 (5, .invokevirtual 182, 3) rfl
theorem dX11_meal_8 : decode cX11_meal 8 = .ok (.ifCond .eq 20, 3) := dr9 dk9_dX11_meal_0_0.1 4 (8, .ifCond .eq 20, 3) rfl
theorem dX11_meal_28 : decode cX11_meal 28 = .ok (.iconst 0, 1) := dr9 dk9_dX11_meal_0_0.1 5 (28, .iconst 0, 1) rfl
theorem dX11_meal_29 : decode cX11_meal 29 = .ok (.istore_n 2, 1) := dr9 dk9_dX11_meal_0_0.1 6 (29, .istore_n 2, 1) rfl
theorem dX11_meal_30 : decode cX11_meal 30 = .ok (.aload_n 0, 1) := dr9 dk9_dX11_meal_0_0.1 7 (30, .aload_n 0, 1) rfl
theorem dX11_meal_31 : decode cX11_meal 31 = .ok (.getfield 89, 3) := dr9 dk9_dX11_meal_0_0.1 8 (31, .getfield 89, 3) rfl
theorem dX11_meal_34 : decode cX11_meal 34 = .ok (.ifCond .eq 19, 3) := dr9 dk9_dX11_meal_0_0.1 9 (34, .ifCond .eq 19, 3) rfl
theorem dX11_meal_53 : decode cX11_meal 53 = .ok (.iconst (-1), 1) := dr9 dk9_dX11_meal_0_0.1 10 (53, .iconst (-1), 1) rfl
theorem dX11_meal_54 : decode cX11_meal 54 = .ok (.ireturn, 1) := dr9 dk9_dX11_meal_0_0.1 11 (54, .ireturn, 1) rfl
theorem dX11_meal_37 : decode cX11_meal 37 = .ok (.iload_n 2, 1) := dr9 dk9_dX11_meal_0_0.1 12 (37, .iload_n 2, 1) rfl
theorem dX11_meal_38 : decode cX11_meal 38 = .ok (.ifCond .eq 15, 3) := dr9 dk9_dX11_meal_0_0.1 13 (38, .ifCond .eq 15, 3) rfl
theorem dX11_meal_11 : decode cX11_meal 11 = .ok (.aload_n 0, 1) := dr9 dk9_dX11_meal_0_0.1 14 (11, .aload_n 0, 1) rfl
theorem dX11_meal_12 : decode cX11_meal 12 = .ok (.getfield 35, 3) := dr9 dk9_dX11_meal_0_0.1 15 (12, .getfield 35, 3) rfl
theorem dX11_meal_15 : decode cX11_meal 15 = .ok (.getfield 185, 3) := dr9 dk9_dX11_meal_0_0.1 16 (15, .getfield 185, 3) rfl
theorem dX11_meal_18 : decode cX11_meal 18 = .ok (.iload_n 1, 1) := dr9 dk9_dX11_meal_0_0.1 17 (18, .iload_n 1, 1) rfl
theorem dX11_meal_19 : decode cX11_meal 19 = .ok (.iaload, 1) := dr9 dk9_dX11_meal_0_0.1 18 (19, .iaload, 1) rfl
theorem dX11_meal_20 : decode cX11_meal 20 = .ok (.iconst 1, 1) := dr9 dk9_dX11_meal_0_0.1 19 (20, .iconst 1, 1) rfl
theorem dX11_meal_21 : decode cX11_meal 21 = .ok (.if_icmp .ne 7, 3) := dr9 dk9_dX11_meal_0_0.1 20 (21, .if_icmp .ne 7, 3) rfl
theorem dX11_meal_24 : decode cX11_meal 24 = .ok (.iconst 1, 1) := dr9 dk9_dX11_meal_0_0.1 21 (24, .iconst 1, 1) rfl
theorem dX11_meal_25 : decode cX11_meal 25 = .ok (.goto 4, 3) := dr9 dk9_dX11_meal_0_0.1 22 (25, .goto 4, 3) rfl
theorem dX11_meal_41 : decode cX11_meal 41 = .ok (.aload_n 0, 1) := dr9 dk9_dX11_meal_0_0.1 23 (41, .aload_n 0, 1) rfl
theorem dX11_meal_42 : decode cX11_meal 42 = .ok (.getfield 35, 3) := dr9 dk9_dX11_meal_0_0.2 0 (42, .getfield 35, 3) rfl
theorem dX11_meal_45 : decode cX11_meal 45 = .ok (.iconst 2, 1) := dr9 dk9_dX11_meal_0_0.2 1 (45, .iconst 2, 1) rfl
theorem dX11_meal_46 : decode cX11_meal 46 = .ok (.iload_n 1, 1) := dr9 dk9_dX11_meal_0_0.2 2 (46, .iload_n 1, 1) rfl
theorem dX11_meal_47 : decode cX11_meal 47 = .ok (.invokevirtual 179, 3) := dr9 dk9_dX11_meal_0_0.2 3 (47, .invokevirtual 179, 3) rfl
theorem dX11_meal_50 : decode cX11_meal 50 = .ok (.goto 4, 3) := dr9 dk9_dX11_meal_0_0.2 4 (50, .goto 4, 3) rfl
theorem dk9_dX11_spoiled_0_0 : dOk cX11_spoiled [(0, .aload_n 0, 1), (1, .getfield 35, 3), (4, .iload_n 1, 1), (5, .invokevirtual 182, 3), (8, .ifCond .eq 14, 3), (22, .iconst (-1), 1), (23, .ireturn, 1), (11, .aload_n 0, 1), (12, .getfield 49, 3), (15, .iload_n 2, 1), (16, .invokevirtual 136, 3), (19, .ifCond .ne 5, 3), (24, .aload_n 0, 1), (25, .getfield 35, 3), (28, .aload_n 0, 1), (29, .getfield 49, 3), (32, .getfield 147, 3), (35, .iload_n 2, 1), (36, .aaload, 1), (37, .getfield 151, 3), (40, .iload_n 1, 1), (41, .invokevirtual 271, 3), (44, .istore_n 3, 1), (45, .iload_n 3, 1)] = true ∧ dOk cX11_spoiled [(46, .iconst (-1), 1), (47, .if_icmp .eq 19, 3), (66, .iconst 0, 1), (67, .ireturn, 1), (50, .aload_n 0, 1), (51, .getfield 35, 3), (54, .iload_n 3, 1), (55, .iload_n 2, 1), (56, .invokevirtual 274, 3), (59, .ifCond .eq 7, 3), (62, .iconst 1, 1), (63, .goto 4, 3)] = true := by decide +kernel
theorem dX11_spoiled_0 : decode cX11_spoiled 0 = .ok (.aload_n 0, 1) := dr9 dk9_dX11_spoiled_0_0.1 0 (0, .aload_n 0, 1) rfl
theorem dX11_spoiled_1 : decode cX11_spoiled 1 = .ok (.getfield 35, 3) := dr9 dk9_dX11_spoiled_0_0.1 1 (1, .getfield 35, 3) rfl
theorem dX11_spoiled_4 : decode cX11_spoiled 4 = .ok (.iload_n 1, 1) := dr9 dk9_dX11_spoiled_0_0.1 2 (4, .iload_n 1, 1) rfl
theorem dX11_spoiled_5 : decode cX11_spoiled 5 = .ok (.invokevirtual 182, 3) := dr9 dk9_dX11_spoiled_0_0.1 3 (5, .invokevirtual 182, 3) rfl
theorem dX11_spoiled_8 : decode cX11_spoiled 8 = .ok (.ifCond .eq 14, 3) := dr9 dk9_dX11_spoiled_0_0.1 4 (8, .ifCond .eq 14, 3) rfl
theorem dX11_spoiled_22 : decode cX11_spoiled 22 = .ok (.iconst (-1), 1) := dr9 dk9_dX11_spoiled_0_0.1 5 (22, .iconst (-1), 1) rfl
theorem dX11_spoiled_23 : decode cX11_spoiled 23 = .ok (.ireturn, 1) := dr9 dk9_dX11_spoiled_0_0.1 6 (23, .ireturn, 1) rfl
theorem dX11_spoiled_11 : decode cX11_spoiled 11 = .ok (.aload_n 0, 1) := dr9 dk9_dX11_spoiled_0_0.1 7 (11, .aload_n 0, 1) rfl
theorem dX11_spoiled_12 : decode cX11_spoiled 12 = .ok (.getfield 49, 3) := dr9 dk9_dX11_spoiled_0_0.1 8 (12, .getfield 49, 3) rfl
theorem dX11_spoiled_15 : decode cX11_spoiled 15 = .ok (.iload_n 2, 1) := dr9 dk9_dX11_spoiled_0_0.1 9 (15, .iload_n 2, 1) rfl
theorem dX11_spoiled_16 : decode cX11_spoiled 16 = .ok (.invokevirtual 136, 3) := dr9 dk9_dX11_spoiled_0_0.1 10 (16, .invokevirtual 136, 3) rfl
theorem dX11_spoiled_19 : decode cX11_spoiled 19 = .ok (.ifCond .ne 5, 3) := dr9 dk9_dX11_spoiled_0_0.1 11 (19, .ifCond .ne 5, 3) rfl
theorem dX11_spoiled_24 : decode cX11_spoiled 24 = .ok (.aload_n 0, 1) := dr9 dk9_dX11_spoiled_0_0.1 12 (24, .aload_n 0, 1) rfl
theorem dX11_spoiled_25 : decode cX11_spoiled 25 = .ok (.getfield 35, 3) := dr9 dk9_dX11_spoiled_0_0.1 13 (25, .getfield 35, 3) rfl
theorem dX11_spoiled_28 : decode cX11_spoiled 28 = .ok (.aload_n 0, 1) := dr9 dk9_dX11_spoiled_0_0.1 14 (28, .aload_n 0, 1) rfl
theorem dX11_spoiled_29 : decode cX11_spoiled 29 = .ok (.getfield 49, 3) := dr9 dk9_dX11_spoiled_0_0.1 15 (29, .getfield 49, 3) rfl
theorem dX11_spoiled_32 : decode cX11_spoiled 32 = .ok (.getfield 147, 3) := dr9 dk9_dX11_spoiled_0_0.1 16 (32, .getfield 147, 3) rfl
theorem dX11_spoiled_35 : decode cX11_spoiled 35 = .ok (.iload_n 2, 1) := dr9 dk9_dX11_spoiled_0_0.1 17 (35, .iload_n 2, 1) rfl
theorem dX11_spoiled_36 : decode cX11_spoiled 36 = .ok (.aaload, 1) := dr9 dk9_dX11_spoiled_0_0.1 18 (36, .aaload, 1) rfl
theorem dX11_spoiled_37 : decode cX11_spoiled 37 = .ok (.getfield 151, 3) := dr9 dk9_dX11_spoiled_0_0.1 19 (37, .getfield 151, 3) rfl
theorem dX11_spoiled_40 : decode cX11_spoiled 40 = .ok (.iload_n 1, 1) := dr9 dk9_dX11_spoiled_0_0.1 20 (40, .iload_n 1, 1) rfl
theorem dX11_spoiled_41 : decode cX11_spoiled 41 = .ok (.invokevirtual 271, 3) := dr9 dk9_dX11_spoiled_0_0.1 21 (41, .invokevirtual 271, 3) rfl
theorem dX11_spoiled_44 : decode cX11_spoiled 44 = .ok (.istore_n 3, 1) := dr9 dk9_dX11_spoiled_0_0.1 22 (44, .istore_n 3, 1) rfl
theorem dX11_spoiled_45 : decode cX11_spoiled 45 = .ok (.iload_n 3, 1) := dr9 dk9_dX11_spoiled_0_0.1 23 (45, .iload_n 3, 1) rfl
theorem dX11_spoiled_46 : decode cX11_spoiled 46 = .ok (.iconst (-1), 1) := dr9 dk9_dX11_spoiled_0_0.2 0 (46, .iconst (-1), 1) rfl
theorem dX11_spoiled_47 : decode cX11_spoiled 47 = .ok (.if_icmp .eq 19, 3) := dr9 dk9_dX11_spoiled_0_0.2 1 (47, .if_icmp .eq 19, 3) rfl
theorem dX11_spoiled_66 : decode cX11_spoiled 66 = .ok (.iconst 0, 1) := dr9 dk9_dX11_spoiled_0_0.2 2 (66, .iconst 0, 1) rfl
theorem dX11_spoiled_67 : decode cX11_spoiled 67 = .ok (.ireturn, 1) := dr9 dk9_dX11_spoiled_0_0.2 3 (67, .ireturn, 1) rfl
theorem dX11_spoiled_50 : decode cX11_spoiled 50 = .ok (.aload_n 0, 1) := dr9 dk9_dX11_spoiled_0_0.2 4 (50, .aload_n 0, 1) rfl
theorem dX11_spoiled_51 : decode cX11_spoiled 51 = .ok (.getfield 35, 3) := dr9 dk9_dX11_spoiled_0_0.2 5 (51, .getfield 35, 3) rfl
theorem dX11_spoiled_54 : decode cX11_spoiled 54 = .ok (.iload_n 3, 1) := dr9 dk9_dX11_spoiled_0_0.2 6 (54, .iload_n 3, 1) rfl
theorem dX11_spoiled_55 : decode cX11_spoiled 55 = .ok (.iload_n 2, 1) := dr9 dk9_dX11_spoiled_0_0.2 7 (55, .iload_n 2, 1) rfl
theorem dX11_spoiled_56 : decode cX11_spoiled 56 = .ok (.invokevirtual 274, 3) := dr9 dk9_dX11_spoiled_0_0.2 8 (56, .invokevirtual 274, 3) rfl
theorem dX11_spoiled_59 : decode cX11_spoiled 59 = .ok (.ifCond .eq 7, 3) := dr9 dk9_dX11_spoiled_0_0.2 9 (59, .ifCond .eq 7, 3) rfl
theorem dX11_spoiled_62 : decode cX11_spoiled 62 = .ok (.iconst 1, 1) := dr9 dk9_dX11_spoiled_0_0.2 10 (62, .iconst 1, 1) rfl
theorem dX11_spoiled_63 : decode cX11_spoiled 63 = .ok (.goto 4, 3) := dr9 dk9_dX11_spoiled_0_0.2 11 (63, .goto 4, 3) rfl
theorem dk9_dX11_count_0_0 : dOk cX11_count [(0, .iload_n 1, 1), (1, .tableswitch 188 0 12 #[67, 78, 89, 100, 111, 119, 127, 135, 143, 156, 164, 172, 180], 67), (68, .aload_n 0, 1), (69, .getfield 49, 3), (72, .getfield 281, 3), (75, .getfield 117, 3), (78, .ireturn, 1), (79, .aload_n 0, 1), (80, .getfield 49, 3), (83, .getfield 113, 3), (86, .getfield 117, 3), (89, .ireturn, 1), (90, .aload_n 0, 1), (91, .getfield 49, 3), (94, .getfield 284, 3), (97, .getfield 117, 3), (100, .ireturn, 1), (101, .aload_n 0, 1), (102, .getfield 49, 3), (105, .getfield 218, 3), (108, .getfield 117, 3), (111, .ireturn, 1), (112, .aload_n 0, 1), (113, .getfield 49, 3)] = true ∧ dOk cX11_count [(116, .getfield 287, 3), (119, .ireturn, 1), (120, .aload_n 0, 1), (121, .getfield 35, 3), (124, .invokevirtual 290, 3), (127, .ireturn, 1), (128, .aload_n 0, 1), (129, .getfield 35, 3), (132, .getfield 293, 3), (135, .ireturn, 1), (136, .aload_n 0, 1), (137, .getfield 35, 3), (140, .invokevirtual 296, 3), (143, .ireturn, 1), (144, .aload_n 0, 1), (145, .getfield 89, 3), (148, .ifCond .eq 7, 3), (155, .iconst 0, 1), (156, .ireturn, 1), (151, .iconst 1, 1), (152, .goto 4, 3), (157, .aload_n 0, 1), (158, .getfield 61, 3), (161, .getfield 299, 3)] = true ∧ dOk cX11_count [(164, .ireturn, 1), (165, .aload_n 0, 1), (166, .getfield 61, 3), (169, .getfield 302, 3), (172, .ireturn, 1), (173, .aload_n 0, 1), (174, .getfield 28, 3), (177, .getfield 305, 3), (180, .ireturn, 1), (181, .aload_n 0, 1), (182, .getfield 10, 3), (185, .getfield 69, 3), (188, .ireturn, 1), (189, .iconst (-1), 1), (190, .ireturn, 1)] = true := by decide +kernel
theorem dX11_count_0 : decode cX11_count 0 = .ok (.iload_n 1, 1) := dr9 dk9_dX11_count_0_0.1 0 (0, .iload_n 1, 1) rfl
theorem dX11_count_1 : decode cX11_count 1 = .ok (.tableswitch 188 0 12 #[67, 78, 89, 100, 111, 119, 127, 135, 143, 156, 164, 172, 180], 67) := dr9 dk9_dX11_count_0_0.1 1 (1, .tableswitch 188 0 12 #[67, 78, 89, 100, 111, 119, 127, 135, 143, 156, 164, 172, 180], 67) rfl
theorem dX11_count_68 : decode cX11_count 68 = .ok (.aload_n 0, 1) := dr9 dk9_dX11_count_0_0.1 2 (68, .aload_n 0, 1) rfl
theorem dX11_count_69 : decode cX11_count 69 = .ok (.getfield 49, 3) := dr9 dk9_dX11_count_0_0.1 3 (69, .getfield 49, 3) rfl
theorem dX11_count_72 : decode cX11_count 72 = .ok (.getfield 281, 3) := dr9 dk9_dX11_count_0_0.1 4 (72, .getfield 281, 3) rfl
theorem dX11_count_75 : decode cX11_count 75 = .ok (.getfield 117, 3) := dr9 dk9_dX11_count_0_0.1 5 (75, .getfield 117, 3) rfl
theorem dX11_count_78 : decode cX11_count 78 = .ok (.ireturn, 1) := dr9 dk9_dX11_count_0_0.1 6 (78, .ireturn, 1) rfl
theorem dX11_count_79 : decode cX11_count 79 = .ok (.aload_n 0, 1) := dr9 dk9_dX11_count_0_0.1 7 (79, .aload_n 0, 1) rfl
theorem dX11_count_80 : decode cX11_count 80 = .ok (.getfield 49, 3) := dr9 dk9_dX11_count_0_0.1 8 (80, .getfield 49, 3) rfl
theorem dX11_count_83 : decode cX11_count 83 = .ok (.getfield 113, 3) := dr9 dk9_dX11_count_0_0.1 9 (83, .getfield 113, 3) rfl
theorem dX11_count_86 : decode cX11_count 86 = .ok (.getfield 117, 3) := dr9 dk9_dX11_count_0_0.1 10 (86, .getfield 117, 3) rfl
theorem dX11_count_89 : decode cX11_count 89 = .ok (.ireturn, 1) := dr9 dk9_dX11_count_0_0.1 11 (89, .ireturn, 1) rfl
theorem dX11_count_90 : decode cX11_count 90 = .ok (.aload_n 0, 1) := dr9 dk9_dX11_count_0_0.1 12 (90, .aload_n 0, 1) rfl
theorem dX11_count_91 : decode cX11_count 91 = .ok (.getfield 49, 3) := dr9 dk9_dX11_count_0_0.1 13 (91, .getfield 49, 3) rfl
theorem dX11_count_94 : decode cX11_count 94 = .ok (.getfield 284, 3) := dr9 dk9_dX11_count_0_0.1 14 (94, .getfield 284, 3) rfl
theorem dX11_count_97 : decode cX11_count 97 = .ok (.getfield 117, 3) := dr9 dk9_dX11_count_0_0.1 15 (97, .getfield 117, 3) rfl
theorem dX11_count_100 : decode cX11_count 100 = .ok (.ireturn, 1) := dr9 dk9_dX11_count_0_0.1 16 (100, .ireturn, 1) rfl
theorem dX11_count_101 : decode cX11_count 101 = .ok (.aload_n 0, 1) := dr9 dk9_dX11_count_0_0.1 17 (101, .aload_n 0, 1) rfl
theorem dX11_count_102 : decode cX11_count 102 = .ok (.getfield 49, 3) := dr9 dk9_dX11_count_0_0.1 18 (102, .getfield 49, 3) rfl
theorem dX11_count_105 : decode cX11_count 105 = .ok (.getfield 218, 3) := dr9 dk9_dX11_count_0_0.1 19 (105, .getfield 218, 3) rfl
theorem dX11_count_108 : decode cX11_count 108 = .ok (.getfield 117, 3) := dr9 dk9_dX11_count_0_0.1 20 (108, .getfield 117, 3) rfl
theorem dX11_count_111 : decode cX11_count 111 = .ok (.ireturn, 1) := dr9 dk9_dX11_count_0_0.1 21 (111, .ireturn, 1) rfl
theorem dX11_count_112 : decode cX11_count 112 = .ok (.aload_n 0, 1) := dr9 dk9_dX11_count_0_0.1 22 (112, .aload_n 0, 1) rfl
theorem dX11_count_113 : decode cX11_count 113 = .ok (.getfield 49, 3) := dr9 dk9_dX11_count_0_0.1 23 (113, .getfield 49, 3) rfl
theorem dX11_count_116 : decode cX11_count 116 = .ok (.getfield 287, 3) := dr9 dk9_dX11_count_0_0.2.1 0 (116, .getfield 287, 3) rfl
theorem dX11_count_119 : decode cX11_count 119 = .ok (.ireturn, 1) := dr9 dk9_dX11_count_0_0.2.1 1 (119, .ireturn, 1) rfl
theorem dX11_count_120 : decode cX11_count 120 = .ok (.aload_n 0, 1) := dr9 dk9_dX11_count_0_0.2.1 2 (120, .aload_n 0, 1) rfl
theorem dX11_count_121 : decode cX11_count 121 = .ok (.getfield 35, 3) := dr9 dk9_dX11_count_0_0.2.1 3 (121, .getfield 35, 3) rfl
theorem dX11_count_124 : decode cX11_count 124 = .ok (.invokevirtual 290, 3) := dr9 dk9_dX11_count_0_0.2.1 4 (124, .invokevirtual 290, 3) rfl
theorem dX11_count_127 : decode cX11_count 127 = .ok (.ireturn, 1) := dr9 dk9_dX11_count_0_0.2.1 5 (127, .ireturn, 1) rfl
theorem dX11_count_128 : decode cX11_count 128 = .ok (.aload_n 0, 1) := dr9 dk9_dX11_count_0_0.2.1 6 (128, .aload_n 0, 1) rfl
theorem dX11_count_129 : decode cX11_count 129 = .ok (.getfield 35, 3) := dr9 dk9_dX11_count_0_0.2.1 7 (129, .getfield 35, 3) rfl
theorem dX11_count_132 : decode cX11_count 132 = .ok (.getfield 293, 3) := dr9 dk9_dX11_count_0_0.2.1 8 (132, .getfield 293, 3) rfl
theorem dX11_count_135 : decode cX11_count 135 = .ok (.ireturn, 1) := dr9 dk9_dX11_count_0_0.2.1 9 (135, .ireturn, 1) rfl
theorem dX11_count_136 : decode cX11_count 136 = .ok (.aload_n 0, 1) := dr9 dk9_dX11_count_0_0.2.1 10 (136, .aload_n 0, 1) rfl
theorem dX11_count_137 : decode cX11_count 137 = .ok (.getfield 35, 3) := dr9 dk9_dX11_count_0_0.2.1 11 (137, .getfield 35, 3) rfl
theorem dX11_count_140 : decode cX11_count 140 = .ok (.invokevirtual 296, 3) := dr9 dk9_dX11_count_0_0.2.1 12 (140, .invokevirtual 296, 3) rfl
theorem dX11_count_143 : decode cX11_count 143 = .ok (.ireturn, 1) := dr9 dk9_dX11_count_0_0.2.1 13 (143, .ireturn, 1) rfl
theorem dX11_count_144 : decode cX11_count 144 = .ok (.aload_n 0, 1) := dr9 dk9_dX11_count_0_0.2.1 14 (144, .aload_n 0, 1) rfl
theorem dX11_count_145 : decode cX11_count 145 = .ok (.getfield 89, 3) := dr9 dk9_dX11_count_0_0.2.1 15 (145, .getfield 89, 3) rfl
theorem dX11_count_148 : decode cX11_count 148 = .ok (.ifCond .eq 7, 3) := dr9 dk9_dX11_count_0_0.2.1 16 (148, .ifCond .eq 7, 3) rfl
theorem dX11_count_155 : decode cX11_count 155 = .ok (.iconst 0, 1) := dr9 dk9_dX11_count_0_0.2.1 17 (155, .iconst 0, 1) rfl
theorem dX11_count_156 : decode cX11_count 156 = .ok (.ireturn, 1) := dr9 dk9_dX11_count_0_0.2.1 18 (156, .ireturn, 1) rfl
theorem dX11_count_151 : decode cX11_count 151 = .ok (.iconst 1, 1) := dr9 dk9_dX11_count_0_0.2.1 19 (151, .iconst 1, 1) rfl
theorem dX11_count_152 : decode cX11_count 152 = .ok (.goto 4, 3) := dr9 dk9_dX11_count_0_0.2.1 20 (152, .goto 4, 3) rfl
theorem dX11_count_157 : decode cX11_count 157 = .ok (.aload_n 0, 1) := dr9 dk9_dX11_count_0_0.2.1 21 (157, .aload_n 0, 1) rfl
theorem dX11_count_158 : decode cX11_count 158 = .ok (.getfield 61, 3) := dr9 dk9_dX11_count_0_0.2.1 22 (158, .getfield 61, 3) rfl
theorem dX11_count_161 : decode cX11_count 161 = .ok (.getfield 299, 3) := dr9 dk9_dX11_count_0_0.2.1 23 (161, .getfield 299, 3) rfl
theorem dX11_count_164 : decode cX11_count 164 = .ok (.ireturn, 1) := dr9 dk9_dX11_count_0_0.2.2 0 (164, .ireturn, 1) rfl
theorem dX11_count_165 : decode cX11_count 165 = .ok (.aload_n 0, 1) := dr9 dk9_dX11_count_0_0.2.2 1 (165, .aload_n 0, 1) rfl
theorem dX11_count_166 : decode cX11_count 166 = .ok (.getfield 61, 3) := dr9 dk9_dX11_count_0_0.2.2 2 (166, .getfield 61, 3) rfl
theorem dX11_count_169 : decode cX11_count 169 = .ok (.getfield 302, 3) := dr9 dk9_dX11_count_0_0.2.2 3 (169, .getfield 302, 3) rfl
theorem dX11_count_172 : decode cX11_count 172 = .ok (.ireturn, 1) := dr9 dk9_dX11_count_0_0.2.2 4 (172, .ireturn, 1) rfl
theorem dX11_count_173 : decode cX11_count 173 = .ok (.aload_n 0, 1) := dr9 dk9_dX11_count_0_0.2.2 5 (173, .aload_n 0, 1) rfl
theorem dX11_count_174 : decode cX11_count 174 = .ok (.getfield 28, 3) := dr9 dk9_dX11_count_0_0.2.2 6 (174, .getfield 28, 3) rfl
theorem dX11_count_177 : decode cX11_count 177 = .ok (.getfield 305, 3) := dr9 dk9_dX11_count_0_0.2.2 7 (177, .getfield 305, 3) rfl
theorem dX11_count_180 : decode cX11_count 180 = .ok (.ireturn, 1) := dr9 dk9_dX11_count_0_0.2.2 8 (180, .ireturn, 1) rfl
theorem dX11_count_181 : decode cX11_count 181 = .ok (.aload_n 0, 1) := dr9 dk9_dX11_count_0_0.2.2 9 (181, .aload_n 0, 1) rfl
theorem dX11_count_182 : decode cX11_count 182 = .ok (.getfield 10, 3) := dr9 dk9_dX11_count_0_0.2.2 10 (182, .getfield 10, 3) rfl
theorem dX11_count_185 : decode cX11_count 185 = .ok (.getfield 69, 3) := dr9 dk9_dX11_count_0_0.2.2 11 (185, .getfield 69, 3) rfl
theorem dX11_count_188 : decode cX11_count 188 = .ok (.ireturn, 1) := dr9 dk9_dX11_count_0_0.2.2 12 (188, .ireturn, 1) rfl
theorem dX11_count_189 : decode cX11_count 189 = .ok (.iconst (-1), 1) := dr9 dk9_dX11_count_0_0.2.2 13 (189, .iconst (-1), 1) rfl
theorem dX11_count_190 : decode cX11_count 190 = .ok (.ireturn, 1) := dr9 dk9_dX11_count_0_0.2.2 14 (190, .ireturn, 1) rfl
theorem dk9_dX11_check_0_0 : dOk cX11_check [(0, .aload_n 0, 1), (1, .getfield 28, 3), (4, .aload_n 0, 1), (5, .getfield 49, 3), (8, .invokevirtual 126, 3), (11, .istore_n 1, 1), (12, .aload_n 0, 1), (13, .iload_n 1, 1), (14, .ifCond .ne 7, 3), (21, .iconst 0, 1), (22, .putfield 89, 3), (25, .iload_n 1, 1), (26, .ireturn, 1), (17, .iconst 1, 1), (18, .goto 4, 3)] = true := by decide +kernel
theorem dX11_check_0 : decode cX11_check 0 = .ok (.aload_n 0, 1) := dr9 dk9_dX11_check_0_0 0 (0, .aload_n 0, 1) rfl
theorem dX11_check_1 : decode cX11_check 1 = .ok (.getfield 28, 3) := dr9 dk9_dX11_check_0_0 1 (1, .getfield 28, 3) rfl
theorem dX11_check_4 : decode cX11_check 4 = .ok (.aload_n 0, 1) := dr9 dk9_dX11_check_0_0 2 (4, .aload_n 0, 1) rfl
theorem dX11_check_5 : decode cX11_check 5 = .ok (.getfield 49, 3) := dr9 dk9_dX11_check_0_0 3 (5, .getfield 49, 3) rfl
theorem dX11_check_8 : decode cX11_check 8 = .ok (.invokevirtual 126, 3) := dr9 dk9_dX11_check_0_0 4 (8, .invokevirtual 126, 3) rfl
theorem dX11_check_11 : decode cX11_check 11 = .ok (.istore_n 1, 1) := dr9 dk9_dX11_check_0_0 5 (11, .istore_n 1, 1) rfl
theorem dX11_check_12 : decode cX11_check 12 = .ok (.aload_n 0, 1) := dr9 dk9_dX11_check_0_0 6 (12, .aload_n 0, 1) rfl
theorem dX11_check_13 : decode cX11_check 13 = .ok (.iload_n 1, 1) := dr9 dk9_dX11_check_0_0 7 (13, .iload_n 1, 1) rfl
theorem dX11_check_14 : decode cX11_check 14 = .ok (.ifCond .ne 7, 3) := dr9 dk9_dX11_check_0_0 8 (14, .ifCond .ne 7, 3) rfl
theorem dX11_check_21 : decode cX11_check 21 = .ok (.iconst 0, 1) := dr9 dk9_dX11_check_0_0 9 (21, .iconst 0, 1) rfl
theorem dX11_check_22 : decode cX11_check 22 = .ok (.putfield 89, 3) := dr9 dk9_dX11_check_0_0 10 (22, .putfield 89, 3) rfl
theorem dX11_check_25 : decode cX11_check 25 = .ok (.iload_n 1, 1) := dr9 dk9_dX11_check_0_0 11 (25, .iload_n 1, 1) rfl
theorem dX11_check_26 : decode cX11_check 26 = .ok (.ireturn, 1) := dr9 dk9_dX11_check_0_0 12 (26, .ireturn, 1) rfl
theorem dX11_check_17 : decode cX11_check 17 = .ok (.iconst 1, 1) := dr9 dk9_dX11_check_0_0 13 (17, .iconst 1, 1) rfl
theorem dX11_check_18 : decode cX11_check 18 = .ok (.goto 4, 3) := dr9 dk9_dX11_check_0_0 14 (18, .goto 4, 3) rfl
theorem dk9_dX5_restart_0_0 : dOk cX5_restart [(0, .aload_n 0, 1), (1, .iconst 0, 1), (2, .putfield 39, 3), (5, .aload_n 0, 1), (6, .iconst 0, 1), (7, .putfield 43, 3), (10, .aload_n 0, 1), (11, .iconst 0, 1), (12, .putfield 46, 3), (15, .aload_n 0, 1), (16, .iconst 0, 1), (17, .putfield 49, 3), (20, .aload_n 0, 1), (21, .iconst 0, 1), (22, .putfield 52, 3), (25, .return_, 1)] = true := by decide +kernel
theorem dX5_restart_0 : decode cX5_restart 0 = .ok (.aload_n 0, 1) := dr9 dk9_dX5_restart_0_0 0 (0, .aload_n 0, 1) rfl
theorem dX5_restart_1 : decode cX5_restart 1 = .ok (.iconst 0, 1) := dr9 dk9_dX5_restart_0_0 1 (1, .iconst 0, 1) rfl
theorem dX5_restart_2 : decode cX5_restart 2 = .ok (.putfield 39, 3) := dr9 dk9_dX5_restart_0_0 2 (2, .putfield 39, 3) rfl
theorem dX5_restart_5 : decode cX5_restart 5 = .ok (.aload_n 0, 1) := dr9 dk9_dX5_restart_0_0 3 (5, .aload_n 0, 1) rfl
theorem dX5_restart_6 : decode cX5_restart 6 = .ok (.iconst 0, 1) := dr9 dk9_dX5_restart_0_0 4 (6, .iconst 0, 1) rfl
theorem dX5_restart_7 : decode cX5_restart 7 = .ok (.putfield 43, 3) := dr9 dk9_dX5_restart_0_0 5 (7, .putfield 43, 3) rfl
theorem dX5_restart_10 : decode cX5_restart 10 = .ok (.aload_n 0, 1) := dr9 dk9_dX5_restart_0_0 6 (10, .aload_n 0, 1) rfl
theorem dX5_restart_11 : decode cX5_restart 11 = .ok (.iconst 0, 1) := dr9 dk9_dX5_restart_0_0 7 (11, .iconst 0, 1) rfl
theorem dX5_restart_12 : decode cX5_restart 12 = .ok (.putfield 46, 3) := dr9 dk9_dX5_restart_0_0 8 (12, .putfield 46, 3) rfl
theorem dX5_restart_15 : decode cX5_restart 15 = .ok (.aload_n 0, 1) := dr9 dk9_dX5_restart_0_0 9 (15, .aload_n 0, 1) rfl
theorem dX5_restart_16 : decode cX5_restart 16 = .ok (.iconst 0, 1) := dr9 dk9_dX5_restart_0_0 10 (16, .iconst 0, 1) rfl
theorem dX5_restart_17 : decode cX5_restart 17 = .ok (.putfield 49, 3) := dr9 dk9_dX5_restart_0_0 11 (17, .putfield 49, 3) rfl
theorem dX5_restart_20 : decode cX5_restart 20 = .ok (.aload_n 0, 1) := dr9 dk9_dX5_restart_0_0 12 (20, .aload_n 0, 1) rfl
theorem dX5_restart_21 : decode cX5_restart 21 = .ok (.iconst 0, 1) := dr9 dk9_dX5_restart_0_0 13 (21, .iconst 0, 1) rfl
theorem dX5_restart_22 : decode cX5_restart 22 = .ok (.putfield 52, 3) := dr9 dk9_dX5_restart_0_0 14 (22, .putfield 52, 3) rfl
theorem dX5_restart_25 : decode cX5_restart 25 = .ok (.return_, 1) := dr9 dk9_dX5_restart_0_0 15 (25, .return_, 1) rfl
theorem dk9_dX5_isSpent_0_0 : dOk cX5_isSpent [(0, .aload_n 0, 1), (1, .getfield 49, 3), (4, .iconst 3, 1), (5, .if_icmp .ne 7, 3), (12, .iconst 0, 1), (13, .ireturn, 1), (8, .iconst 1, 1), (9, .goto 4, 3)] = true := by decide +kernel
theorem dX5_isSpent_0 : decode cX5_isSpent 0 = .ok (.aload_n 0, 1) := dr9 dk9_dX5_isSpent_0_0 0 (0, .aload_n 0, 1) rfl
theorem dX5_isSpent_1 : decode cX5_isSpent 1 = .ok (.getfield 49, 3) := dr9 dk9_dX5_isSpent_0_0 1 (1, .getfield 49, 3) rfl
theorem dX5_isSpent_4 : decode cX5_isSpent 4 = .ok (.iconst 3, 1) := dr9 dk9_dX5_isSpent_0_0 2 (4, .iconst 3, 1) rfl
theorem dX5_isSpent_5 : decode cX5_isSpent 5 = .ok (.if_icmp .ne 7, 3) := dr9 dk9_dX5_isSpent_0_0 3 (5, .if_icmp .ne 7, 3) rfl
theorem dX5_isSpent_12 : decode cX5_isSpent 12 = .ok (.iconst 0, 1) := dr9 dk9_dX5_isSpent_0_0 4 (12, .iconst 0, 1) rfl
theorem dX5_isSpent_13 : decode cX5_isSpent 13 = .ok (.ireturn, 1) := dr9 dk9_dX5_isSpent_0_0 5 (13, .ireturn, 1) rfl
theorem dX5_isSpent_8 : decode cX5_isSpent 8 = .ok (.iconst 1, 1) := dr9 dk9_dX5_isSpent_0_0 6 (8, .iconst 1, 1) rfl
theorem dX5_isSpent_9 : decode cX5_isSpent 9 = .ok (.goto 4, 3) := dr9 dk9_dX5_isSpent_0_0 7 (9, .goto 4, 3) rfl
theorem dk9_dX5_howItEnded_0_0 : dOk cX5_howItEnded [(0, .aload_n 0, 1), (1, .getfield 49, 3), (4, .iconst 2, 1), (5, .if_icmp .ne 20, 3), (25, .aload_n 0, 1), (26, .getfield 49, 3), (29, .iconst 3, 1), (30, .if_icmp .ne 8, 3), (38, .iconst 0, 1), (39, .ireturn, 1), (33, .bipush 6, 2), (35, .goto 4, 3), (8, .aload_n 0, 1), (9, .getfield 32, 3), (12, .aload_n 0, 1), (13, .getfield 55, 3), (16, .aload_n 0, 1), (17, .getfield 58, 3), (20, .invokevirtual 61, 3), (23, .iconst 1, 1), (24, .ireturn, 1)] = true := by decide +kernel
theorem dX5_howItEnded_0 : decode cX5_howItEnded 0 = .ok (.aload_n 0, 1) := dr9 dk9_dX5_howItEnded_0_0 0 (0, .aload_n 0, 1) rfl
theorem dX5_howItEnded_1 : decode cX5_howItEnded 1 = .ok (.getfield 49, 3) := dr9 dk9_dX5_howItEnded_0_0 1 (1, .getfield 49, 3) rfl
theorem dX5_howItEnded_4 : decode cX5_howItEnded 4 = .ok (.iconst 2, 1) := dr9 dk9_dX5_howItEnded_0_0 2 (4, .iconst 2, 1) rfl
theorem dX5_howItEnded_5 : decode cX5_howItEnded 5 = .ok (.if_icmp .ne 20, 3) := dr9 dk9_dX5_howItEnded_0_0 3 (5, .if_icmp .ne 20, 3) rfl
theorem dX5_howItEnded_25 : decode cX5_howItEnded 25 = .ok (.aload_n 0, 1) := dr9 dk9_dX5_howItEnded_0_0 4 (25, .aload_n 0, 1) rfl
theorem dX5_howItEnded_26 : decode cX5_howItEnded 26 = .ok (.getfield 49, 3) := dr9 dk9_dX5_howItEnded_0_0 5 (26, .getfield 49, 3) rfl
theorem dX5_howItEnded_29 : decode cX5_howItEnded 29 = .ok (.iconst 3, 1) := dr9 dk9_dX5_howItEnded_0_0 6 (29, .iconst 3, 1) rfl
theorem dX5_howItEnded_30 : decode cX5_howItEnded 30 = .ok (.if_icmp .ne 8, 3) := dr9 dk9_dX5_howItEnded_0_0 7 (30, .if_icmp .ne 8, 3) rfl
theorem dX5_howItEnded_38 : decode cX5_howItEnded 38 = .ok (.iconst 0, 1) := dr9 dk9_dX5_howItEnded_0_0 8 (38, .iconst 0, 1) rfl
theorem dX5_howItEnded_39 : decode cX5_howItEnded 39 = .ok (.ireturn, 1) := dr9 dk9_dX5_howItEnded_0_0 9 (39, .ireturn, 1) rfl
theorem dX5_howItEnded_33 : decode cX5_howItEnded 33 = .ok (.bipush 6, 2) := dr9 dk9_dX5_howItEnded_0_0 10 (33, .bipush 6, 2) rfl
theorem dX5_howItEnded_35 : decode cX5_howItEnded 35 = .ok (.goto 4, 3) := dr9 dk9_dX5_howItEnded_0_0 11 (35, .goto 4, 3) rfl
theorem dX5_howItEnded_8 : decode cX5_howItEnded 8 = .ok (.aload_n 0, 1) := dr9 dk9_dX5_howItEnded_0_0 12 (8, .aload_n 0, 1) rfl
theorem dX5_howItEnded_9 : decode cX5_howItEnded 9 = .ok (.getfield 32, 3) := dr9 dk9_dX5_howItEnded_0_0 13 (9, .getfield 32, 3) rfl
theorem dX5_howItEnded_12 : decode cX5_howItEnded 12 = .ok (.aload_n 0, 1) := dr9 dk9_dX5_howItEnded_0_0 14 (12, .aload_n 0, 1) rfl
theorem dX5_howItEnded_13 : decode cX5_howItEnded 13 = .ok (.getfield 55, 3) := dr9 dk9_dX5_howItEnded_0_0 15 (13, .getfield 55, 3) rfl
theorem dX5_howItEnded_16 : decode cX5_howItEnded 16 = .ok (.aload_n 0, 1) := dr9 dk9_dX5_howItEnded_0_0 16 (16, .aload_n 0, 1) rfl
theorem dX5_howItEnded_17 : decode cX5_howItEnded 17 = .ok (.getfield 58, 3) := dr9 dk9_dX5_howItEnded_0_0 17 (17, .getfield 58, 3) rfl
theorem dX5_howItEnded_20 : decode cX5_howItEnded 20 = .ok (.invokevirtual 61, 3) := dr9 dk9_dX5_howItEnded_0_0 18 (20, .invokevirtual 61, 3) rfl
theorem dX5_howItEnded_23 : decode cX5_howItEnded 23 = .ok (.iconst 1, 1) := dr9 dk9_dX5_howItEnded_0_0 19 (23, .iconst 1, 1) rfl
theorem dX5_howItEnded_24 : decode cX5_howItEnded 24 = .ok (.ireturn, 1) := dr9 dk9_dX5_howItEnded_0_0 20 (24, .ireturn, 1) rfl
theorem dk9_dX5_answerOr_0_0 : dOk cX5_answerOr [(0, .aload_n 0, 1), (1, .getfield 49, 3), (4, .iconst 1, 1), (5, .if_icmp .ne 10, 3), (15, .iload_n 1, 1), (16, .ireturn, 1), (8, .aload_n 0, 1), (9, .getfield 67, 3), (12, .goto 4, 3)] = true := by decide +kernel
theorem dX5_answerOr_0 : decode cX5_answerOr 0 = .ok (.aload_n 0, 1) := dr9 dk9_dX5_answerOr_0_0 0 (0, .aload_n 0, 1) rfl
theorem dX5_answerOr_1 : decode cX5_answerOr 1 = .ok (.getfield 49, 3) := dr9 dk9_dX5_answerOr_0_0 1 (1, .getfield 49, 3) rfl
theorem dX5_answerOr_4 : decode cX5_answerOr 4 = .ok (.iconst 1, 1) := dr9 dk9_dX5_answerOr_0_0 2 (4, .iconst 1, 1) rfl
theorem dX5_answerOr_5 : decode cX5_answerOr 5 = .ok (.if_icmp .ne 10, 3) := dr9 dk9_dX5_answerOr_0_0 3 (5, .if_icmp .ne 10, 3) rfl
theorem dX5_answerOr_15 : decode cX5_answerOr 15 = .ok (.iload_n 1, 1) := dr9 dk9_dX5_answerOr_0_0 4 (15, .iload_n 1, 1) rfl
theorem dX5_answerOr_16 : decode cX5_answerOr 16 = .ok (.ireturn, 1) := dr9 dk9_dX5_answerOr_0_0 5 (16, .ireturn, 1) rfl
theorem dX5_answerOr_8 : decode cX5_answerOr 8 = .ok (.aload_n 0, 1) := dr9 dk9_dX5_answerOr_0_0 6 (8, .aload_n 0, 1) rfl
theorem dX5_answerOr_9 : decode cX5_answerOr 9 = .ok (.getfield 67, 3) := dr9 dk9_dX5_answerOr_0_0 7 (9, .getfield 67, 3) rfl
theorem dX5_answerOr_12 : decode cX5_answerOr 12 = .ok (.goto 4, 3) := dr9 dk9_dX5_answerOr_0_0 8 (12, .goto 4, 3) rfl
theorem dk9_dX5_leave_0_0 : dOk cX5_leave [(0, .aload_n 0, 1), (1, .dup, 1), (2, .getfield 39, 3), (5, .iconst 1, 1), (6, .isub, 1), (7, .putfield 39, 3), (10, .return_, 1)] = true := by decide +kernel
theorem dX5_leave_0 : decode cX5_leave 0 = .ok (.aload_n 0, 1) := dr9 dk9_dX5_leave_0_0 0 (0, .aload_n 0, 1) rfl
theorem dX5_leave_1 : decode cX5_leave 1 = .ok (.dup, 1) := dr9 dk9_dX5_leave_0_0 1 (1, .dup, 1) rfl
theorem dX5_leave_2 : decode cX5_leave 2 = .ok (.getfield 39, 3) := dr9 dk9_dX5_leave_0_0 2 (2, .getfield 39, 3) rfl
theorem dX5_leave_5 : decode cX5_leave 5 = .ok (.iconst 1, 1) := dr9 dk9_dX5_leave_0_0 3 (5, .iconst 1, 1) rfl
theorem dX5_leave_6 : decode cX5_leave 6 = .ok (.isub, 1) := dr9 dk9_dX5_leave_0_0 4 (6, .isub, 1) rfl
theorem dX5_leave_7 : decode cX5_leave 7 = .ok (.putfield 39, 3) := dr9 dk9_dX5_leave_0_0 5 (7, .putfield 39, 3) rfl
theorem dX5_leave_10 : decode cX5_leave 10 = .ok (.return_, 1) := dr9 dk9_dX5_leave_0_0 6 (10, .return_, 1) rfl
theorem dk9_dX5_answerWith_0_0 : dOk cX5_answerWith [(0, .aload_n 0, 1), (1, .iconst 1, 1), (2, .putfield 49, 3), (5, .aload_n 0, 1), (6, .iload_n 1, 1), (7, .putfield 67, 3), (10, .return_, 1)] = true := by decide +kernel
theorem dX5_answerWith_0 : decode cX5_answerWith 0 = .ok (.aload_n 0, 1) := dr9 dk9_dX5_answerWith_0_0 0 (0, .aload_n 0, 1) rfl
theorem dX5_answerWith_1 : decode cX5_answerWith 1 = .ok (.iconst 1, 1) := dr9 dk9_dX5_answerWith_0_0 1 (1, .iconst 1, 1) rfl
theorem dX5_answerWith_2 : decode cX5_answerWith 2 = .ok (.putfield 49, 3) := dr9 dk9_dX5_answerWith_0_0 2 (2, .putfield 49, 3) rfl
theorem dX5_answerWith_5 : decode cX5_answerWith 5 = .ok (.aload_n 0, 1) := dr9 dk9_dX5_answerWith_0_0 3 (5, .aload_n 0, 1) rfl
theorem dX5_answerWith_6 : decode cX5_answerWith 6 = .ok (.iload_n 1, 1) := dr9 dk9_dX5_answerWith_0_0 4 (6, .iload_n 1, 1) rfl
theorem dX5_answerWith_7 : decode cX5_answerWith 7 = .ok (.putfield 67, 3) := dr9 dk9_dX5_answerWith_0_0 5 (7, .putfield 67, 3) rfl
theorem dX5_answerWith_10 : decode cX5_answerWith 10 = .ok (.return_, 1) := dr9 dk9_dX5_answerWith_0_0 6 (10, .return_, 1) rfl
theorem dk9_dX5_failWith_0_0 : dOk cX5_failWith [(0, .aload_n 0, 1), (1, .iconst 2, 1), (2, .putfield 49, 3), (5, .aload_n 0, 1), (6, .iload_n 1, 1), (7, .putfield 55, 3), (10, .aload_n 0, 1), (11, .iload_n 2, 1), (12, .putfield 58, 3), (15, .return_, 1)] = true := by decide +kernel
theorem dX5_failWith_0 : decode cX5_failWith 0 = .ok (.aload_n 0, 1) := dr9 dk9_dX5_failWith_0_0 0 (0, .aload_n 0, 1) rfl
theorem dX5_failWith_1 : decode cX5_failWith 1 = .ok (.iconst 2, 1) := dr9 dk9_dX5_failWith_0_0 1 (1, .iconst 2, 1) rfl
theorem dX5_failWith_2 : decode cX5_failWith 2 = .ok (.putfield 49, 3) := dr9 dk9_dX5_failWith_0_0 2 (2, .putfield 49, 3) rfl
theorem dX5_failWith_5 : decode cX5_failWith 5 = .ok (.aload_n 0, 1) := dr9 dk9_dX5_failWith_0_0 3 (5, .aload_n 0, 1) rfl
theorem dX5_failWith_6 : decode cX5_failWith 6 = .ok (.iload_n 1, 1) := dr9 dk9_dX5_failWith_0_0 4 (6, .iload_n 1, 1) rfl
theorem dX5_failWith_7 : decode cX5_failWith 7 = .ok (.putfield 55, 3) := dr9 dk9_dX5_failWith_0_0 5 (7, .putfield 55, 3) rfl
theorem dX5_failWith_10 : decode cX5_failWith 10 = .ok (.aload_n 0, 1) := dr9 dk9_dX5_failWith_0_0 6 (10, .aload_n 0, 1) rfl
theorem dX5_failWith_11 : decode cX5_failWith 11 = .ok (.iload_n 2, 1) := dr9 dk9_dX5_failWith_0_0 7 (11, .iload_n 2, 1) rfl
theorem dX5_failWith_12 : decode cX5_failWith 12 = .ok (.putfield 58, 3) := dr9 dk9_dX5_failWith_0_0 8 (12, .putfield 58, 3) rfl
theorem dX5_failWith_15 : decode cX5_failWith 15 = .ok (.return_, 1) := dr9 dk9_dX5_failWith_0_0 9 (15, .return_, 1) rfl
theorem dk9_dX5_holdFailure_0_0 : dOk cX5_holdFailure [(0, .aload_n 1, 1), (1, .aload_n 0, 1), (2, .getfield 55, 3), (5, .putfield 147, 3), (8, .aload_n 1, 1), (9, .aload_n 0, 1), (10, .getfield 58, 3), (13, .putfield 148, 3), (16, .return_, 1)] = true := by decide +kernel
theorem dX5_holdFailure_0 : decode cX5_holdFailure 0 = .ok (.aload_n 1, 1) := dr9 dk9_dX5_holdFailure_0_0 0 (0, .aload_n 1, 1) rfl
theorem dX5_holdFailure_1 : decode cX5_holdFailure 1 = .ok (.aload_n 0, 1) := dr9 dk9_dX5_holdFailure_0_0 1 (1, .aload_n 0, 1) rfl
theorem dX5_holdFailure_2 : decode cX5_holdFailure 2 = .ok (.getfield 55, 3) := dr9 dk9_dX5_holdFailure_0_0 2 (2, .getfield 55, 3) rfl
theorem dX5_holdFailure_5 : decode cX5_holdFailure 5 = .ok (.putfield 147, 3) := dr9 dk9_dX5_holdFailure_0_0 3 (5, .putfield 147, 3) rfl
theorem dX5_holdFailure_8 : decode cX5_holdFailure 8 = .ok (.aload_n 1, 1) := dr9 dk9_dX5_holdFailure_0_0 4 (8, .aload_n 1, 1) rfl
theorem dX5_holdFailure_9 : decode cX5_holdFailure 9 = .ok (.aload_n 0, 1) := dr9 dk9_dX5_holdFailure_0_0 5 (9, .aload_n 0, 1) rfl
theorem dX5_holdFailure_10 : decode cX5_holdFailure 10 = .ok (.getfield 58, 3) := dr9 dk9_dX5_holdFailure_0_0 6 (10, .getfield 58, 3) rfl
theorem dX5_holdFailure_13 : decode cX5_holdFailure 13 = .ok (.putfield 148, 3) := dr9 dk9_dX5_holdFailure_0_0 7 (13, .putfield 148, 3) rfl
theorem dX5_holdFailure_16 : decode cX5_holdFailure 16 = .ok (.return_, 1) := dr9 dk9_dX5_holdFailure_0_0 8 (16, .return_, 1) rfl
theorem dk9_dX5_firstKind_0_0 : dOk cX5_firstKind [(0, .iload_n 0, 1), (1, .ifCond .le 8, 3), (9, .iload_n 1, 1), (10, .ireturn, 1), (4, .bipush 20, 2), (6, .goto 4, 3)] = true := by decide +kernel
theorem dX5_firstKind_0 : decode cX5_firstKind 0 = .ok (.iload_n 0, 1) := dr9 dk9_dX5_firstKind_0_0 0 (0, .iload_n 0, 1) rfl
theorem dX5_firstKind_1 : decode cX5_firstKind 1 = .ok (.ifCond .le 8, 3) := dr9 dk9_dX5_firstKind_0_0 1 (1, .ifCond .le 8, 3) rfl
theorem dX5_firstKind_9 : decode cX5_firstKind 9 = .ok (.iload_n 1, 1) := dr9 dk9_dX5_firstKind_0_0 2 (9, .iload_n 1, 1) rfl
theorem dX5_firstKind_10 : decode cX5_firstKind 10 = .ok (.ireturn, 1) := dr9 dk9_dX5_firstKind_0_0 3 (10, .ireturn, 1) rfl
theorem dX5_firstKind_4 : decode cX5_firstKind 4 = .ok (.bipush 20, 2) := dr9 dk9_dX5_firstKind_0_0 4 (4, .bipush 20, 2) rfl
theorem dX5_firstKind_6 : decode cX5_firstKind 6 = .ok (.goto 4, 3) := dr9 dk9_dX5_firstKind_0_0 5 (6, .goto 4, 3) rfl
theorem dk9_dX5_takesStep_0_0 : dOk cX5_takesStep [(0, .aload_n 0, 1), (1, .getfield 52, 3), (4, .sipush 3000, 3), (7, .if_icmp .ge 12, 3), (19, .aload_n 0, 1), (20, .iconst 3, 1), (21, .putfield 49, 3), (24, .iconst 0, 1), (25, .ireturn, 1), (10, .aload_n 0, 1), (11, .getfield 149, 3), (14, .ldc 152, 2), (16, .if_icmp .lt 10, 3), (26, .aload_n 0, 1), (27, .dup, 1), (28, .getfield 52, 3), (31, .iconst 1, 1), (32, .iadd, 1), (33, .putfield 52, 3), (36, .aload_n 0, 1), (37, .dup, 1), (38, .getfield 149, 3), (41, .iconst 1, 1), (42, .iadd, 1)] = true ∧ dOk cX5_takesStep [(43, .putfield 149, 3), (46, .iconst 1, 1), (47, .ireturn, 1)] = true := by decide +kernel
theorem dX5_takesStep_0 : decode cX5_takesStep 0 = .ok (.aload_n 0, 1) := dr9 dk9_dX5_takesStep_0_0.1 0 (0, .aload_n 0, 1) rfl
theorem dX5_takesStep_1 : decode cX5_takesStep 1 = .ok (.getfield 52, 3) := dr9 dk9_dX5_takesStep_0_0.1 1 (1, .getfield 52, 3) rfl
theorem dX5_takesStep_4 : decode cX5_takesStep 4 = .ok (.sipush 3000, 3) := dr9 dk9_dX5_takesStep_0_0.1 2 (4, .sipush 3000, 3) rfl
theorem dX5_takesStep_7 : decode cX5_takesStep 7 = .ok (.if_icmp .ge 12, 3) := dr9 dk9_dX5_takesStep_0_0.1 3 (7, .if_icmp .ge 12, 3) rfl
theorem dX5_takesStep_19 : decode cX5_takesStep 19 = .ok (.aload_n 0, 1) := dr9 dk9_dX5_takesStep_0_0.1 4 (19, .aload_n 0, 1) rfl
theorem dX5_takesStep_20 : decode cX5_takesStep 20 = .ok (.iconst 3, 1) := dr9 dk9_dX5_takesStep_0_0.1 5 (20, .iconst 3, 1) rfl
theorem dX5_takesStep_21 : decode cX5_takesStep 21 = .ok (.putfield 49, 3) := dr9 dk9_dX5_takesStep_0_0.1 6 (21, .putfield 49, 3) rfl
theorem dX5_takesStep_24 : decode cX5_takesStep 24 = .ok (.iconst 0, 1) := dr9 dk9_dX5_takesStep_0_0.1 7 (24, .iconst 0, 1) rfl
theorem dX5_takesStep_25 : decode cX5_takesStep 25 = .ok (.ireturn, 1) := dr9 dk9_dX5_takesStep_0_0.1 8 (25, .ireturn, 1) rfl
theorem dX5_takesStep_10 : decode cX5_takesStep 10 = .ok (.aload_n 0, 1) := dr9 dk9_dX5_takesStep_0_0.1 9 (10, .aload_n 0, 1) rfl
theorem dX5_takesStep_11 : decode cX5_takesStep 11 = .ok (.getfield 149, 3) := dr9 dk9_dX5_takesStep_0_0.1 10 (11, .getfield 149, 3) rfl
theorem dX5_takesStep_14 : decode cX5_takesStep 14 = .ok (.ldc 152, 2) := dr9 dk9_dX5_takesStep_0_0.1 11 (14, .ldc 152, 2) rfl
theorem dX5_takesStep_16 : decode cX5_takesStep 16 = .ok (.if_icmp .lt 10, 3) := dr9 dk9_dX5_takesStep_0_0.1 12 (16, .if_icmp .lt 10, 3) rfl
theorem dX5_takesStep_26 : decode cX5_takesStep 26 = .ok (.aload_n 0, 1) := dr9 dk9_dX5_takesStep_0_0.1 13 (26, .aload_n 0, 1) rfl
theorem dX5_takesStep_27 : decode cX5_takesStep 27 = .ok (.dup, 1) := dr9 dk9_dX5_takesStep_0_0.1 14 (27, .dup, 1) rfl
theorem dX5_takesStep_28 : decode cX5_takesStep 28 = .ok (.getfield 52, 3) := dr9 dk9_dX5_takesStep_0_0.1 15 (28, .getfield 52, 3) rfl
theorem dX5_takesStep_31 : decode cX5_takesStep 31 = .ok (.iconst 1, 1) := dr9 dk9_dX5_takesStep_0_0.1 16 (31, .iconst 1, 1) rfl
theorem dX5_takesStep_32 : decode cX5_takesStep 32 = .ok (.iadd, 1) := dr9 dk9_dX5_takesStep_0_0.1 17 (32, .iadd, 1) rfl
theorem dX5_takesStep_33 : decode cX5_takesStep 33 = .ok (.putfield 52, 3) := dr9 dk9_dX5_takesStep_0_0.1 18 (33, .putfield 52, 3) rfl
theorem dX5_takesStep_36 : decode cX5_takesStep 36 = .ok (.aload_n 0, 1) := dr9 dk9_dX5_takesStep_0_0.1 19 (36, .aload_n 0, 1) rfl
theorem dX5_takesStep_37 : decode cX5_takesStep 37 = .ok (.dup, 1) := dr9 dk9_dX5_takesStep_0_0.1 20 (37, .dup, 1) rfl
theorem dX5_takesStep_38 : decode cX5_takesStep 38 = .ok (.getfield 149, 3) := dr9 dk9_dX5_takesStep_0_0.1 21 (38, .getfield 149, 3) rfl
theorem dX5_takesStep_41 : decode cX5_takesStep 41 = .ok (.iconst 1, 1) := dr9 dk9_dX5_takesStep_0_0.1 22 (41, .iconst 1, 1) rfl
theorem dX5_takesStep_42 : decode cX5_takesStep 42 = .ok (.iadd, 1) := dr9 dk9_dX5_takesStep_0_0.1 23 (42, .iadd, 1) rfl
theorem dX5_takesStep_43 : decode cX5_takesStep 43 = .ok (.putfield 149, 3) := dr9 dk9_dX5_takesStep_0_0.2 0 (43, .putfield 149, 3) rfl
theorem dX5_takesStep_46 : decode cX5_takesStep 46 = .ok (.iconst 1, 1) := dr9 dk9_dX5_takesStep_0_0.2 1 (46, .iconst 1, 1) rfl
theorem dX5_takesStep_47 : decode cX5_takesStep 47 = .ok (.ireturn, 1) := dr9 dk9_dX5_takesStep_0_0.2 2 (47, .ireturn, 1) rfl
theorem dk9_dX5_put_0_0 : dOk cX5_put [(0, .aload_n 0, 1), (1, .getfield 43, 3), (4, .sipush 2048, 3), (7, .if_icmp .ge 20, 3), (27, .return_, 1), (10, .aload_n 0, 1), (11, .getfield 17, 3), (14, .aload_n 0, 1), (15, .dup, 1), (16, .getfield 43, 3), (19, .dup_x1, 1), (20, .iconst 1, 1), (21, .iadd, 1), (22, .putfield 43, 3), (25, .iload_n 1, 1), (26, .iastore, 1)] = true := by decide +kernel
theorem dX5_put_0 : decode cX5_put 0 = .ok (.aload_n 0, 1) := dr9 dk9_dX5_put_0_0 0 (0, .aload_n 0, 1) rfl
theorem dX5_put_1 : decode cX5_put 1 = .ok (.getfield 43, 3) := dr9 dk9_dX5_put_0_0 1 (1, .getfield 43, 3) rfl
theorem dX5_put_4 : decode cX5_put 4 = .ok (.sipush 2048, 3) := dr9 dk9_dX5_put_0_0 2 (4, .sipush 2048, 3) rfl
theorem dX5_put_7 : decode cX5_put 7 = .ok (.if_icmp .ge 20, 3) := dr9 dk9_dX5_put_0_0 3 (7, .if_icmp .ge 20, 3) rfl
theorem dX5_put_27 : decode cX5_put 27 = .ok (.return_, 1) := dr9 dk9_dX5_put_0_0 4 (27, .return_, 1) rfl
theorem dX5_put_10 : decode cX5_put 10 = .ok (.aload_n 0, 1) := dr9 dk9_dX5_put_0_0 5 (10, .aload_n 0, 1) rfl
theorem dX5_put_11 : decode cX5_put 11 = .ok (.getfield 17, 3) := dr9 dk9_dX5_put_0_0 6 (11, .getfield 17, 3) rfl
theorem dX5_put_14 : decode cX5_put 14 = .ok (.aload_n 0, 1) := dr9 dk9_dX5_put_0_0 7 (14, .aload_n 0, 1) rfl
theorem dX5_put_15 : decode cX5_put 15 = .ok (.dup, 1) := dr9 dk9_dX5_put_0_0 8 (15, .dup, 1) rfl
theorem dX5_put_16 : decode cX5_put 16 = .ok (.getfield 43, 3) := dr9 dk9_dX5_put_0_0 9 (16, .getfield 43, 3) rfl
theorem dX5_put_19 : decode cX5_put 19 = .ok (.dup_x1, 1) := dr9 dk9_dX5_put_0_0 10 (19, .dup_x1, 1) rfl
theorem dX5_put_20 : decode cX5_put 20 = .ok (.iconst 1, 1) := dr9 dk9_dX5_put_0_0 11 (20, .iconst 1, 1) rfl
theorem dX5_put_21 : decode cX5_put 21 = .ok (.iadd, 1) := dr9 dk9_dX5_put_0_0 12 (21, .iadd, 1) rfl
theorem dX5_put_22 : decode cX5_put 22 = .ok (.putfield 43, 3) := dr9 dk9_dX5_put_0_0 13 (22, .putfield 43, 3) rfl
theorem dX5_put_25 : decode cX5_put 25 = .ok (.iload_n 1, 1) := dr9 dk9_dX5_put_0_0 14 (25, .iload_n 1, 1) rfl
theorem dX5_put_26 : decode cX5_put 26 = .ok (.iastore, 1) := dr9 dk9_dX5_put_0_0 15 (26, .iastore, 1) rfl
theorem dk9_dX5_pull_0_0 : dOk cX5_pull [(0, .aload_n 0, 1), (1, .getfield 43, 3), (4, .ifCond .le 22, 3), (26, .iconst 0, 1), (27, .ireturn, 1), (7, .aload_n 0, 1), (8, .getfield 17, 3), (11, .aload_n 0, 1), (12, .dup, 1), (13, .getfield 43, 3), (16, .iconst 1, 1), (17, .isub, 1), (18, .dup_x1, 1), (19, .putfield 43, 3), (22, .iaload, 1), (23, .goto 4, 3)] = true := by decide +kernel
theorem dX5_pull_0 : decode cX5_pull 0 = .ok (.aload_n 0, 1) := dr9 dk9_dX5_pull_0_0 0 (0, .aload_n 0, 1) rfl
theorem dX5_pull_1 : decode cX5_pull 1 = .ok (.getfield 43, 3) := dr9 dk9_dX5_pull_0_0 1 (1, .getfield 43, 3) rfl
theorem dX5_pull_4 : decode cX5_pull 4 = .ok (.ifCond .le 22, 3) := dr9 dk9_dX5_pull_0_0 2 (4, .ifCond .le 22, 3) rfl
theorem dX5_pull_26 : decode cX5_pull 26 = .ok (.iconst 0, 1) := dr9 dk9_dX5_pull_0_0 3 (26, .iconst 0, 1) rfl
theorem dX5_pull_27 : decode cX5_pull 27 = .ok (.ireturn, 1) := dr9 dk9_dX5_pull_0_0 4 (27, .ireturn, 1) rfl
theorem dX5_pull_7 : decode cX5_pull 7 = .ok (.aload_n 0, 1) := dr9 dk9_dX5_pull_0_0 5 (7, .aload_n 0, 1) rfl
theorem dX5_pull_8 : decode cX5_pull 8 = .ok (.getfield 17, 3) := dr9 dk9_dX5_pull_0_0 6 (8, .getfield 17, 3) rfl
theorem dX5_pull_11 : decode cX5_pull 11 = .ok (.aload_n 0, 1) := dr9 dk9_dX5_pull_0_0 7 (11, .aload_n 0, 1) rfl
theorem dX5_pull_12 : decode cX5_pull 12 = .ok (.dup, 1) := dr9 dk9_dX5_pull_0_0 8 (12, .dup, 1) rfl
theorem dX5_pull_13 : decode cX5_pull 13 = .ok (.getfield 43, 3) := dr9 dk9_dX5_pull_0_0 9 (13, .getfield 43, 3) rfl
theorem dX5_pull_16 : decode cX5_pull 16 = .ok (.iconst 1, 1) := dr9 dk9_dX5_pull_0_0 10 (16, .iconst 1, 1) rfl
theorem dX5_pull_17 : decode cX5_pull 17 = .ok (.isub, 1) := dr9 dk9_dX5_pull_0_0 11 (17, .isub, 1) rfl
theorem dX5_pull_18 : decode cX5_pull 18 = .ok (.dup_x1, 1) := dr9 dk9_dX5_pull_0_0 12 (18, .dup_x1, 1) rfl
theorem dX5_pull_19 : decode cX5_pull 19 = .ok (.putfield 43, 3) := dr9 dk9_dX5_pull_0_0 13 (19, .putfield 43, 3) rfl
theorem dX5_pull_22 : decode cX5_pull 22 = .ok (.iaload, 1) := dr9 dk9_dX5_pull_0_0 14 (22, .iaload, 1) rfl
theorem dX5_pull_23 : decode cX5_pull 23 = .ok (.goto 4, 3) := dr9 dk9_dX5_pull_0_0 15 (23, .goto 4, 3) rfl
theorem dk9_dX5_compute_0_0 : dOk cX5_compute [(0, .iload_n 0, 1), (1, .tableswitch 54 5 8 #[31, 35, 39, 43], 31), (32, .iload_n 1, 1), (33, .iload_n 2, 1), (34, .iadd, 1), (35, .ireturn, 1), (36, .iload_n 1, 1), (37, .iload_n 2, 1), (38, .isub, 1), (39, .ireturn, 1), (40, .iload_n 1, 1), (41, .iload_n 2, 1), (42, .imul, 1), (43, .ireturn, 1), (44, .iload_n 1, 1), (45, .iload_n 2, 1), (46, .if_icmp .ge 7, 3), (53, .iconst 0, 1), (54, .ireturn, 1), (49, .iconst 1, 1), (50, .goto 4, 3), (55, .iload_n 1, 1), (56, .iload_n 2, 1), (57, .if_icmp .ne 7, 3)] = true ∧ dOk cX5_compute [(64, .iconst 0, 1), (65, .ireturn, 1), (60, .iconst 1, 1), (61, .goto 4, 3)] = true := by decide +kernel
theorem dX5_compute_0 : decode cX5_compute 0 = .ok (.iload_n 0, 1) := dr9 dk9_dX5_compute_0_0.1 0 (0, .iload_n 0, 1) rfl
theorem dX5_compute_1 : decode cX5_compute 1 = .ok (.tableswitch 54 5 8 #[31, 35, 39, 43], 31) := dr9 dk9_dX5_compute_0_0.1 1 (1, .tableswitch 54 5 8 #[31, 35, 39, 43], 31) rfl
theorem dX5_compute_32 : decode cX5_compute 32 = .ok (.iload_n 1, 1) := dr9 dk9_dX5_compute_0_0.1 2 (32, .iload_n 1, 1) rfl
theorem dX5_compute_33 : decode cX5_compute 33 = .ok (.iload_n 2, 1) := dr9 dk9_dX5_compute_0_0.1 3 (33, .iload_n 2, 1) rfl
theorem dX5_compute_34 : decode cX5_compute 34 = .ok (.iadd, 1) := dr9 dk9_dX5_compute_0_0.1 4 (34, .iadd, 1) rfl
theorem dX5_compute_35 : decode cX5_compute 35 = .ok (.ireturn, 1) := dr9 dk9_dX5_compute_0_0.1 5 (35, .ireturn, 1) rfl
theorem dX5_compute_36 : decode cX5_compute 36 = .ok (.iload_n 1, 1) := dr9 dk9_dX5_compute_0_0.1 6 (36, .iload_n 1, 1) rfl
theorem dX5_compute_37 : decode cX5_compute 37 = .ok (.iload_n 2, 1) := dr9 dk9_dX5_compute_0_0.1 7 (37, .iload_n 2, 1) rfl
theorem dX5_compute_38 : decode cX5_compute 38 = .ok (.isub, 1) := dr9 dk9_dX5_compute_0_0.1 8 (38, .isub, 1) rfl
theorem dX5_compute_39 : decode cX5_compute 39 = .ok (.ireturn, 1) := dr9 dk9_dX5_compute_0_0.1 9 (39, .ireturn, 1) rfl
theorem dX5_compute_40 : decode cX5_compute 40 = .ok (.iload_n 1, 1) := dr9 dk9_dX5_compute_0_0.1 10 (40, .iload_n 1, 1) rfl
theorem dX5_compute_41 : decode cX5_compute 41 = .ok (.iload_n 2, 1) := dr9 dk9_dX5_compute_0_0.1 11 (41, .iload_n 2, 1) rfl
theorem dX5_compute_42 : decode cX5_compute 42 = .ok (.imul, 1) := dr9 dk9_dX5_compute_0_0.1 12 (42, .imul, 1) rfl
theorem dX5_compute_43 : decode cX5_compute 43 = .ok (.ireturn, 1) := dr9 dk9_dX5_compute_0_0.1 13 (43, .ireturn, 1) rfl
theorem dX5_compute_44 : decode cX5_compute 44 = .ok (.iload_n 1, 1) := dr9 dk9_dX5_compute_0_0.1 14 (44, .iload_n 1, 1) rfl
theorem dX5_compute_45 : decode cX5_compute 45 = .ok (.iload_n 2, 1) := dr9 dk9_dX5_compute_0_0.1 15 (45, .iload_n 2, 1) rfl
theorem dX5_compute_46 : decode cX5_compute 46 = .ok (.if_icmp .ge 7, 3) := dr9 dk9_dX5_compute_0_0.1 16 (46, .if_icmp .ge 7, 3) rfl
theorem dX5_compute_53 : decode cX5_compute 53 = .ok (.iconst 0, 1) := dr9 dk9_dX5_compute_0_0.1 17 (53, .iconst 0, 1) rfl
theorem dX5_compute_54 : decode cX5_compute 54 = .ok (.ireturn, 1) := dr9 dk9_dX5_compute_0_0.1 18 (54, .ireturn, 1) rfl
theorem dX5_compute_49 : decode cX5_compute 49 = .ok (.iconst 1, 1) := dr9 dk9_dX5_compute_0_0.1 19 (49, .iconst 1, 1) rfl
theorem dX5_compute_50 : decode cX5_compute 50 = .ok (.goto 4, 3) := dr9 dk9_dX5_compute_0_0.1 20 (50, .goto 4, 3) rfl
theorem dX5_compute_55 : decode cX5_compute 55 = .ok (.iload_n 1, 1) := dr9 dk9_dX5_compute_0_0.1 21 (55, .iload_n 1, 1) rfl
theorem dX5_compute_56 : decode cX5_compute 56 = .ok (.iload_n 2, 1) := dr9 dk9_dX5_compute_0_0.1 22 (56, .iload_n 2, 1) rfl
theorem dX5_compute_57 : decode cX5_compute 57 = .ok (.if_icmp .ne 7, 3) := dr9 dk9_dX5_compute_0_0.1 23 (57, .if_icmp .ne 7, 3) rfl
theorem dX5_compute_64 : decode cX5_compute 64 = .ok (.iconst 0, 1) := dr9 dk9_dX5_compute_0_0.2 0 (64, .iconst 0, 1) rfl
theorem dX5_compute_65 : decode cX5_compute 65 = .ok (.ireturn, 1) := dr9 dk9_dX5_compute_0_0.2 1 (65, .ireturn, 1) rfl
theorem dX5_compute_60 : decode cX5_compute 60 = .ok (.iconst 1, 1) := dr9 dk9_dX5_compute_0_0.2 2 (60, .iconst 1, 1) rfl
theorem dX5_compute_61 : decode cX5_compute 61 = .ok (.goto 4, 3) := dr9 dk9_dX5_compute_0_0.2 3 (61, .goto 4, 3) rfl
theorem dk9_dX5_endWork_0_0 : dOk cX5_endWork [(0, .aload_n 0, 1), (1, .aload_n 1, 1), (2, .getfield 144, 3), (5, .putfield 43, 3), (8, .aload_n 0, 1), (9, .invokevirtual 157, 3), (12, .return_, 1)] = true := by decide +kernel
theorem dX5_endWork_0 : decode cX5_endWork 0 = .ok (.aload_n 0, 1) := dr9 dk9_dX5_endWork_0_0 0 (0, .aload_n 0, 1) rfl
theorem dX5_endWork_1 : decode cX5_endWork 1 = .ok (.aload_n 1, 1) := dr9 dk9_dX5_endWork_0_0 1 (1, .aload_n 1, 1) rfl
theorem dX5_endWork_2 : decode cX5_endWork 2 = .ok (.getfield 144, 3) := dr9 dk9_dX5_endWork_0_0 2 (2, .getfield 144, 3) rfl
theorem dX5_endWork_5 : decode cX5_endWork 5 = .ok (.putfield 43, 3) := dr9 dk9_dX5_endWork_0_0 3 (5, .putfield 43, 3) rfl
theorem dX5_endWork_8 : decode cX5_endWork 8 = .ok (.aload_n 0, 1) := dr9 dk9_dX5_endWork_0_0 4 (8, .aload_n 0, 1) rfl
theorem dX5_endWork_9 : decode cX5_endWork 9 = .ok (.invokevirtual 157, 3) := dr9 dk9_dX5_endWork_0_0 5 (9, .invokevirtual 157, 3) rfl
theorem dX5_endWork_12 : decode cX5_endWork 12 = .ok (.return_, 1) := dr9 dk9_dX5_endWork_0_0 6 (12, .return_, 1) rfl
theorem dk9_dX5_finish_0_0 : dOk cX5_finish [(0, .aload_n 0, 1), (1, .getfield 28, 3), (4, .aload_n 1, 1), (5, .getfield 100, 3), (8, .invokevirtual 247, 3), (11, .aload_n 0, 1), (12, .getfield 46, 3), (15, .sipush 300, 3), (18, .if_icmp .ge 23, 3), (41, .aload_n 0, 1), (42, .aload_n 1, 1), (43, .getfield 100, 3), (46, .invokevirtual 203, 3), (49, .aload_n 0, 1), (50, .invokevirtual 157, 3), (53, .return_, 1), (21, .aload_n 0, 1), (22, .getfield 21, 3), (25, .aload_n 0, 1), (26, .dup, 1), (27, .getfield 46, 3), (30, .dup_x1, 1), (31, .iconst 1, 1), (32, .iadd, 1)] = true ∧ dOk cX5_finish [(33, .putfield 46, 3), (36, .aload_n 1, 1), (37, .getfield 100, 3), (40, .iastore, 1)] = true := by decide +kernel
theorem dX5_finish_0 : decode cX5_finish 0 = .ok (.aload_n 0, 1) := dr9 dk9_dX5_finish_0_0.1 0 (0, .aload_n 0, 1) rfl
theorem dX5_finish_1 : decode cX5_finish 1 = .ok (.getfield 28, 3) := dr9 dk9_dX5_finish_0_0.1 1 (1, .getfield 28, 3) rfl
theorem dX5_finish_4 : decode cX5_finish 4 = .ok (.aload_n 1, 1) := dr9 dk9_dX5_finish_0_0.1 2 (4, .aload_n 1, 1) rfl
theorem dX5_finish_5 : decode cX5_finish 5 = .ok (.getfield 100, 3) := dr9 dk9_dX5_finish_0_0.1 3 (5, .getfield 100, 3) rfl
theorem dX5_finish_8 : decode cX5_finish 8 = .ok (.invokevirtual 247, 3) := dr9 dk9_dX5_finish_0_0.1 4 (8, .invokevirtual 247, 3) rfl
theorem dX5_finish_11 : decode cX5_finish 11 = .ok (.aload_n 0, 1) := dr9 dk9_dX5_finish_0_0.1 5 (11, .aload_n 0, 1) rfl
theorem dX5_finish_12 : decode cX5_finish 12 = .ok (.getfield 46, 3) := dr9 dk9_dX5_finish_0_0.1 6 (12, .getfield 46, 3) rfl
theorem dX5_finish_15 : decode cX5_finish 15 = .ok (.sipush 300, 3) := dr9 dk9_dX5_finish_0_0.1 7 (15, .sipush 300, 3) rfl
theorem dX5_finish_18 : decode cX5_finish 18 = .ok (.if_icmp .ge 23, 3) := dr9 dk9_dX5_finish_0_0.1 8 (18, .if_icmp .ge 23, 3) rfl
theorem dX5_finish_41 : decode cX5_finish 41 = .ok (.aload_n 0, 1) := dr9 dk9_dX5_finish_0_0.1 9 (41, .aload_n 0, 1) rfl
theorem dX5_finish_42 : decode cX5_finish 42 = .ok (.aload_n 1, 1) := dr9 dk9_dX5_finish_0_0.1 10 (42, .aload_n 1, 1) rfl
theorem dX5_finish_43 : decode cX5_finish 43 = .ok (.getfield 100, 3) := dr9 dk9_dX5_finish_0_0.1 11 (43, .getfield 100, 3) rfl
theorem dX5_finish_46 : decode cX5_finish 46 = .ok (.invokevirtual 203, 3) := dr9 dk9_dX5_finish_0_0.1 12 (46, .invokevirtual 203, 3) rfl
theorem dX5_finish_49 : decode cX5_finish 49 = .ok (.aload_n 0, 1) := dr9 dk9_dX5_finish_0_0.1 13 (49, .aload_n 0, 1) rfl
theorem dX5_finish_50 : decode cX5_finish 50 = .ok (.invokevirtual 157, 3) := dr9 dk9_dX5_finish_0_0.1 14 (50, .invokevirtual 157, 3) rfl
theorem dX5_finish_53 : decode cX5_finish 53 = .ok (.return_, 1) := dr9 dk9_dX5_finish_0_0.1 15 (53, .return_, 1) rfl
theorem dX5_finish_21 : decode cX5_finish 21 = .ok (.aload_n 0, 1) := dr9 dk9_dX5_finish_0_0.1 16 (21, .aload_n 0, 1) rfl
theorem dX5_finish_22 : decode cX5_finish 22 = .ok (.getfield 21, 3) := dr9 dk9_dX5_finish_0_0.1 17 (22, .getfield 21, 3) rfl
theorem dX5_finish_25 : decode cX5_finish 25 = .ok (.aload_n 0, 1) := dr9 dk9_dX5_finish_0_0.1 18 (25, .aload_n 0, 1) rfl
theorem dX5_finish_26 : decode cX5_finish 26 = .ok (.dup, 1) := dr9 dk9_dX5_finish_0_0.1 19 (26, .dup, 1) rfl
theorem dX5_finish_27 : decode cX5_finish 27 = .ok (.getfield 46, 3) := dr9 dk9_dX5_finish_0_0.1 20 (27, .getfield 46, 3) rfl
theorem dX5_finish_30 : decode cX5_finish 30 = .ok (.dup_x1, 1) := dr9 dk9_dX5_finish_0_0.1 21 (30, .dup_x1, 1) rfl
theorem dX5_finish_31 : decode cX5_finish 31 = .ok (.iconst 1, 1) := dr9 dk9_dX5_finish_0_0.1 22 (31, .iconst 1, 1) rfl
theorem dX5_finish_32 : decode cX5_finish 32 = .ok (.iadd, 1) := dr9 dk9_dX5_finish_0_0.1 23 (32, .iadd, 1) rfl
theorem dX5_finish_33 : decode cX5_finish 33 = .ok (.putfield 46, 3) := dr9 dk9_dX5_finish_0_0.2 0 (33, .putfield 46, 3) rfl
theorem dX5_finish_36 : decode cX5_finish 36 = .ok (.aload_n 1, 1) := dr9 dk9_dX5_finish_0_0.2 1 (36, .aload_n 1, 1) rfl
theorem dX5_finish_37 : decode cX5_finish 37 = .ok (.getfield 100, 3) := dr9 dk9_dX5_finish_0_0.2 2 (37, .getfield 100, 3) rfl
theorem dX5_finish_40 : decode cX5_finish 40 = .ok (.iastore, 1) := dr9 dk9_dX5_finish_0_0.2 3 (40, .iastore, 1) rfl
theorem dk9_dX5_abandon_0_0 : dOk cX5_abandon [(0, .aload_n 0, 1), (1, .getfield 28, 3), (4, .aload_n 1, 1), (5, .getfield 100, 3), (8, .invokevirtual 250, 3), (11, .aload_n 0, 1), (12, .getfield 58, 3), (15, .bipush 12, 2), (17, .if_icmp .eq 21, 3), (38, .iconst 1, 1), (39, .goto 4, 3), (43, .istore_n 2, 1), (44, .aload_n 0, 1), (45, .getfield 24, 3), (48, .getfield 178, 3), (51, .aload_n 1, 1), (52, .getfield 103, 3), (55, .aaload, 1), (56, .getfield 182, 3), (59, .iconst 3, 1), (60, .if_icmp .eq 7, 3), (67, .iconst 0, 1), (68, .istore_n 3, 1), (69, .aload_n 0, 1)] = true ∧ dOk cX5_abandon [(70, .getfield 49, 3), (73, .iconst 2, 1), (74, .if_icmp .ne 26, 3), (100, .aload_n 0, 1), (101, .invokevirtual 157, 3), (104, .return_, 1), (77, .iload_n 3, 1), (78, .ifCond .eq 22, 3), (63, .iconst 1, 1), (64, .goto 4, 3), (81, .iload_n 2, 1), (82, .ifCond .ne 18, 3), (20, .aload_n 0, 1), (21, .getfield 58, 3), (24, .bipush 13, 2), (26, .if_icmp .eq 12, 3), (29, .aload_n 0, 1), (30, .getfield 58, 3), (33, .bipush 16, 2), (35, .if_icmp .ne 7, 3), (42, .iconst 0, 1), (85, .aload_n 0, 1), (86, .getfield 28, 3), (89, .aload_n 1, 1)] = true ∧ dOk cX5_abandon [(90, .getfield 106, 3), (93, .aload_n 1, 1), (94, .getfield 103, 3), (97, .invokevirtual 253, 3)] = true := by decide +kernel
theorem dX5_abandon_0 : decode cX5_abandon 0 = .ok (.aload_n 0, 1) := dr9 dk9_dX5_abandon_0_0.1 0 (0, .aload_n 0, 1) rfl
theorem dX5_abandon_1 : decode cX5_abandon 1 = .ok (.getfield 28, 3) := dr9 dk9_dX5_abandon_0_0.1 1 (1, .getfield 28, 3) rfl
theorem dX5_abandon_4 : decode cX5_abandon 4 = .ok (.aload_n 1, 1) := dr9 dk9_dX5_abandon_0_0.1 2 (4, .aload_n 1, 1) rfl
theorem dX5_abandon_5 : decode cX5_abandon 5 = .ok (.getfield 100, 3) := dr9 dk9_dX5_abandon_0_0.1 3 (5, .getfield 100, 3) rfl
theorem dX5_abandon_8 : decode cX5_abandon 8 = .ok (.invokevirtual 250, 3) := dr9 dk9_dX5_abandon_0_0.1 4 (8, .invokevirtual 250, 3) rfl
theorem dX5_abandon_11 : decode cX5_abandon 11 = .ok (.aload_n 0, 1) := dr9 dk9_dX5_abandon_0_0.1 5 (11, .aload_n 0, 1) rfl
theorem dX5_abandon_12 : decode cX5_abandon 12 = .ok (.getfield 58, 3) := dr9 dk9_dX5_abandon_0_0.1 6 (12, .getfield 58, 3) rfl
theorem dX5_abandon_15 : decode cX5_abandon 15 = .ok (.bipush 12, 2) := dr9 dk9_dX5_abandon_0_0.1 7 (15, .bipush 12, 2) rfl
theorem dX5_abandon_17 : decode cX5_abandon 17 = .ok (.if_icmp .eq 21, 3) := dr9 dk9_dX5_abandon_0_0.1 8 (17, .if_icmp .eq 21, 3) rfl
theorem dX5_abandon_38 : decode cX5_abandon 38 = .ok (.iconst 1, 1) := dr9 dk9_dX5_abandon_0_0.1 9 (38, .iconst 1, 1) rfl
theorem dX5_abandon_39 : decode cX5_abandon 39 = .ok (.goto 4, 3) := dr9 dk9_dX5_abandon_0_0.1 10 (39, .goto 4, 3) rfl
theorem dX5_abandon_43 : decode cX5_abandon 43 = .ok (.istore_n 2, 1) := dr9 dk9_dX5_abandon_0_0.1 11 (43, .istore_n 2, 1) rfl
theorem dX5_abandon_44 : decode cX5_abandon 44 = .ok (.aload_n 0, 1) := dr9 dk9_dX5_abandon_0_0.1 12 (44, .aload_n 0, 1) rfl
theorem dX5_abandon_45 : decode cX5_abandon 45 = .ok (.getfield 24, 3) := dr9 dk9_dX5_abandon_0_0.1 13 (45, .getfield 24, 3) rfl
theorem dX5_abandon_48 : decode cX5_abandon 48 = .ok (.getfield 178, 3) := dr9 dk9_dX5_abandon_0_0.1 14 (48, .getfield 178, 3) rfl
theorem dX5_abandon_51 : decode cX5_abandon 51 = .ok (.aload_n 1, 1) := dr9 dk9_dX5_abandon_0_0.1 15 (51, .aload_n 1, 1) rfl
theorem dX5_abandon_52 : decode cX5_abandon 52 = .ok (.getfield 103, 3) := dr9 dk9_dX5_abandon_0_0.1 16 (52, .getfield 103, 3) rfl
theorem dX5_abandon_55 : decode cX5_abandon 55 = .ok (.aaload, 1) := dr9 dk9_dX5_abandon_0_0.1 17 (55, .aaload, 1) rfl
theorem dX5_abandon_56 : decode cX5_abandon 56 = .ok (.getfield 182, 3) := dr9 dk9_dX5_abandon_0_0.1 18 (56, .getfield 182, 3) rfl
theorem dX5_abandon_59 : decode cX5_abandon 59 = .ok (.iconst 3, 1) := dr9 dk9_dX5_abandon_0_0.1 19 (59, .iconst 3, 1) rfl
theorem dX5_abandon_60 : decode cX5_abandon 60 = .ok (.if_icmp .eq 7, 3) := dr9 dk9_dX5_abandon_0_0.1 20 (60, .if_icmp .eq 7, 3) rfl
theorem dX5_abandon_67 : decode cX5_abandon 67 = .ok (.iconst 0, 1) := dr9 dk9_dX5_abandon_0_0.1 21 (67, .iconst 0, 1) rfl
theorem dX5_abandon_68 : decode cX5_abandon 68 = .ok (.istore_n 3, 1) := dr9 dk9_dX5_abandon_0_0.1 22 (68, .istore_n 3, 1) rfl
theorem dX5_abandon_69 : decode cX5_abandon 69 = .ok (.aload_n 0, 1) := dr9 dk9_dX5_abandon_0_0.1 23 (69, .aload_n 0, 1) rfl
theorem dX5_abandon_70 : decode cX5_abandon 70 = .ok (.getfield 49, 3) := dr9 dk9_dX5_abandon_0_0.2.1 0 (70, .getfield 49, 3) rfl
theorem dX5_abandon_73 : decode cX5_abandon 73 = .ok (.iconst 2, 1) := dr9 dk9_dX5_abandon_0_0.2.1 1 (73, .iconst 2, 1) rfl
theorem dX5_abandon_74 : decode cX5_abandon 74 = .ok (.if_icmp .ne 26, 3) := dr9 dk9_dX5_abandon_0_0.2.1 2 (74, .if_icmp .ne 26, 3) rfl
theorem dX5_abandon_100 : decode cX5_abandon 100 = .ok (.aload_n 0, 1) := dr9 dk9_dX5_abandon_0_0.2.1 3 (100, .aload_n 0, 1) rfl
theorem dX5_abandon_101 : decode cX5_abandon 101 = .ok (.invokevirtual 157, 3) := dr9 dk9_dX5_abandon_0_0.2.1 4 (101, .invokevirtual 157, 3) rfl
theorem dX5_abandon_104 : decode cX5_abandon 104 = .ok (.return_, 1) := dr9 dk9_dX5_abandon_0_0.2.1 5 (104, .return_, 1) rfl
theorem dX5_abandon_77 : decode cX5_abandon 77 = .ok (.iload_n 3, 1) := dr9 dk9_dX5_abandon_0_0.2.1 6 (77, .iload_n 3, 1) rfl
theorem dX5_abandon_78 : decode cX5_abandon 78 = .ok (.ifCond .eq 22, 3) := dr9 dk9_dX5_abandon_0_0.2.1 7 (78, .ifCond .eq 22, 3) rfl
theorem dX5_abandon_63 : decode cX5_abandon 63 = .ok (.iconst 1, 1) := dr9 dk9_dX5_abandon_0_0.2.1 8 (63, .iconst 1, 1) rfl
theorem dX5_abandon_64 : decode cX5_abandon 64 = .ok (.goto 4, 3) := dr9 dk9_dX5_abandon_0_0.2.1 9 (64, .goto 4, 3) rfl
theorem dX5_abandon_81 : decode cX5_abandon 81 = .ok (.iload_n 2, 1) := dr9 dk9_dX5_abandon_0_0.2.1 10 (81, .iload_n 2, 1) rfl
theorem dX5_abandon_82 : decode cX5_abandon 82 = .ok (.ifCond .ne 18, 3) := dr9 dk9_dX5_abandon_0_0.2.1 11 (82, .ifCond .ne 18, 3) rfl
theorem dX5_abandon_20 : decode cX5_abandon 20 = .ok (.aload_n 0, 1) := dr9 dk9_dX5_abandon_0_0.2.1 12 (20, .aload_n 0, 1) rfl
theorem dX5_abandon_21 : decode cX5_abandon 21 = .ok (.getfield 58, 3) := dr9 dk9_dX5_abandon_0_0.2.1 13 (21, .getfield 58, 3) rfl
theorem dX5_abandon_24 : decode cX5_abandon 24 = .ok (.bipush 13, 2) := dr9 dk9_dX5_abandon_0_0.2.1 14 (24, .bipush 13, 2) rfl
theorem dX5_abandon_26 : decode cX5_abandon 26 = .ok (.if_icmp .eq 12, 3) := dr9 dk9_dX5_abandon_0_0.2.1 15 (26, .if_icmp .eq 12, 3) rfl
theorem dX5_abandon_29 : decode cX5_abandon 29 = .ok (.aload_n 0, 1) := dr9 dk9_dX5_abandon_0_0.2.1 16 (29, .aload_n 0, 1) rfl
theorem dX5_abandon_30 : decode cX5_abandon 30 = .ok (.getfield 58, 3) := dr9 dk9_dX5_abandon_0_0.2.1 17 (30, .getfield 58, 3) rfl
theorem dX5_abandon_33 : decode cX5_abandon 33 = .ok (.bipush 16, 2) := dr9 dk9_dX5_abandon_0_0.2.1 18 (33, .bipush 16, 2) rfl
theorem dX5_abandon_35 : decode cX5_abandon 35 = .ok (.if_icmp .ne 7, 3) := dr9 dk9_dX5_abandon_0_0.2.1 19 (35, .if_icmp .ne 7, 3) rfl
theorem dX5_abandon_42 : decode cX5_abandon 42 = .ok (.iconst 0, 1) := dr9 dk9_dX5_abandon_0_0.2.1 20 (42, .iconst 0, 1) rfl
theorem dX5_abandon_85 : decode cX5_abandon 85 = .ok (.aload_n 0, 1) := dr9 dk9_dX5_abandon_0_0.2.1 21 (85, .aload_n 0, 1) rfl
theorem dX5_abandon_86 : decode cX5_abandon 86 = .ok (.getfield 28, 3) := dr9 dk9_dX5_abandon_0_0.2.1 22 (86, .getfield 28, 3) rfl
theorem dX5_abandon_89 : decode cX5_abandon 89 = .ok (.aload_n 1, 1) := dr9 dk9_dX5_abandon_0_0.2.1 23 (89, .aload_n 1, 1) rfl
theorem dX5_abandon_90 : decode cX5_abandon 90 = .ok (.getfield 106, 3) := dr9 dk9_dX5_abandon_0_0.2.2 0 (90, .getfield 106, 3) rfl
theorem dX5_abandon_93 : decode cX5_abandon 93 = .ok (.aload_n 1, 1) := dr9 dk9_dX5_abandon_0_0.2.2 1 (93, .aload_n 1, 1) rfl
theorem dX5_abandon_94 : decode cX5_abandon 94 = .ok (.getfield 103, 3) := dr9 dk9_dX5_abandon_0_0.2.2 2 (94, .getfield 103, 3) rfl
theorem dX5_abandon_97 : decode cX5_abandon 97 = .ok (.invokevirtual 253, 3) := dr9 dk9_dX5_abandon_0_0.2.2 3 (97, .invokevirtual 253, 3) rfl
theorem dk9_dX5_takeBook_0_0 : dOk cX5_takeBook [(0, .aload_n 0, 1), (1, .aload_n 1, 1), (2, .putfield 24, 3), (5, .aload_n 0, 1), (6, .invokevirtual 36, 3), (9, .return_, 1)] = true := by decide +kernel
theorem dX5_takeBook_0 : decode cX5_takeBook 0 = .ok (.aload_n 0, 1) := dr9 dk9_dX5_takeBook_0_0 0 (0, .aload_n 0, 1) rfl
theorem dX5_takeBook_1 : decode cX5_takeBook 1 = .ok (.aload_n 1, 1) := dr9 dk9_dX5_takeBook_0_0 1 (1, .aload_n 1, 1) rfl
theorem dX5_takeBook_2 : decode cX5_takeBook 2 = .ok (.putfield 24, 3) := dr9 dk9_dX5_takeBook_0_0 2 (2, .putfield 24, 3) rfl
theorem dX5_takeBook_5 : decode cX5_takeBook 5 = .ok (.aload_n 0, 1) := dr9 dk9_dX5_takeBook_0_0 3 (5, .aload_n 0, 1) rfl
theorem dX5_takeBook_6 : decode cX5_takeBook 6 = .ok (.invokevirtual 36, 3) := dr9 dk9_dX5_takeBook_0_0 4 (6, .invokevirtual 36, 3) rfl
theorem dX5_takeBook_9 : decode cX5_takeBook 9 = .ok (.return_, 1) := dr9 dk9_dX5_takeBook_0_0 5 (9, .return_, 1) rfl
abbrev r_x_nTZ : Room := { frames := 0, cells := 0, slots := 0, locals := 0 }
abbrev q_x_nTZ (D : va_G) (p0 : Int32) (A : Nat → Prop) : Array Value → State → Outcome → State → Prop := va_Qi (fun (r : Int32) (_ : Unit) => True) (fun _ t => gq D A [] [] t) A
abbrev r_x_firstCandidate : Room := { frames := 2, cells := 0, slots := 0, locals := 53 }
abbrev q_x_firstCandidate (D : va_G) (ks : KS) (ad : Nat → Nat) (kk : Nat → ClassId) (V : Vf) (L : Lf) (Z : XZ) (p0 : Int32) (p1 : Int32) (b : Nat) (A : Nat → Prop) : Array Value → State → Outcome → State → Prop := va_Qi (fun (r : Int32) (_ : Unit) => True) (fun _ t => gq D A (xw ad kk V L Z) (xty kk Z) t) A
abbrev r_x_ends : Room := { frames := 0, cells := 0, slots := 0, locals := 0 }
abbrev q_x_ends (D : va_G) (ks : KS) (ad : Nat → Nat) (kk : Nat → ClassId) (V : Vf) (L : Lf) (Z : XZ) (p0 : Int32) (p1 : Int32) (A : Nat → Prop) : Array Value → State → Outcome → State → Prop := va_Qi (fun (r : Int32) (u : Vf × Lf) => rgd bX u.1 ∧ agr [(0, 9)] [] V u.1 ∧ u.2 = L) (fun u t => gq D A (xw ad kk u.1 u.2 Z) (xty kk Z) t) A
set_option maxHeartbeats 4000000 in
set_option maxRecDepth 100000 in
theorem x_ends (l : Launch) (D : va_G) (ks : KS) (sz : Nat) (ad : Nat → Nat) (kk : Nat → ClassId) (V : Vf) (L : Lf) (Z : XZ) (p0 : Int32) (p1 : Int32) (hMV : rgd bX V)  : Met l yX11_ends (Cond.code yX11_ends cX11_ends 3 (some .int) :: GW) r_x_ends (va_Pc [.ref (ad 0), .int p0, .int p1] (gp D ks (xw ad kk V L Z) (xty kk Z) sz)) (q_x_ends D ks ad kk V L Z p0 p1 (va_A (xw ad kk V L Z) sz)) 0 0 (va_A (xw ad kk V L Z) sz) := by
  refine g_met (q_x_ends D ks ad kk V L Z p0 p1) (by decide) (Nat.le_of_ble_eq_true rfl) ?_
  intro p e s m below meth c A ls H locs hx hb hr hml hown hg hlocks hin hnw hgk hP hK hD hS hA hl
  have hown : s.vm.findClass RX11 = some m.cls := hown
  have hl : lv_has ls 3 [(0, .ref (ad 0)), (1, .int p0), (2, .int p1)] := hl
  have hP : va_P D vwCl (xw ad kk V L Z) H := hP
  have hD : va_D A (xw ad kk V L Z) := hD
  have hK : va_K D vwCl (xty kk Z) s := hK
  have agV : agr [(0, 9)] [] V V := agr.rf
  refine lv_aload_n hx hb dX11_ends_0 rfl (lv_at hl 0 rfl) ?_
  refine lv_iload_n hx hb dX11_ends_1 rfl (lv_at hl 1 rfl) ?_
  refine va_put (D := D) (ci := 11) (v := .int p0) (ty := tyX11 9) (fs := (xfHouse ad V L Z)) (C := RX11) (T := TX11) (N := 10) hx hb hg inX11 tyX11 tyX11_ok nmX11 hown hK hP hD hS 0 xgHouse rfl 9 (by decide) (hg _ w724) (fun _ h9 => h9) rfl (tyX11_ok 9 (by decide)) rfl rfl (Nat.le_of_ble_eq_true rfl) dX11_ends_2 (fun H locs hP hD hS => ?_)
  obtain ⟨V1, hV1⟩ : ∃ z, z = up2 V 0 9 p0 := ⟨_, rfl⟩
  have ew2 : (xw ad kk V L Z).set 0 ((ad 0), .inr (11, (xfHouse ad V L Z).set 9 (.int p0))) = xw ad kk V1 L Z := by rw [hV1]; exact xw_ss (by decide) rfl (xb_si (by decide))
  have hP : va_P D vwCl (xw ad kk V1 L Z) H := by rw [← ew2]; exact hP
  have hD : va_D A (xw ad kk V1 L Z) := by rw [← ew2]; exact hD
  have hMV1 : rgd bX V1 := hMV.put hV1 (i_full _)
  have agV1 : agr [(0, 9)] [] V V1 := agV.up hV1 rfl
  refine lv_iload_n hx hb dX11_ends_5 rfl (lv_at hl 2 rfl) ?_
  exact W.iret (v := p1) hx hb hr (fun t ht hW => ⟨⟨p1, (V1, L), rfl, ⟨hMV1, agV1, rfl⟩, by rw [ht]; exact hP, va_K.moved hW.alike hK, hD⟩, hS.F ht⟩) hS.2.2 dX11_ends_6
abbrev r_x_h_outcome : Room := { frames := 0, cells := 0, slots := 0, locals := 0 }
abbrev q_x_h_outcome (D : va_G) (ks : KS) (ad : Nat → Nat) (kk : Nat → ClassId) (V : Vf) (L : Lf) (Z : XZ) (A : Nat → Prop) : Array Value → State → Outcome → State → Prop := va_Qi (fun (r : Int32) (_ : Unit) => True) (fun _ t => gq D A (xw ad kk V L Z) (xty kk Z) t) A
set_option maxHeartbeats 4000000 in
set_option maxRecDepth 100000 in
theorem x_h_outcome (l : Launch) (D : va_G) (ks : KS) (sz : Nat) (ad : Nat → Nat) (kk : Nat → ClassId) (V : Vf) (L : Lf) (Z : XZ)  (hMV : rgd bX V)  : Met l yX11_outcome (Cond.code yX11_outcome cX11_outcome 1 (some .int) :: GW) r_x_h_outcome (va_Pc [.ref (ad 0)] (gp D ks (xw ad kk V L Z) (xty kk Z) sz)) (q_x_h_outcome D ks ad kk V L Z  (va_A (xw ad kk V L Z) sz)) 0 0 (va_A (xw ad kk V L Z) sz) := by
  refine g_met (q_x_h_outcome D ks ad kk V L Z) (by decide) (Nat.le_of_ble_eq_true rfl) ?_
  intro p e s m below meth c A ls H locs hx hb hr hml hown hg hlocks hin hnw hgk hP hK hD hS hA hl
  have hown : s.vm.findClass RX11 = some m.cls := hown
  have hl : lv_has ls 1 [(0, .ref (ad 0))] := hl
  have hP : va_P D vwCl (xw ad kk V L Z) H := hP
  have hD : va_D A (xw ad kk V L Z) := hD
  have hK : va_K D vwCl (xty kk Z) s := hK
  refine lv_aload_n hx hb dX11_outcome_0 rfl (lv_at hl 0 rfl) ?_
  refine va_get (D := D) (ci := 11) (v := .int (V 0 9)) (fs := (xfHouse ad V L Z)) (C := RX11) (T := TX11) (N := 10) hx hb hg inX11 hown hK hP 0 xgHouse rfl 9 (by decide) (hg _ w724) (fun _ h9 => h9) rfl dX11_outcome_1 ?_
  exact W.iret (v := (V 0 9)) hx hb hr (fun t ht hW => ⟨⟨(V 0 9), (), rfl, trivial, by rw [ht]; exact hP, va_K.moved hW.alike hK, hD⟩, hS.F ht⟩) hS.2.2 dX11_outcome_4
abbrev r_x_h_cause : Room := { frames := 1, cells := 0, slots := 0, locals := 21 }
abbrev q_x_h_cause (D : va_G) (ks : KS) (ad : Nat → Nat) (kk : Nat → ClassId) (V : Vf) (L : Lf) (Z : XZ) (p0 : Int32) (A : Nat → Prop) : Array Value → State → Outcome → State → Prop := va_Qi (fun (r : Int32) (_ : Unit) => True) (fun _ t => gq D A (xw ad kk V L Z) (xty kk Z) t) A
abbrev r_x_h_fault : Room := { frames := 2, cells := 0, slots := 0, locals := 43 }
abbrev q_x_h_fault (D : va_G) (ks : KS) (ad : Nat → Nat) (kk : Nat → ClassId) (V : Vf) (L : Lf) (Z : XZ) (p0 : Int32) (p1 : Int32) (A : Nat → Prop) : Array Value → State → Outcome → State → Prop := va_Qi (fun (r : Int32) (_ : Unit) => True) (fun _ t => gq D A (xw ad kk V L Z) (xty kk Z) t) A
abbrev r_x_h_cycle : Room := { frames := 2, cells := 0, slots := 0, locals := 44 }
abbrev q_x_h_cycle (D : va_G) (ks : KS) (ad : Nat → Nat) (kk : Nat → ClassId) (V : Vf) (L : Lf) (Z : XZ) (p0 : Int32) (p1 : Int32) (A : Nat → Prop) : Array Value → State → Outcome → State → Prop := va_Qi (fun (r : Int32) (_ : Unit) => True) (fun _ t => gq D A (xw ad kk V L Z) (xty kk Z) t) A
abbrev r_x_h_closed : Room := { frames := 1, cells := 0, slots := 0, locals := 22 }
abbrev q_x_h_closed (D : va_G) (ks : KS) (ad : Nat → Nat) (kk : Nat → ClassId) (V : Vf) (L : Lf) (Z : XZ) (p0 : Int32) (p1 : Int32) (A : Nat → Prop) : Array Value → State → Outcome → State → Prop := va_Qi (fun (r : Int32) (_ : Unit) => True) (fun _ t => gq D A (xw ad kk V L Z) (xty kk Z) t) A
abbrev r_x_h_did : Room := { frames := 1, cells := 0, slots := 0, locals := 22 }
abbrev q_x_h_did (D : va_G) (ks : KS) (ad : Nat → Nat) (kk : Nat → ClassId) (V : Vf) (L : Lf) (Z : XZ) (p0 : Int32) (p1 : Int32) (A : Nat → Prop) : Array Value → State → Outcome → State → Prop := va_Qi (fun (r : Int32) (_ : Unit) => True) (fun _ t => gq D A (xw ad kk V L Z) (xty kk Z) t) A
set_option maxHeartbeats 4000000 in
set_option maxRecDepth 100000 in
theorem x_h_did (l : Launch) (D : va_G) (ks : KS) (sz : Nat) (ad : Nat → Nat) (kk : Nat → ClassId) (V : Vf) (L : Lf) (Z : XZ) (p0 : Int32) (p1 : Int32) (hMV : rgd bX V)  : Met l yX11_did (Cond.code yX11_did cX11_did 3 (some .int) :: GW) r_x_h_did (va_Pc [.ref (ad 0), .int p0, .int p1] (gp D ks (xw ad kk V L Z) (xty kk Z) sz)) (q_x_h_did D ks ad kk V L Z p0 p1 (va_A (xw ad kk V L Z) sz)) 0 0 (va_A (xw ad kk V L Z) sz) := by
  refine g_met (q_x_h_did D ks ad kk V L Z p0 p1) (by decide) (Nat.le_of_ble_eq_true rfl) ?_
  intro p e s m below meth c A ls H locs hx hb hr hml hown hg hlocks hin hnw hgk hP hK hD hS hA hl
  have hown : s.vm.findClass RX11 = some m.cls := hown
  have hl : lv_has ls 3 [(0, .ref (ad 0)), (1, .int p0), (2, .int p1)] := hl
  have hP : va_P D vwCl (xw ad kk V L Z) H := hP
  have hD : va_D A (xw ad kk V L Z) := hD
  have hK : va_K D vwCl (xty kk Z) s := hK
  refine lv_aload_n hx hb dX11_did_0 rfl (lv_at hl 0 rfl) ?_
  refine va_get (D := D) (ci := 11) (v := .ref (ad 4)) (fs := (xfHouse ad V L Z)) (C := RX11) (T := TX11) (N := 10) hx hb hg inX11 hown hK hP 0 xgHouse rfl 4 (by decide) (hg _ w719) (fun _ h9 => h9) rfl dX11_did_1 ?_
  refine lv_iload_n hx hb dX11_did_4 rfl (lv_at hl 1 rfl) ?_
  refine lv_iload_n hx hb dX11_did_5 rfl (lv_at hl 2 rfl) ?_
  refine gA_int (gA_runV (As := [.int p0, .int p1]) (rest := []) (ci := 7) (q0 := 4) hx hb hml hown hg hP hD hK hS hA hnw hgk (x_NofThing l D ks H.size ad kk V L Z p0 p1 hMV ) w1581 w1582 w1583 w166 w1584 rfl xgNotes hdV_yX7_ofThing ⟨Nat.le_of_ble_eq_true rfl, Nat.le_of_ble_eq_true rfl⟩ rfl hl.1 rfl (Nat.le_of_ble_eq_true rfl) dX11_did_6 ⟨Nat.le_of_ble_eq_true rfl, Nat.le_of_ble_eq_true rfl⟩) hP hD hK hS hA (fun z1 u2 H locs w3 hP hD hK hS => ?_)
  exact W.iret (v := z1) hx hb hr (fun t ht hW => ⟨⟨z1, (), rfl, trivial, by rw [ht]; exact hP, va_K.moved hW.alike hK, hD⟩, hS.F ht⟩) hS.2.2 dX11_did_9
abbrev r_x_h_joined : Room := { frames := 2, cells := 0, slots := 0, locals := 46 }
abbrev q_x_h_joined (D : va_G) (ks : KS) (ad : Nat → Nat) (kk : Nat → ClassId) (V : Vf) (L : Lf) (Z : XZ) (p0 : Int32) (p1 : Int32) (p2 : Int32) (A : Nat → Prop) : Array Value → State → Outcome → State → Prop := va_Qi (fun (r : Int32) (_ : Unit) => True) (fun _ t => gq D A (xw ad kk V L Z) (xty kk Z) t) A
abbrev r_x_h_setting : Room := { frames := 0, cells := 0, slots := 0, locals := 0 }
abbrev q_x_h_setting (D : va_G) (ks : KS) (ad : Nat → Nat) (kk : Nat → ClassId) (V : Vf) (L : Lf) (Z : XZ) (p0 : Int32) (p1 : Int32) (b : Nat) (A : Nat → Prop) : Array Value → State → Outcome → State → Prop := va_Qi (fun (r : Int32) (u : Vf × Lf) => rgd bX u.1 ∧ agr [] [46] V u.1 ∧ u.2 = L ∧ (0 ≤ r.toInt ∧ r.toInt ≤ 1)) (fun u t => gq D A (xw ad kk u.1 u.2 Z) (xty kk Z) t) A
abbrev r_x_h_candidate : Room := { frames := 2, cells := 0, slots := 0, locals := 53 }
abbrev q_x_h_candidate (D : va_G) (ks : KS) (ad : Nat → Nat) (kk : Nat → ClassId) (V : Vf) (L : Lf) (Z : XZ) (p0 : Int32) (p1 : Int32) (p2 : Int32) (b : Nat) (A : Nat → Prop) : Array Value → State → Outcome → State → Prop := va_Qi (fun (r : Int32) (_ : Unit) => True) (fun _ t => gq D A (xw ad kk V L Z) (xty kk Z) t) A
abbrev r_x_h_day : Room := { frames := 1, cells := 0, slots := 0, locals := 22 }
abbrev q_x_h_day (D : va_G) (ks : KS) (ad : Nat → Nat) (kk : Nat → ClassId) (V : Vf) (L : Lf) (Z : XZ) (A : Nat → Prop) : Array Value → State → Outcome → State → Prop := va_Qi (fun (r : Int32) (u : Vf × Lf) => rgd bX u.1 ∧ agr [(3, 12)] [21, 22, 23] V u.1 ∧ u.2 = L) (fun u t => gq D A (xw ad kk u.1 u.2 Z) (xty kk Z) t) A
abbrev r_x_h_meal : Room := { frames := 1, cells := 0, slots := 0, locals := 22 }
abbrev q_x_h_meal (D : va_G) (ks : KS) (ad : Nat → Nat) (kk : Nat → ClassId) (V : Vf) (L : Lf) (Z : XZ) (p0 : Int32) (A : Nat → Prop) : Array Value → State → Outcome → State → Prop := va_Qi (fun (r : Int32) (u : Vf × Lf) => rgd bX u.1 ∧ agr [(3, 12)] [21, 22, 23] V u.1 ∧ u.2 = L) (fun u t => gq D A (xw ad kk u.1 u.2 Z) (xty kk Z) t) A
abbrev r_x_h_spoiled : Room := { frames := 1, cells := 0, slots := 0, locals := 23 }
abbrev q_x_h_spoiled (D : va_G) (ks : KS) (ad : Nat → Nat) (kk : Nat → ClassId) (V : Vf) (L : Lf) (Z : XZ) (p0 : Int32) (p1 : Int32) (b : Nat) (A : Nat → Prop) : Array Value → State → Outcome → State → Prop := va_Qi (fun (r : Int32) (_ : Unit) => True) (fun _ t => gq D A (xw ad kk V L Z) (xty kk Z) t) A
abbrev r_x_h_count : Room := { frames := 1, cells := 0, slots := 0, locals := 22 }
abbrev q_x_h_count (D : va_G) (ks : KS) (ad : Nat → Nat) (kk : Nat → ClassId) (V : Vf) (L : Lf) (Z : XZ) (p0 : Int32) (b : Nat) (A : Nat → Prop) : Array Value → State → Outcome → State → Prop := va_Qi (fun (r : Int32) (_ : Unit) => True) (fun _ t => gq D A (xw ad kk V L Z) (xty kk Z) t) A
abbrev r_x_h_check : Room := { frames := 250, cells := 0, slots := 0, locals := 7507 }
abbrev q_x_h_check (D : va_G) (ks : KS) (ad : Nat → Nat) (kk : Nat → ClassId) (V : Vf) (L : Lf) (Z : XZ) (b : Nat) (A : Nat → Prop) : Array Value → State → Outcome → State → Prop := va_Qi (fun (r : Int32) (u : Vf × Lf) => rgd bX u.1 ∧ agr [(0, 8), (2, 6), (2, 7)] [15, 16, 17, 18, 19, 20] V u.1 ∧ u.2 = L) (fun u t => gq D A (xw ad kk u.1 u.2 Z) (xty kk Z) t) A
abbrev r_x_restart : Room := { frames := 0, cells := 0, slots := 0, locals := 0 }
abbrev q_x_restart (D : va_G) (ks : KS) (ad : Nat → Nat) (kk : Nat → ClassId) (V : Vf) (L : Lf) (Z : XZ) (A : Nat → Prop) : Array Value → State → Outcome → State → Prop := va_Qv (fun (u : Vf × Lf) => rgd bX u.1 ∧ agr [(5, 6), (5, 7), (5, 8), (5, 9), (5, 13)] [] V u.1 ∧ u.2 = L ∧ ((u.1 5 6).toInt = 0) ∧ ((u.1 5 7).toInt = 0) ∧ ((u.1 5 8).toInt = 0) ∧ ((u.1 5 9).toInt = 0) ∧ ((u.1 5 13).toInt = 0)) (fun u t => gq D A (xw ad kk u.1 u.2 Z) (xty kk Z) t) A
set_option maxHeartbeats 4000000 in
set_option maxRecDepth 100000 in
theorem x_restart (l : Launch) (D : va_G) (ks : KS) (sz : Nat) (ad : Nat → Nat) (kk : Nat → ClassId) (V : Vf) (L : Lf) (Z : XZ)  (hMV : rgd bX V)  : Met l yX5_restart (Cond.code yX5_restart cX5_restart 1 none :: GW) r_x_restart (va_Pc [.ref (ad 5)] (gp D ks (xw ad kk V L Z) (xty kk Z) sz)) (q_x_restart D ks ad kk V L Z  (va_A (xw ad kk V L Z) sz)) 0 0 (va_A (xw ad kk V L Z) sz) := by
  refine g_met (q_x_restart D ks ad kk V L Z) (by decide) (Nat.le_of_ble_eq_true rfl) ?_
  intro p e s m below meth c A ls H locs hx hb hr hml hown hg hlocks hin hnw hgk hP hK hD hS hA hl
  have hown : s.vm.findClass RX5 = some m.cls := hown
  have hl : lv_has ls 1 [(0, .ref (ad 5))] := hl
  have hP : va_P D vwCl (xw ad kk V L Z) H := hP
  have hD : va_D A (xw ad kk V L Z) := hD
  have hK : va_K D vwCl (xty kk Z) s := hK
  have agV : agr [(5, 6), (5, 7), (5, 8), (5, 9), (5, 13)] [] V V := agr.rf
  refine lv_aload_n hx hb dX5_restart_0 rfl (lv_at hl 0 rfl) ?_
  refine lv_iconst (v := 0) hx hb dX5_restart_1 (by decide) ?_
  refine va_put (D := D) (ci := 5) (v := .int 0) (ty := tyX5 6) (fs := (xfMachine ad V L Z)) (C := RX5) (T := TX5) (N := 15) hx hb hg inX5 tyX5 tyX5_ok nmX5 hown hK hP hD hS 5 xgMachine rfl 6 (by decide) (hg _ w673) (fun _ h9 => h9) rfl (tyX5_ok 6 (by decide)) rfl rfl (Nat.le_of_ble_eq_true rfl) dX5_restart_2 (fun H locs hP hD hS => ?_)
  obtain ⟨V1, hV1⟩ : ∃ z, z = up2 V 5 6 0 := ⟨_, rfl⟩
  have ew2 : (xw ad kk V L Z).set 5 ((ad 5), .inr (5, (xfMachine ad V L Z).set 6 (.int 0))) = xw ad kk V1 L Z := by rw [hV1]; exact xw_ss (by decide) rfl (xb_si (by decide))
  have hP : va_P D vwCl (xw ad kk V1 L Z) H := by rw [← ew2]; exact hP
  have hD : va_D A (xw ad kk V1 L Z) := by rw [← ew2]; exact hD
  have hMV1 : rgd bX V1 := hMV.put hV1 (by decide)
  have agV1 : agr [(5, 6), (5, 7), (5, 8), (5, 9), (5, 13)] [] V V1 := agV.up hV1 rfl
  refine lv_aload_n hx hb dX5_restart_5 rfl (lv_at hl 0 rfl) ?_
  refine lv_iconst (v := 0) hx hb dX5_restart_6 (by decide) ?_
  refine va_put (D := D) (ci := 5) (v := .int 0) (ty := tyX5 7) (fs := (xfMachine ad V1 L Z)) (C := RX5) (T := TX5) (N := 15) hx hb hg inX5 tyX5 tyX5_ok nmX5 hown hK hP hD hS 5 xgMachine rfl 7 (by decide) (hg _ w674) (fun _ h9 => h9) rfl (tyX5_ok 7 (by decide)) rfl rfl (Nat.le_of_ble_eq_true rfl) dX5_restart_7 (fun H locs hP hD hS => ?_)
  obtain ⟨V3, hV3⟩ : ∃ z, z = up2 V1 5 7 0 := ⟨_, rfl⟩
  have ew4 : (xw ad kk V1 L Z).set 5 ((ad 5), .inr (5, (xfMachine ad V1 L Z).set 7 (.int 0))) = xw ad kk V3 L Z := by rw [hV3]; exact xw_ss (by decide) rfl (xb_si (by decide))
  have hP : va_P D vwCl (xw ad kk V3 L Z) H := by rw [← ew4]; exact hP
  have hD : va_D A (xw ad kk V3 L Z) := by rw [← ew4]; exact hD
  have hMV3 : rgd bX V3 := hMV1.put hV3 (by decide)
  have agV3 : agr [(5, 6), (5, 7), (5, 8), (5, 9), (5, 13)] [] V V3 := agV1.up hV3 rfl
  refine lv_aload_n hx hb dX5_restart_10 rfl (lv_at hl 0 rfl) ?_
  refine lv_iconst (v := 0) hx hb dX5_restart_11 (by decide) ?_
  refine va_put (D := D) (ci := 5) (v := .int 0) (ty := tyX5 8) (fs := (xfMachine ad V3 L Z)) (C := RX5) (T := TX5) (N := 15) hx hb hg inX5 tyX5 tyX5_ok nmX5 hown hK hP hD hS 5 xgMachine rfl 8 (by decide) (hg _ w675) (fun _ h9 => h9) rfl (tyX5_ok 8 (by decide)) rfl rfl (Nat.le_of_ble_eq_true rfl) dX5_restart_12 (fun H locs hP hD hS => ?_)
  obtain ⟨V5, hV5⟩ : ∃ z, z = up2 V3 5 8 0 := ⟨_, rfl⟩
  have ew6 : (xw ad kk V3 L Z).set 5 ((ad 5), .inr (5, (xfMachine ad V3 L Z).set 8 (.int 0))) = xw ad kk V5 L Z := by rw [hV5]; exact xw_ss (by decide) rfl (xb_si (by decide))
  have hP : va_P D vwCl (xw ad kk V5 L Z) H := by rw [← ew6]; exact hP
  have hD : va_D A (xw ad kk V5 L Z) := by rw [← ew6]; exact hD
  have hMV5 : rgd bX V5 := hMV3.put hV5 (by decide)
  have agV5 : agr [(5, 6), (5, 7), (5, 8), (5, 9), (5, 13)] [] V V5 := agV3.up hV5 rfl
  refine lv_aload_n hx hb dX5_restart_15 rfl (lv_at hl 0 rfl) ?_
  refine lv_iconst (v := 0) hx hb dX5_restart_16 (by decide) ?_
  refine va_put (D := D) (ci := 5) (v := .int 0) (ty := tyX5 9) (fs := (xfMachine ad V5 L Z)) (C := RX5) (T := TX5) (N := 15) hx hb hg inX5 tyX5 tyX5_ok nmX5 hown hK hP hD hS 5 xgMachine rfl 9 (by decide) (hg _ w676) (fun _ h9 => h9) rfl (tyX5_ok 9 (by decide)) rfl rfl (Nat.le_of_ble_eq_true rfl) dX5_restart_17 (fun H locs hP hD hS => ?_)
  obtain ⟨V7, hV7⟩ : ∃ z, z = up2 V5 5 9 0 := ⟨_, rfl⟩
  have ew8 : (xw ad kk V5 L Z).set 5 ((ad 5), .inr (5, (xfMachine ad V5 L Z).set 9 (.int 0))) = xw ad kk V7 L Z := by rw [hV7]; exact xw_ss (by decide) rfl (xb_si (by decide))
  have hP : va_P D vwCl (xw ad kk V7 L Z) H := by rw [← ew8]; exact hP
  have hD : va_D A (xw ad kk V7 L Z) := by rw [← ew8]; exact hD
  have hMV7 : rgd bX V7 := hMV5.put hV7 (by decide)
  have agV7 : agr [(5, 6), (5, 7), (5, 8), (5, 9), (5, 13)] [] V V7 := agV5.up hV7 rfl
  refine lv_aload_n hx hb dX5_restart_20 rfl (lv_at hl 0 rfl) ?_
  refine lv_iconst (v := 0) hx hb dX5_restart_21 (by decide) ?_
  refine va_put (D := D) (ci := 5) (v := .int 0) (ty := tyX5 13) (fs := (xfMachine ad V7 L Z)) (C := RX5) (T := TX5) (N := 15) hx hb hg inX5 tyX5 tyX5_ok nmX5 hown hK hP hD hS 5 xgMachine rfl 13 (by decide) (hg _ w680) (fun _ h9 => h9) rfl (tyX5_ok 13 (by decide)) rfl rfl (Nat.le_of_ble_eq_true rfl) dX5_restart_22 (fun H locs hP hD hS => ?_)
  obtain ⟨V9, hV9⟩ : ∃ z, z = up2 V7 5 13 0 := ⟨_, rfl⟩
  have ew10 : (xw ad kk V7 L Z).set 5 ((ad 5), .inr (5, (xfMachine ad V7 L Z).set 13 (.int 0))) = xw ad kk V9 L Z := by rw [hV9]; exact xw_ss (by decide) rfl (xb_si (by decide))
  have hP : va_P D vwCl (xw ad kk V9 L Z) H := by rw [← ew10]; exact hP
  have hD : va_D A (xw ad kk V9 L Z) := by rw [← ew10]; exact hD
  have hMV9 : rgd bX V9 := hMV7.put hV9 (by decide)
  have agV9 : agr [(5, 6), (5, 7), (5, 8), (5, 9), (5, 13)] [] V V9 := agV7.up hV9 rfl
  have pq11 : (V9 5 6).toInt = 0 := (congrArg Int32.toInt ((up2_k hV9 (by decide)).trans ((up2_k hV7 (by decide)).trans ((up2_k hV5 (by decide)).trans ((up2_k hV3 (by decide)).trans (up2_s hV1)))))).trans (by decide)
  have pq12 : (V9 5 7).toInt = 0 := (congrArg Int32.toInt ((up2_k hV9 (by decide)).trans ((up2_k hV7 (by decide)).trans ((up2_k hV5 (by decide)).trans (up2_s hV3))))).trans (by decide)
  have pq13 : (V9 5 8).toInt = 0 := (congrArg Int32.toInt ((up2_k hV9 (by decide)).trans ((up2_k hV7 (by decide)).trans (up2_s hV5)))).trans (by decide)
  have pq14 : (V9 5 9).toInt = 0 := (congrArg Int32.toInt ((up2_k hV9 (by decide)).trans (up2_s hV7))).trans (by decide)
  have pq15 : (V9 5 13).toInt = 0 := (congrArg Int32.toInt (up2_s hV9)).trans (by decide)
  exact W.vret hx hb hr (fun t ht hW => ⟨⟨(V9, L), rfl, ⟨hMV9, agV9, rfl, (show (V9 5 6).toInt = 0 from by (first | exact om_b66ba74381d5 pq11 | omega)), (show (V9 5 7).toInt = 0 from by (first | exact om_b66ba74381d5 pq12 | omega)), (show (V9 5 8).toInt = 0 from by (first | exact om_b66ba74381d5 pq13 | omega)), (show (V9 5 9).toInt = 0 from by (first | exact om_b66ba74381d5 pq14 | omega)), (show (V9 5 13).toInt = 0 from by (first | exact om_b66ba74381d5 pq15 | omega))⟩, by rw [ht]; exact hP, va_K.moved hW.alike hK, hD⟩, hS.F ht⟩) hS.2.2 dX5_restart_25
abbrev r_x_isSpent : Room := { frames := 0, cells := 0, slots := 0, locals := 0 }
abbrev q_x_isSpent (D : va_G) (ks : KS) (ad : Nat → Nat) (kk : Nat → ClassId) (V : Vf) (L : Lf) (Z : XZ) (A : Nat → Prop) : Array Value → State → Outcome → State → Prop := va_Qi (fun (r : Int32) (_ : Unit) => (0 ≤ r.toInt ∧ r.toInt ≤ 1)) (fun _ t => gq D A (xw ad kk V L Z) (xty kk Z) t) A
set_option maxHeartbeats 4000000 in
set_option maxRecDepth 100000 in
theorem x_isSpent (l : Launch) (D : va_G) (ks : KS) (sz : Nat) (ad : Nat → Nat) (kk : Nat → ClassId) (V : Vf) (L : Lf) (Z : XZ)  (hMV : rgd bX V)  : Met l yX5_isSpent (Cond.code yX5_isSpent cX5_isSpent 1 (some .boolean) :: GW) r_x_isSpent (va_Pc [.ref (ad 5)] (gp D ks (xw ad kk V L Z) (xty kk Z) sz)) (q_x_isSpent D ks ad kk V L Z  (va_A (xw ad kk V L Z) sz)) 0 0 (va_A (xw ad kk V L Z) sz) := by
  refine g_met (q_x_isSpent D ks ad kk V L Z) (by decide) (Nat.le_of_ble_eq_true rfl) ?_
  intro p e s m below meth c A ls H locs hx hb hr hml hown hg hlocks hin hnw hgk hP hK hD hS hA hl
  have hown : s.vm.findClass RX5 = some m.cls := hown
  have hl : lv_has ls 1 [(0, .ref (ad 5))] := hl
  have hP : va_P D vwCl (xw ad kk V L Z) H := hP
  have hD : va_D A (xw ad kk V L Z) := hD
  have hK : va_K D vwCl (xty kk Z) s := hK
  refine lv_aload_n hx hb dX5_isSpent_0 rfl (lv_at hl 0 rfl) ?_
  refine va_get (D := D) (ci := 5) (v := .int (V 5 9)) (fs := (xfMachine ad V L Z)) (C := RX5) (T := TX5) (N := 15) hx hb hg inX5 hown hK hP 5 xgMachine rfl 9 (by decide) (hg _ w676) (fun _ h9 => h9) rfl dX5_isSpent_1 ?_
  have r1 : 0 ≤ ((V 5 9)).toInt ∧ ((V 5 9)).toInt ≤ 3 := hMV 5 9
  refine lv_iconst (v := 3) hx hb dX5_isSpent_4 (by decide) ?_
  refine lv_icmp_ne (tgt := 12) hx hb dX5_isSpent_5 (by decide) (fun c2 => ?_) (fun c2 => ?_)
  · skip
    have f3 : ((V 5 9)).toInt ≠ 3 := b_neq rfl (by decide) c2
    refine lv_iconst (v := 0) hx hb dX5_isSpent_12 (by decide) ?_
    exact W.zret (v := 0) hx hb hr rfl (fun t ht hW => ⟨⟨0, (), rfl, (by decide), by rw [ht]; exact hP, va_K.moved hW.alike hK, hD⟩, hS.F ht⟩) hS.2.2 dX5_isSpent_13
  · skip
    have f4 : ((V 5 9)).toInt = 3 := b_eq rfl (by decide) c2
    refine lv_iconst (v := 1) hx hb dX5_isSpent_8 (by decide) ?_
    refine lv_goto (tgt := 13) hx hb dX5_isSpent_9 (by decide) ?_
    exact W.zret (v := 1) hx hb hr rfl (fun t ht hW => ⟨⟨1, (), rfl, (by decide), by rw [ht]; exact hP, va_K.moved hW.alike hK, hD⟩, hS.F ht⟩) hS.2.2 dX5_isSpent_13
abbrev r_x_howItEnded : Room := { frames := 1, cells := 0, slots := 0, locals := 22 }
abbrev q_x_howItEnded (D : va_G) (ks : KS) (ad : Nat → Nat) (kk : Nat → ClassId) (V : Vf) (L : Lf) (Z : XZ) (A : Nat → Prop) : Array Value → State → Outcome → State → Prop := va_Qi (fun (r : Int32) (u : Vf × Lf) => rgd bX u.1 ∧ agr [(4, 7), (4, 8)] [] V u.1 ∧ u.2 = L) (fun u t => gq D A (xw ad kk u.1 u.2 Z) (xty kk Z) t) A
set_option maxHeartbeats 4000000 in
set_option maxRecDepth 100000 in
theorem x_howItEnded (l : Launch) (D : va_G) (ks : KS) (sz : Nat) (ad : Nat → Nat) (kk : Nat → ClassId) (V : Vf) (L : Lf) (Z : XZ)  (hMV : rgd bX V)  : Met l yX5_howItEnded (Cond.code yX5_howItEnded cX5_howItEnded 1 (some .int) :: GW) r_x_howItEnded (va_Pc [.ref (ad 5)] (gp D ks (xw ad kk V L Z) (xty kk Z) sz)) (q_x_howItEnded D ks ad kk V L Z  (va_A (xw ad kk V L Z) sz)) 0 0 (va_A (xw ad kk V L Z) sz) := by
  refine g_met (q_x_howItEnded D ks ad kk V L Z) (by decide) (Nat.le_of_ble_eq_true rfl) ?_
  intro p e s m below meth c A ls H locs hx hb hr hml hown hg hlocks hin hnw hgk hP hK hD hS hA hl
  have hown : s.vm.findClass RX5 = some m.cls := hown
  have hl : lv_has ls 1 [(0, .ref (ad 5))] := hl
  have hP : va_P D vwCl (xw ad kk V L Z) H := hP
  have hD : va_D A (xw ad kk V L Z) := hD
  have hK : va_K D vwCl (xty kk Z) s := hK
  have agV : agr [(4, 7), (4, 8)] [] V V := agr.rf
  refine lv_aload_n hx hb dX5_howItEnded_0 rfl (lv_at hl 0 rfl) ?_
  refine va_get (D := D) (ci := 5) (v := .int (V 5 9)) (fs := (xfMachine ad V L Z)) (C := RX5) (T := TX5) (N := 15) hx hb hg inX5 hown hK hP 5 xgMachine rfl 9 (by decide) (hg _ w676) (fun _ h9 => h9) rfl dX5_howItEnded_1 ?_
  have r1 : 0 ≤ ((V 5 9)).toInt ∧ ((V 5 9)).toInt ≤ 3 := hMV 5 9
  refine lv_iconst (v := 2) hx hb dX5_howItEnded_4 (by decide) ?_
  refine lv_icmp_ne (tgt := 25) hx hb dX5_howItEnded_5 (by decide) (fun c2 => ?_) (fun c2 => ?_)
  · skip
    have f3 : ((V 5 9)).toInt ≠ 2 := b_neq rfl (by decide) c2
    refine lv_aload_n hx hb dX5_howItEnded_25 rfl (lv_at hl 0 rfl) ?_
    refine va_get (D := D) (ci := 5) (v := .int (V 5 9)) (fs := (xfMachine ad V L Z)) (C := RX5) (T := TX5) (N := 15) hx hb hg inX5 hown hK hP 5 xgMachine rfl 9 (by decide) (hg _ w676) (fun _ h9 => h9) rfl dX5_howItEnded_26 ?_
    refine lv_iconst (v := 3) hx hb dX5_howItEnded_29 (by decide) ?_
    refine lv_icmp_ne (tgt := 38) hx hb dX5_howItEnded_30 (by decide) (fun c4 => ?_) (fun c4 => ?_)
    · skip
      have f5 : ((V 5 9)).toInt ≠ 3 := b_neq rfl (by decide) c4
      refine lv_iconst (v := 0) hx hb dX5_howItEnded_38 (by decide) ?_
      exact W.iret (v := 0) hx hb hr (fun t ht hW => ⟨⟨0, (V, L), rfl, ⟨hMV, agV, rfl⟩, by rw [ht]; exact hP, va_K.moved hW.alike hK, hD⟩, hS.F ht⟩) hS.2.2 dX5_howItEnded_39
    · skip
      have f6 : ((V 5 9)).toInt = 3 := b_eq rfl (by decide) c4
      refine lv_bipush (v := 6) hx hb dX5_howItEnded_33 (by decide) ?_
      refine lv_goto (tgt := 39) hx hb dX5_howItEnded_35 (by decide) ?_
      exact W.iret (v := 6) hx hb hr (fun t ht hW => ⟨⟨6, (V, L), rfl, ⟨hMV, agV, rfl⟩, by rw [ht]; exact hP, va_K.moved hW.alike hK, hD⟩, hS.F ht⟩) hS.2.2 dX5_howItEnded_39
  · skip
    have f7 : ((V 5 9)).toInt = 2 := b_eq rfl (by decide) c2
    refine lv_aload_n hx hb dX5_howItEnded_8 rfl (lv_at hl 0 rfl) ?_
    refine va_get (D := D) (ci := 5) (v := .ref (ad 4)) (fs := (xfMachine ad V L Z)) (C := RX5) (T := TX5) (N := 15) hx hb hg inX5 hown hK hP 5 xgMachine rfl 1 (by decide) (hg _ w668) (fun _ h9 => h9) rfl dX5_howItEnded_9 ?_
    refine lv_aload_n hx hb dX5_howItEnded_12 rfl (lv_at hl 0 rfl) ?_
    refine va_get (D := D) (ci := 5) (v := .int (V 5 11)) (fs := (xfMachine ad V L Z)) (C := RX5) (T := TX5) (N := 15) hx hb hg inX5 hown hK hP 5 xgMachine rfl 11 (by decide) (hg _ w678) (fun _ h9 => h9) rfl dX5_howItEnded_13 ?_
    refine lv_aload_n hx hb dX5_howItEnded_16 rfl (lv_at hl 0 rfl) ?_
    refine va_get (D := D) (ci := 5) (v := .int (V 5 12)) (fs := (xfMachine ad V L Z)) (C := RX5) (T := TX5) (N := 15) hx hb hg inX5 hown hK hP 5 xgMachine rfl 12 (by decide) (hg _ w679) (fun _ h9 => h9) rfl dX5_howItEnded_17 ?_
    refine gA_void (gA_runV (As := [.int (V 5 11), .int (V 5 12)]) (rest := []) (ci := 7) (q0 := 4) hx hb hml hown hg hP hD hK hS hA hnw hgk (x_NnoteCause l D ks H.size ad kk V L Z (V 5 11) (V 5 12) hMV ) w1505 w1167 w1168 w166 w1169 rfl xgNotes hdV_yX7_noteCause ⟨Nat.le_of_ble_eq_true rfl, Nat.le_of_ble_eq_true rfl⟩ rfl hl.1 rfl (Nat.le_of_ble_eq_true rfl) dX5_howItEnded_20 ⟨Nat.le_of_ble_eq_true rfl, Nat.le_of_ble_eq_true rfl⟩) hP hD hK hS hA (fun u9 H locs w10 hP hD hK hS => ?_)
    obtain ⟨V11, L12⟩ := u9
    obtain ⟨hMV11, ajV11, axL12⟩ := w10
    have axL12 : L = L12 := Eq.symm axL12
    subst axL12
    have hP : va_P D vwCl (xw ad kk V11 L Z) H := hP
    have hD : va_D A (xw ad kk V11 L Z) := hD
    have hMV11 : rgd bX V11 := hMV11
    have ajV11 : agr [(4, 7), (4, 8)] [] V V11 := ajV11
    have agV11 : agr [(4, 7), (4, 8)] [] V V11 := agV.tr ajV11 (by decide) (by decide)
    refine lv_iconst (v := 1) hx hb dX5_howItEnded_23 (by decide) ?_
    exact W.iret (v := 1) hx hb hr (fun t ht hW => ⟨⟨1, (V11, L), rfl, ⟨hMV11, agV11, rfl⟩, by rw [ht]; exact hP, va_K.moved hW.alike hK, hD⟩, hS.F ht⟩) hS.2.2 dX5_howItEnded_24
abbrev r_x_answerOr : Room := { frames := 0, cells := 0, slots := 0, locals := 0 }
abbrev q_x_answerOr (D : va_G) (ks : KS) (ad : Nat → Nat) (kk : Nat → ClassId) (V : Vf) (L : Lf) (Z : XZ) (p0 : Int32) (A : Nat → Prop) : Array Value → State → Outcome → State → Prop := va_Qi (fun (r : Int32) (_ : Unit) => True) (fun _ t => gq D A (xw ad kk V L Z) (xty kk Z) t) A
set_option maxHeartbeats 4000000 in
set_option maxRecDepth 100000 in
theorem x_answerOr (l : Launch) (D : va_G) (ks : KS) (sz : Nat) (ad : Nat → Nat) (kk : Nat → ClassId) (V : Vf) (L : Lf) (Z : XZ) (p0 : Int32) (hMV : rgd bX V)  : Met l yX5_answerOr (Cond.code yX5_answerOr cX5_answerOr 2 (some .int) :: GW) r_x_answerOr (va_Pc [.ref (ad 5), .int p0] (gp D ks (xw ad kk V L Z) (xty kk Z) sz)) (q_x_answerOr D ks ad kk V L Z p0 (va_A (xw ad kk V L Z) sz)) 0 0 (va_A (xw ad kk V L Z) sz) := by
  refine g_met (q_x_answerOr D ks ad kk V L Z p0) (by decide) (Nat.le_of_ble_eq_true rfl) ?_
  intro p e s m below meth c A ls H locs hx hb hr hml hown hg hlocks hin hnw hgk hP hK hD hS hA hl
  have hown : s.vm.findClass RX5 = some m.cls := hown
  have hl : lv_has ls 2 [(0, .ref (ad 5)), (1, .int p0)] := hl
  have hP : va_P D vwCl (xw ad kk V L Z) H := hP
  have hD : va_D A (xw ad kk V L Z) := hD
  have hK : va_K D vwCl (xty kk Z) s := hK
  refine lv_aload_n hx hb dX5_answerOr_0 rfl (lv_at hl 0 rfl) ?_
  refine va_get (D := D) (ci := 5) (v := .int (V 5 9)) (fs := (xfMachine ad V L Z)) (C := RX5) (T := TX5) (N := 15) hx hb hg inX5 hown hK hP 5 xgMachine rfl 9 (by decide) (hg _ w676) (fun _ h9 => h9) rfl dX5_answerOr_1 ?_
  have r1 : 0 ≤ ((V 5 9)).toInt ∧ ((V 5 9)).toInt ≤ 3 := hMV 5 9
  refine lv_iconst (v := 1) hx hb dX5_answerOr_4 (by decide) ?_
  refine lv_icmp_ne (tgt := 15) hx hb dX5_answerOr_5 (by decide) (fun c2 => ?_) (fun c2 => ?_)
  · skip
    have f3 : ((V 5 9)).toInt ≠ 1 := b_neq rfl (by decide) c2
    refine lv_iload_n hx hb dX5_answerOr_15 rfl (lv_at hl 1 rfl) ?_
    exact W.iret (v := p0) hx hb hr (fun t ht hW => ⟨⟨p0, (), rfl, trivial, by rw [ht]; exact hP, va_K.moved hW.alike hK, hD⟩, hS.F ht⟩) hS.2.2 dX5_answerOr_16
  · skip
    have f4 : ((V 5 9)).toInt = 1 := b_eq rfl (by decide) c2
    refine lv_aload_n hx hb dX5_answerOr_8 rfl (lv_at hl 0 rfl) ?_
    refine va_get (D := D) (ci := 5) (v := .int (V 5 10)) (fs := (xfMachine ad V L Z)) (C := RX5) (T := TX5) (N := 15) hx hb hg inX5 hown hK hP 5 xgMachine rfl 10 (by decide) (hg _ w677) (fun _ h9 => h9) rfl dX5_answerOr_9 ?_
    refine lv_goto (tgt := 16) hx hb dX5_answerOr_12 (by decide) ?_
    exact W.iret (v := (V 5 10)) hx hb hr (fun t ht hW => ⟨⟨(V 5 10), (), rfl, trivial, by rw [ht]; exact hP, va_K.moved hW.alike hK, hD⟩, hS.F ht⟩) hS.2.2 dX5_answerOr_16
abbrev r_x_leave : Room := { frames := 0, cells := 0, slots := 0, locals := 0 }
abbrev q_x_leave (D : va_G) (ks : KS) (ad : Nat → Nat) (kk : Nat → ClassId) (V : Vf) (L : Lf) (Z : XZ) (A : Nat → Prop) : Array Value → State → Outcome → State → Prop := va_Qv (fun (u : Vf × Lf) => rgd bX u.1 ∧ agr [(5, 6)] [] V u.1 ∧ u.2 = L ∧ ((u.1 5 6).toInt = (V 5 6).toInt - 1)) (fun u t => gq D A (xw ad kk u.1 u.2 Z) (xty kk Z) t) A
set_option maxHeartbeats 4000000 in
set_option maxRecDepth 100000 in
theorem x_leave (l : Launch) (D : va_G) (ks : KS) (sz : Nat) (ad : Nat → Nat) (kk : Nat → ClassId) (V : Vf) (L : Lf) (Z : XZ)  (hMV : rgd bX V) (y1 : 1 ≤ (V 5 6).toInt)  : Met l yX5_leave (Cond.code yX5_leave cX5_leave 1 none :: GW) r_x_leave (va_Pc [.ref (ad 5)] (gp D ks (xw ad kk V L Z) (xty kk Z) sz)) (q_x_leave D ks ad kk V L Z  (va_A (xw ad kk V L Z) sz)) 0 0 (va_A (xw ad kk V L Z) sz) := by
  refine g_met (q_x_leave D ks ad kk V L Z) (by decide) (Nat.le_of_ble_eq_true rfl) ?_
  intro p e s m below meth c A ls H locs hx hb hr hml hown hg hlocks hin hnw hgk hP hK hD hS hA hl
  have hown : s.vm.findClass RX5 = some m.cls := hown
  have hl : lv_has ls 1 [(0, .ref (ad 5))] := hl
  have hP : va_P D vwCl (xw ad kk V L Z) H := hP
  have hD : va_D A (xw ad kk V L Z) := hD
  have hK : va_K D vwCl (xty kk Z) s := hK
  have agV : agr [(5, 6)] [] V V := agr.rf
  have r1 : 0 ≤ ((V 5 6)).toInt ∧ ((V 5 6)).toInt ≤ 400 := hMV 5 6
  refine lv_aload_n hx hb dX5_leave_0 rfl (lv_at hl 0 rfl) ?_
  refine lv_dup hx hb dX5_leave_1 rfl ?_
  refine va_get (D := D) (ci := 5) (v := .int (V 5 6)) (fs := (xfMachine ad V L Z)) (C := RX5) (T := TX5) (N := 15) hx hb hg inX5 hown hK hP 5 xgMachine rfl 6 (by decide) (hg _ w673) (fun _ h9 => h9) rfl dX5_leave_2 ?_
  refine lv_iconst (v := 1) hx hb dX5_leave_5 (by decide) ?_
  refine lv_isub hx hb dX5_leave_6 ?_
  refine lv_topi (fun z2 ez2 => ?_)
  have hz2 : z2.toInt = ((V 5 6)).toInt - 1 := i_sub ez2 rfl (by decide) (by (first | exact om_8ca935217318 y1 r1.2 | omega))
  refine va_put (D := D) (ci := 5) (v := .int z2) (ty := tyX5 6) (fs := (xfMachine ad V L Z)) (C := RX5) (T := TX5) (N := 15) hx hb hg inX5 tyX5 tyX5_ok nmX5 hown hK hP hD hS 5 xgMachine rfl 6 (by decide) (hg _ w673) (fun _ h9 => h9) rfl (tyX5_ok 6 (by decide)) rfl rfl (Nat.le_of_ble_eq_true rfl) dX5_leave_7 (fun H locs hP hD hS => ?_)
  obtain ⟨V3, hV3⟩ : ∃ z, z = up2 V 5 6 z2 := ⟨_, rfl⟩
  have ew4 : (xw ad kk V L Z).set 5 ((ad 5), .inr (5, (xfMachine ad V L Z).set 6 (.int z2))) = xw ad kk V3 L Z := by rw [hV3]; exact xw_ss (by decide) rfl (xb_si (by decide))
  have hP : va_P D vwCl (xw ad kk V3 L Z) H := by rw [← ew4]; exact hP
  have hD : va_D A (xw ad kk V3 L Z) := by rw [← ew4]; exact hD
  have hMV3 : rgd bX V3 := hMV.put hV3 (show 0 ≤ z2.toInt ∧ z2.toInt ≤ 400 from by (first | exact om_79850c49fe9a y1 r1.2 hz2 | omega))
  have agV3 : agr [(5, 6)] [] V V3 := agV.up hV3 rfl
  have pq5 : (V3 5 6).toInt = z2.toInt := congrArg Int32.toInt (up2_s hV3)
  exact W.vret hx hb hr (fun t ht hW => ⟨⟨(V3, L), rfl, ⟨hMV3, agV3, rfl, (show (V3 5 6).toInt = (V 5 6).toInt - 1 from by (first | exact om_bb80f9d36154 hz2 pq5 | omega))⟩, by rw [ht]; exact hP, va_K.moved hW.alike hK, hD⟩, hS.F ht⟩) hS.2.2 dX5_leave_10
abbrev r_x_answerWith : Room := { frames := 0, cells := 0, slots := 0, locals := 0 }
abbrev q_x_answerWith (D : va_G) (ks : KS) (ad : Nat → Nat) (kk : Nat → ClassId) (V : Vf) (L : Lf) (Z : XZ) (p0 : Int32) (A : Nat → Prop) : Array Value → State → Outcome → State → Prop := va_Qv (fun (u : Vf × Lf) => rgd bX u.1 ∧ agr [(5, 9), (5, 10)] [] V u.1 ∧ u.2 = L ∧ ((u.1 5 9).toInt = 1)) (fun u t => gq D A (xw ad kk u.1 u.2 Z) (xty kk Z) t) A
abbrev r_x_failWith : Room := { frames := 0, cells := 0, slots := 0, locals := 0 }
abbrev q_x_failWith (D : va_G) (ks : KS) (ad : Nat → Nat) (kk : Nat → ClassId) (V : Vf) (L : Lf) (Z : XZ) (p0 : Int32) (p1 : Int32) (A : Nat → Prop) : Array Value → State → Outcome → State → Prop := va_Qv (fun (u : Vf × Lf) => rgd bX u.1 ∧ agr [(5, 9), (5, 11), (5, 12)] [] V u.1 ∧ u.2 = L ∧ ((u.1 5 9).toInt = 2)) (fun u t => gq D A (xw ad kk u.1 u.2 Z) (xty kk Z) t) A
set_option maxHeartbeats 4000000 in
set_option maxRecDepth 100000 in
theorem x_failWith (l : Launch) (D : va_G) (ks : KS) (sz : Nat) (ad : Nat → Nat) (kk : Nat → ClassId) (V : Vf) (L : Lf) (Z : XZ) (p0 : Int32) (p1 : Int32) (hMV : rgd bX V)  : Met l yX5_failWith (Cond.code yX5_failWith cX5_failWith 3 none :: GW) r_x_failWith (va_Pc [.ref (ad 5), .int p0, .int p1] (gp D ks (xw ad kk V L Z) (xty kk Z) sz)) (q_x_failWith D ks ad kk V L Z p0 p1 (va_A (xw ad kk V L Z) sz)) 0 0 (va_A (xw ad kk V L Z) sz) := by
  refine g_met (q_x_failWith D ks ad kk V L Z p0 p1) (by decide) (Nat.le_of_ble_eq_true rfl) ?_
  intro p e s m below meth c A ls H locs hx hb hr hml hown hg hlocks hin hnw hgk hP hK hD hS hA hl
  have hown : s.vm.findClass RX5 = some m.cls := hown
  have hl : lv_has ls 3 [(0, .ref (ad 5)), (1, .int p0), (2, .int p1)] := hl
  have hP : va_P D vwCl (xw ad kk V L Z) H := hP
  have hD : va_D A (xw ad kk V L Z) := hD
  have hK : va_K D vwCl (xty kk Z) s := hK
  have agV : agr [(5, 9), (5, 11), (5, 12)] [] V V := agr.rf
  refine lv_aload_n hx hb dX5_failWith_0 rfl (lv_at hl 0 rfl) ?_
  refine lv_iconst (v := 2) hx hb dX5_failWith_1 (by decide) ?_
  refine va_put (D := D) (ci := 5) (v := .int 2) (ty := tyX5 9) (fs := (xfMachine ad V L Z)) (C := RX5) (T := TX5) (N := 15) hx hb hg inX5 tyX5 tyX5_ok nmX5 hown hK hP hD hS 5 xgMachine rfl 9 (by decide) (hg _ w676) (fun _ h9 => h9) rfl (tyX5_ok 9 (by decide)) rfl rfl (Nat.le_of_ble_eq_true rfl) dX5_failWith_2 (fun H locs hP hD hS => ?_)
  obtain ⟨V1, hV1⟩ : ∃ z, z = up2 V 5 9 2 := ⟨_, rfl⟩
  have ew2 : (xw ad kk V L Z).set 5 ((ad 5), .inr (5, (xfMachine ad V L Z).set 9 (.int 2))) = xw ad kk V1 L Z := by rw [hV1]; exact xw_ss (by decide) rfl (xb_si (by decide))
  have hP : va_P D vwCl (xw ad kk V1 L Z) H := by rw [← ew2]; exact hP
  have hD : va_D A (xw ad kk V1 L Z) := by rw [← ew2]; exact hD
  have hMV1 : rgd bX V1 := hMV.put hV1 (by decide)
  have agV1 : agr [(5, 9), (5, 11), (5, 12)] [] V V1 := agV.up hV1 rfl
  refine lv_aload_n hx hb dX5_failWith_5 rfl (lv_at hl 0 rfl) ?_
  refine lv_iload_n hx hb dX5_failWith_6 rfl (lv_at hl 1 rfl) ?_
  refine va_put (D := D) (ci := 5) (v := .int p0) (ty := tyX5 11) (fs := (xfMachine ad V1 L Z)) (C := RX5) (T := TX5) (N := 15) hx hb hg inX5 tyX5 tyX5_ok nmX5 hown hK hP hD hS 5 xgMachine rfl 11 (by decide) (hg _ w678) (fun _ h9 => h9) rfl (tyX5_ok 11 (by decide)) rfl rfl (Nat.le_of_ble_eq_true rfl) dX5_failWith_7 (fun H locs hP hD hS => ?_)
  obtain ⟨V3, hV3⟩ : ∃ z, z = up2 V1 5 11 p0 := ⟨_, rfl⟩
  have ew4 : (xw ad kk V1 L Z).set 5 ((ad 5), .inr (5, (xfMachine ad V1 L Z).set 11 (.int p0))) = xw ad kk V3 L Z := by rw [hV3]; exact xw_ss (by decide) rfl (xb_si (by decide))
  have hP : va_P D vwCl (xw ad kk V3 L Z) H := by rw [← ew4]; exact hP
  have hD : va_D A (xw ad kk V3 L Z) := by rw [← ew4]; exact hD
  have hMV3 : rgd bX V3 := hMV1.put hV3 (i_full _)
  have agV3 : agr [(5, 9), (5, 11), (5, 12)] [] V V3 := agV1.up hV3 rfl
  refine lv_aload_n hx hb dX5_failWith_10 rfl (lv_at hl 0 rfl) ?_
  refine lv_iload_n hx hb dX5_failWith_11 rfl (lv_at hl 2 rfl) ?_
  refine va_put (D := D) (ci := 5) (v := .int p1) (ty := tyX5 12) (fs := (xfMachine ad V3 L Z)) (C := RX5) (T := TX5) (N := 15) hx hb hg inX5 tyX5 tyX5_ok nmX5 hown hK hP hD hS 5 xgMachine rfl 12 (by decide) (hg _ w679) (fun _ h9 => h9) rfl (tyX5_ok 12 (by decide)) rfl rfl (Nat.le_of_ble_eq_true rfl) dX5_failWith_12 (fun H locs hP hD hS => ?_)
  obtain ⟨V5, hV5⟩ : ∃ z, z = up2 V3 5 12 p1 := ⟨_, rfl⟩
  have ew6 : (xw ad kk V3 L Z).set 5 ((ad 5), .inr (5, (xfMachine ad V3 L Z).set 12 (.int p1))) = xw ad kk V5 L Z := by rw [hV5]; exact xw_ss (by decide) rfl (xb_si (by decide))
  have hP : va_P D vwCl (xw ad kk V5 L Z) H := by rw [← ew6]; exact hP
  have hD : va_D A (xw ad kk V5 L Z) := by rw [← ew6]; exact hD
  have hMV5 : rgd bX V5 := hMV3.put hV5 (i_full _)
  have agV5 : agr [(5, 9), (5, 11), (5, 12)] [] V V5 := agV3.up hV5 rfl
  have pq7 : (V5 5 9).toInt = 2 := (congrArg Int32.toInt ((up2_k hV5 (by decide)).trans ((up2_k hV3 (by decide)).trans (up2_s hV1)))).trans (by decide)
  exact W.vret hx hb hr (fun t ht hW => ⟨⟨(V5, L), rfl, ⟨hMV5, agV5, rfl, (show (V5 5 9).toInt = 2 from by (first | exact om_6aa5e6f8c558 pq7 | omega))⟩, by rw [ht]; exact hP, va_K.moved hW.alike hK, hD⟩, hS.F ht⟩) hS.2.2 dX5_failWith_15
abbrev r_x_holdFailure : Room := { frames := 0, cells := 0, slots := 0, locals := 0 }
abbrev q_x_holdFailure (D : va_G) (ks : KS) (ad : Nat → Nat) (kk : Nat → ClassId) (V : Vf) (L : Lf) (Z : XZ) (gf : Nat) (A : Nat → Prop) : Array Value → State → Outcome → State → Prop := va_Qv (fun (u : Vf × Lf) => rgd bX u.1 ∧ agr [] [81, 82] V u.1 ∧ u.2 = L) (fun u t => gq D A (xw ad kk u.1 u.2 Z) (xty kk Z) t) A
abbrev r_x_firstKind : Room := { frames := 0, cells := 0, slots := 0, locals := 0 }
abbrev q_x_firstKind (D : va_G) (p0 : Int32) (p1 : Int32) (A : Nat → Prop) : Array Value → State → Outcome → State → Prop := va_Qi (fun (r : Int32) (_ : Unit) => True) (fun _ t => gq D A [] [] t) A
set_option maxHeartbeats 4000000 in
set_option maxRecDepth 100000 in
theorem x_firstKind (l : Launch) (D : va_G) (ks : KS) (sz : Nat) (p0 : Int32) (p1 : Int32)  : Met l yX5_firstKind (Cond.code yX5_firstKind cX5_firstKind 2 (some .int) :: GW) r_x_firstKind (va_Pc [.int p0, .int p1] (gp D ks ([]) ([]) sz)) (q_x_firstKind D p0 p1 (va_A ([]) sz)) 0 0 (va_A ([]) sz) := by
  refine g_met (q_x_firstKind D p0 p1) (by decide) (Nat.le_of_ble_eq_true rfl) ?_
  intro p e s m below meth c A ls H locs hx hb hr hml hown hg hlocks hin hnw hgk hP hK hD hS hA hl
  have hown : s.vm.findClass RX5 = some m.cls := hown
  have hl : lv_has ls 2 [(0, .int p0), (1, .int p1)] := hl
  refine lv_iload_n hx hb dX5_firstKind_0 rfl (lv_at hl 0 rfl) ?_
  refine lv_if_le (tgt := 9) hx hb dX5_firstKind_1 (by decide) (fun c1 => ?_) (fun c1 => ?_)
  · skip
    have f2 : p0.toInt ≤ 0 := b_le rfl (by decide) c1
    refine lv_iload_n hx hb dX5_firstKind_9 rfl (lv_at hl 1 rfl) ?_
    exact W.iret (v := p1) hx hb hr (fun t ht hW => ⟨⟨p1, (), rfl, trivial, by rw [ht]; exact hP, va_K.moved hW.alike hK, hD⟩, hS.F ht⟩) hS.2.2 dX5_firstKind_10
  · skip
    have f3 : 0 < p0.toInt := b_nle rfl (by decide) c1
    refine lv_bipush (v := 20) hx hb dX5_firstKind_4 (by decide) ?_
    refine lv_goto (tgt := 10) hx hb dX5_firstKind_6 (by decide) ?_
    exact W.iret (v := 20) hx hb hr (fun t ht hW => ⟨⟨20, (), rfl, trivial, by rw [ht]; exact hP, va_K.moved hW.alike hK, hD⟩, hS.F ht⟩) hS.2.2 dX5_firstKind_10
abbrev r_x_takesStep : Room := { frames := 0, cells := 0, slots := 0, locals := 0 }
abbrev q_x_takesStep (D : va_G) (ks : KS) (ad : Nat → Nat) (kk : Nat → ClassId) (V : Vf) (L : Lf) (Z : XZ) (A : Nat → Prop) : Array Value → State → Outcome → State → Prop := va_Qi (fun (r : Int32) (u : Vf × Lf) => rgd bX u.1 ∧ agr [(5, 9), (5, 13), (5, 14)] [] V u.1 ∧ u.2 = L ∧ (0 ≤ r.toInt ∧ r.toInt ≤ 1) ∧ (Imp (r.toInt = 0) ((u.1 5 9).toInt = 3)) ∧ (Imp (r.toInt = 1) ((u.1 5 9).toInt = (V 5 9).toInt))) (fun u t => gq D A (xw ad kk u.1 u.2 Z) (xty kk Z) t) A
set_option maxHeartbeats 4000000 in
set_option maxRecDepth 100000 in
theorem x_takesStep (l : Launch) (D : va_G) (ks : KS) (sz : Nat) (ad : Nat → Nat) (kk : Nat → ClassId) (V : Vf) (L : Lf) (Z : XZ)  (hMV : rgd bX V)  : Met l yX5_takesStep (Cond.code yX5_takesStep cX5_takesStep 1 (some .boolean) :: GW) r_x_takesStep (va_Pc [.ref (ad 5)] (gp D ks (xw ad kk V L Z) (xty kk Z) sz)) (q_x_takesStep D ks ad kk V L Z  (va_A (xw ad kk V L Z) sz)) 0 0 (va_A (xw ad kk V L Z) sz) := by
  refine g_met (q_x_takesStep D ks ad kk V L Z) (by decide) (Nat.le_of_ble_eq_true rfl) ?_
  intro p e s m below meth c A ls H locs hx hb hr hml hown hg hlocks hin hnw hgk hP hK hD hS hA hl
  have hown : s.vm.findClass RX5 = some m.cls := hown
  have hl : lv_has ls 1 [(0, .ref (ad 5))] := hl
  have hP : va_P D vwCl (xw ad kk V L Z) H := hP
  have hD : va_D A (xw ad kk V L Z) := hD
  have hK : va_K D vwCl (xty kk Z) s := hK
  have agV : agr [(5, 9), (5, 13), (5, 14)] [] V V := agr.rf
  refine lv_aload_n hx hb dX5_takesStep_0 rfl (lv_at hl 0 rfl) ?_
  refine va_get (D := D) (ci := 5) (v := .int (V 5 13)) (fs := (xfMachine ad V L Z)) (C := RX5) (T := TX5) (N := 15) hx hb hg inX5 hown hK hP 5 xgMachine rfl 13 (by decide) (hg _ w680) (fun _ h9 => h9) rfl dX5_takesStep_1 ?_
  have r1 : 0 ≤ ((V 5 13)).toInt ∧ ((V 5 13)).toInt ≤ 3000 := hMV 5 13
  refine lv_sipush (v := 3000) hx hb dX5_takesStep_4 (by decide) ?_
  refine lv_icmp_ge (tgt := 19) hx hb dX5_takesStep_7 (by decide) (fun c2 => ?_) (fun c2 => ?_)
  · skip
    have f3 : 3000 ≤ ((V 5 13)).toInt := b_le (by decide) rfl c2
    refine lv_aload_n hx hb dX5_takesStep_19 rfl (lv_at hl 0 rfl) ?_
    refine lv_iconst (v := 3) hx hb dX5_takesStep_20 (by decide) ?_
    refine va_put (D := D) (ci := 5) (v := .int 3) (ty := tyX5 9) (fs := (xfMachine ad V L Z)) (C := RX5) (T := TX5) (N := 15) hx hb hg inX5 tyX5 tyX5_ok nmX5 hown hK hP hD hS 5 xgMachine rfl 9 (by decide) (hg _ w676) (fun _ h9 => h9) rfl (tyX5_ok 9 (by decide)) rfl rfl (Nat.le_of_ble_eq_true rfl) dX5_takesStep_21 (fun H locs hP hD hS => ?_)
    obtain ⟨V4, hV4⟩ : ∃ z, z = up2 V 5 9 3 := ⟨_, rfl⟩
    have ew5 : (xw ad kk V L Z).set 5 ((ad 5), .inr (5, (xfMachine ad V L Z).set 9 (.int 3))) = xw ad kk V4 L Z := by rw [hV4]; exact xw_ss (by decide) rfl (xb_si (by decide))
    have hP : va_P D vwCl (xw ad kk V4 L Z) H := by rw [← ew5]; exact hP
    have hD : va_D A (xw ad kk V4 L Z) := by rw [← ew5]; exact hD
    have hMV4 : rgd bX V4 := hMV.put hV4 (by decide)
    have agV4 : agr [(5, 9), (5, 13), (5, 14)] [] V V4 := agV.up hV4 rfl
    refine lv_iconst (v := 0) hx hb dX5_takesStep_24 (by decide) ?_
    have pq6 : (V4 5 9).toInt = 3 := (congrArg Int32.toInt (up2_s hV4)).trans (by decide)
    exact W.zret (v := 0) hx hb hr rfl (fun t ht hW => ⟨⟨0, (V4, L), rfl, ⟨hMV4, agV4, rfl, (by decide), (Imp.mk (fun _ => (show (V4 5 9).toInt = 3 from by (first | exact om_395e3da5ee0d pq6 | omega)))), (Imp.mk (fun hp => absurd hp (by decide)))⟩, by rw [ht]; exact hP, va_K.moved hW.alike hK, hD⟩, hS.F ht⟩) hS.2.2 dX5_takesStep_25
  · skip
    have f7 : ((V 5 13)).toInt < 3000 := b_nle (by decide) rfl c2
    refine lv_aload_n hx hb dX5_takesStep_10 rfl (lv_at hl 0 rfl) ?_
    refine va_get (D := D) (ci := 5) (v := .int (V 5 14)) (fs := (xfMachine ad V L Z)) (C := RX5) (T := TX5) (N := 15) hx hb hg inX5 hown hK hP 5 xgMachine rfl 14 (by decide) (hg _ w682) (fun _ h9 => h9) rfl dX5_takesStep_11 ?_
    have r8 : 0 ≤ ((V 5 14)).toInt ∧ ((V 5 14)).toInt ≤ 60000 := hMV 5 14
    refine lv_ldc (v := 60000) hx hb hown (hg _ w1285) dX5_takesStep_14 ?_
    refine lv_icmp_lt (tgt := 26) hx hb dX5_takesStep_16 (by decide) (fun c9 => ?_) (fun c9 => ?_)
    · skip
      have f10 : ((V 5 14)).toInt < 60000 := b_lt rfl (by decide) c9
      refine lv_aload_n hx hb dX5_takesStep_26 rfl (lv_at hl 0 rfl) ?_
      refine lv_dup hx hb dX5_takesStep_27 rfl ?_
      refine va_get (D := D) (ci := 5) (v := .int (V 5 13)) (fs := (xfMachine ad V L Z)) (C := RX5) (T := TX5) (N := 15) hx hb hg inX5 hown hK hP 5 xgMachine rfl 13 (by decide) (hg _ w680) (fun _ h9 => h9) rfl dX5_takesStep_28 ?_
      refine lv_iconst (v := 1) hx hb dX5_takesStep_31 (by decide) ?_
      refine lv_iadd hx hb dX5_takesStep_32 ?_
      refine lv_topi (fun z11 ez11 => ?_)
      have hz11 : z11.toInt = ((V 5 13)).toInt + 1 := i_add ez11 rfl (by decide) (by (first | exact om_357e602e7667 r1.1 f7 | omega))
      refine va_put (D := D) (ci := 5) (v := .int z11) (ty := tyX5 13) (fs := (xfMachine ad V L Z)) (C := RX5) (T := TX5) (N := 15) hx hb hg inX5 tyX5 tyX5_ok nmX5 hown hK hP hD hS 5 xgMachine rfl 13 (by decide) (hg _ w680) (fun _ h9 => h9) rfl (tyX5_ok 13 (by decide)) rfl rfl (Nat.le_of_ble_eq_true rfl) dX5_takesStep_33 (fun H locs hP hD hS => ?_)
      obtain ⟨V12, hV12⟩ : ∃ z, z = up2 V 5 13 z11 := ⟨_, rfl⟩
      have ew13 : (xw ad kk V L Z).set 5 ((ad 5), .inr (5, (xfMachine ad V L Z).set 13 (.int z11))) = xw ad kk V12 L Z := by rw [hV12]; exact xw_ss (by decide) rfl (xb_si (by decide))
      have hP : va_P D vwCl (xw ad kk V12 L Z) H := by rw [← ew13]; exact hP
      have hD : va_D A (xw ad kk V12 L Z) := by rw [← ew13]; exact hD
      have hMV12 : rgd bX V12 := hMV.put hV12 (show 0 ≤ z11.toInt ∧ z11.toInt ≤ 3000 from by (first | exact om_329ba45e95d3 r1.1 f7 hz11 | omega))
      have agV12 : agr [(5, 9), (5, 13), (5, 14)] [] V V12 := agV.up hV12 rfl
      refine lv_aload_n hx hb dX5_takesStep_36 rfl (lv_at hl 0 rfl) ?_
      refine lv_dup hx hb dX5_takesStep_37 rfl ?_
      refine va_get (D := D) (ci := 5) (v := .int (V12 5 14)) (fs := (xfMachine ad V12 L Z)) (C := RX5) (T := TX5) (N := 15) hx hb hg inX5 hown hK hP 5 xgMachine rfl 14 (by decide) (hg _ w682) (fun _ h9 => h9) rfl dX5_takesStep_38 ?_
      refine g_top (v := (V 5 14)) (up2_k hV12 (by decide)) ?_
      refine lv_iconst (v := 1) hx hb dX5_takesStep_41 (by decide) ?_
      refine lv_iadd hx hb dX5_takesStep_42 ?_
      refine lv_topi (fun z14 ez14 => ?_)
      have hz14 : z14.toInt = ((V 5 14)).toInt + 1 := i_add ez14 rfl (by decide) (by (first | exact om_401bcb1082c9 r8.1 f10 | omega))
      refine va_put (D := D) (ci := 5) (v := .int z14) (ty := tyX5 14) (fs := (xfMachine ad V12 L Z)) (C := RX5) (T := TX5) (N := 15) hx hb hg inX5 tyX5 tyX5_ok nmX5 hown hK hP hD hS 5 xgMachine rfl 14 (by decide) (hg _ w682) (fun _ h9 => h9) rfl (tyX5_ok 14 (by decide)) rfl rfl (Nat.le_of_ble_eq_true rfl) dX5_takesStep_43 (fun H locs hP hD hS => ?_)
      obtain ⟨V15, hV15⟩ : ∃ z, z = up2 V12 5 14 z14 := ⟨_, rfl⟩
      have ew16 : (xw ad kk V12 L Z).set 5 ((ad 5), .inr (5, (xfMachine ad V12 L Z).set 14 (.int z14))) = xw ad kk V15 L Z := by rw [hV15]; exact xw_ss (by decide) rfl (xb_si (by decide))
      have hP : va_P D vwCl (xw ad kk V15 L Z) H := by rw [← ew16]; exact hP
      have hD : va_D A (xw ad kk V15 L Z) := by rw [← ew16]; exact hD
      have hMV15 : rgd bX V15 := hMV12.put hV15 (show 0 ≤ z14.toInt ∧ z14.toInt ≤ 60000 from by (first | exact om_83ca219491b2 r8.1 f10 hz14 | omega))
      have agV15 : agr [(5, 9), (5, 13), (5, 14)] [] V V15 := agV12.up hV15 rfl
      refine lv_iconst (v := 1) hx hb dX5_takesStep_46 (by decide) ?_
      have pq17 : (V15 5 9).toInt = ((V 5 9)).toInt := congrArg Int32.toInt ((up2_k hV15 (by decide)).trans (up2_k hV12 (by decide)))
      have r18 : 0 ≤ ((V 5 9)).toInt ∧ ((V 5 9)).toInt ≤ 3 := hMV 5 9
      exact W.zret (v := 1) hx hb hr rfl (fun t ht hW => ⟨⟨1, (V15, L), rfl, ⟨hMV15, agV15, rfl, (by decide), (Imp.mk (fun hp => absurd hp (by decide))), (Imp.mk (fun _ => (show (V15 5 9).toInt = (V 5 9).toInt from by (first | exact om_570b691c1130 pq17 | omega))))⟩, by rw [ht]; exact hP, va_K.moved hW.alike hK, hD⟩, hS.F ht⟩) hS.2.2 dX5_takesStep_47
    · skip
      have f19 : 60000 ≤ ((V 5 14)).toInt := b_nlt rfl (by decide) c9
      refine lv_aload_n hx hb dX5_takesStep_19 rfl (lv_at hl 0 rfl) ?_
      refine lv_iconst (v := 3) hx hb dX5_takesStep_20 (by decide) ?_
      refine va_put (D := D) (ci := 5) (v := .int 3) (ty := tyX5 9) (fs := (xfMachine ad V L Z)) (C := RX5) (T := TX5) (N := 15) hx hb hg inX5 tyX5 tyX5_ok nmX5 hown hK hP hD hS 5 xgMachine rfl 9 (by decide) (hg _ w676) (fun _ h9 => h9) rfl (tyX5_ok 9 (by decide)) rfl rfl (Nat.le_of_ble_eq_true rfl) dX5_takesStep_21 (fun H locs hP hD hS => ?_)
      obtain ⟨V20, hV20⟩ : ∃ z, z = up2 V 5 9 3 := ⟨_, rfl⟩
      have ew21 : (xw ad kk V L Z).set 5 ((ad 5), .inr (5, (xfMachine ad V L Z).set 9 (.int 3))) = xw ad kk V20 L Z := by rw [hV20]; exact xw_ss (by decide) rfl (xb_si (by decide))
      have hP : va_P D vwCl (xw ad kk V20 L Z) H := by rw [← ew21]; exact hP
      have hD : va_D A (xw ad kk V20 L Z) := by rw [← ew21]; exact hD
      have hMV20 : rgd bX V20 := hMV.put hV20 (by decide)
      have agV20 : agr [(5, 9), (5, 13), (5, 14)] [] V V20 := agV.up hV20 rfl
      refine lv_iconst (v := 0) hx hb dX5_takesStep_24 (by decide) ?_
      have pq22 : (V20 5 9).toInt = 3 := (congrArg Int32.toInt (up2_s hV20)).trans (by decide)
      exact W.zret (v := 0) hx hb hr rfl (fun t ht hW => ⟨⟨0, (V20, L), rfl, ⟨hMV20, agV20, rfl, (by decide), (Imp.mk (fun _ => (show (V20 5 9).toInt = 3 from by (first | exact om_395e3da5ee0d pq22 | omega)))), (Imp.mk (fun hp => absurd hp (by decide)))⟩, by rw [ht]; exact hP, va_K.moved hW.alike hK, hD⟩, hS.F ht⟩) hS.2.2 dX5_takesStep_25
abbrev r_x_mput : Room := { frames := 0, cells := 0, slots := 0, locals := 0 }
abbrev q_x_mput (D : va_G) (ks : KS) (ad : Nat → Nat) (kk : Nat → ClassId) (V : Vf) (L : Lf) (Z : XZ) (p0 : Int32) (A : Nat → Prop) : Array Value → State → Outcome → State → Prop := va_Qv (fun (u : Vf × Lf) => rgd bX u.1 ∧ agr [(5, 7)] [39] V u.1 ∧ u.2 = L) (fun u t => gq D A (xw ad kk u.1 u.2 Z) (xty kk Z) t) A
set_option maxHeartbeats 4000000 in
set_option maxRecDepth 100000 in
theorem x_mput (l : Launch) (D : va_G) (ks : KS) (sz : Nat) (ad : Nat → Nat) (kk : Nat → ClassId) (V : Vf) (L : Lf) (Z : XZ) (p0 : Int32) (hMV : rgd bX V)  : Met l yX5_put (Cond.code yX5_put cX5_put 2 none :: GW) r_x_mput (va_Pc [.ref (ad 5), .int p0] (gp D ks (xw ad kk V L Z) (xty kk Z) sz)) (q_x_mput D ks ad kk V L Z p0 (va_A (xw ad kk V L Z) sz)) 0 0 (va_A (xw ad kk V L Z) sz) := by
  refine g_met (q_x_mput D ks ad kk V L Z p0) (by decide) (Nat.le_of_ble_eq_true rfl) ?_
  intro p e s m below meth c A ls H locs hx hb hr hml hown hg hlocks hin hnw hgk hP hK hD hS hA hl
  have hown : s.vm.findClass RX5 = some m.cls := hown
  have hl : lv_has ls 2 [(0, .ref (ad 5)), (1, .int p0)] := hl
  have hP : va_P D vwCl (xw ad kk V L Z) H := hP
  have hD : va_D A (xw ad kk V L Z) := hD
  have hK : va_K D vwCl (xty kk Z) s := hK
  have agV : agr [(5, 7)] [39] V V := agr.rf
  refine lv_aload_n hx hb dX5_put_0 rfl (lv_at hl 0 rfl) ?_
  refine va_get (D := D) (ci := 5) (v := .int (V 5 7)) (fs := (xfMachine ad V L Z)) (C := RX5) (T := TX5) (N := 15) hx hb hg inX5 hown hK hP 5 xgMachine rfl 7 (by decide) (hg _ w674) (fun _ h9 => h9) rfl dX5_put_1 ?_
  have r1 : 0 ≤ ((V 5 7)).toInt ∧ ((V 5 7)).toInt ≤ 2048 := hMV 5 7
  refine lv_sipush (v := 2048) hx hb dX5_put_4 (by decide) ?_
  refine lv_icmp_ge (tgt := 27) hx hb dX5_put_7 (by decide) (fun c2 => ?_) (fun c2 => ?_)
  · skip
    have f3 : 2048 ≤ ((V 5 7)).toInt := b_le (by decide) rfl c2
    exact W.vret hx hb hr (fun t ht hW => ⟨⟨(V, L), rfl, ⟨hMV, agV, rfl⟩, by rw [ht]; exact hP, va_K.moved hW.alike hK, hD⟩, hS.F ht⟩) hS.2.2 dX5_put_27
  · skip
    have f4 : ((V 5 7)).toInt < 2048 := b_nle (by decide) rfl c2
    refine lv_aload_n hx hb dX5_put_10 rfl (lv_at hl 0 rfl) ?_
    refine va_get (D := D) (ci := 5) (v := .ref (ad 36)) (fs := (xfMachine ad V L Z)) (C := RX5) (T := TX5) (N := 15) hx hb hg inX5 hown hK hP 5 xgMachine rfl 3 (by decide) (hg _ w670) (fun _ h9 => h9) rfl dX5_put_11 ?_
    refine lv_aload_n hx hb dX5_put_14 rfl (lv_at hl 0 rfl) ?_
    refine lv_dup hx hb dX5_put_15 rfl ?_
    refine va_get (D := D) (ci := 5) (v := .int (V 5 7)) (fs := (xfMachine ad V L Z)) (C := RX5) (T := TX5) (N := 15) hx hb hg inX5 hown hK hP 5 xgMachine rfl 7 (by decide) (hg _ w674) (fun _ h9 => h9) rfl dX5_put_16 ?_
    refine lv_dup_x1 hx hb dX5_put_19 rfl rfl ?_
    refine lv_iconst (v := 1) hx hb dX5_put_20 (by decide) ?_
    refine lv_iadd hx hb dX5_put_21 ?_
    refine lv_topi (fun z5 ez5 => ?_)
    have hz5 : z5.toInt = ((V 5 7)).toInt + 1 := i_add ez5 rfl (by decide) (by (first | exact om_c4f4e99e1e6b r1.1 f4 | omega))
    refine va_put (D := D) (ci := 5) (v := .int z5) (ty := tyX5 7) (fs := (xfMachine ad V L Z)) (C := RX5) (T := TX5) (N := 15) hx hb hg inX5 tyX5 tyX5_ok nmX5 hown hK hP hD hS 5 xgMachine rfl 7 (by decide) (hg _ w674) (fun _ h9 => h9) rfl (tyX5_ok 7 (by decide)) rfl rfl (Nat.le_of_ble_eq_true rfl) dX5_put_22 (fun H locs hP hD hS => ?_)
    obtain ⟨V6, hV6⟩ : ∃ z, z = up2 V 5 7 z5 := ⟨_, rfl⟩
    have ew7 : (xw ad kk V L Z).set 5 ((ad 5), .inr (5, (xfMachine ad V L Z).set 7 (.int z5))) = xw ad kk V6 L Z := by rw [hV6]; exact xw_ss (by decide) rfl (xb_si (by decide))
    have hP : va_P D vwCl (xw ad kk V6 L Z) H := by rw [← ew7]; exact hP
    have hD : va_D A (xw ad kk V6 L Z) := by rw [← ew7]; exact hD
    have hMV6 : rgd bX V6 := hMV.put hV6 (show 0 ≤ z5.toInt ∧ z5.toInt ≤ 2048 from by (first | exact om_e678679b3f73 r1.1 f4 hz5 | omega))
    have agV6 : agr [(5, 7)] [39] V V6 := agV.up hV6 rfl
    refine lv_iload_n hx hb dX5_put_25 rfl (lv_at hl 1 rfl) ?_
    refine va_iast (D := D) (i := (V 5 7)) (x := p0) hx hb hK hP hD hS 36 29 rfl rfl (i_in (a := ((V 5 7)).toInt) rfl (by (first | exact om_27e0401eb2e2 r1.1 f4 | omega))) dX5_put_26 (fun H locs hP hD hS => ?_)
    obtain ⟨V8, hV8⟩ : ∃ z, z = up2 V6 39 (Int32.toNatClampNeg (V 5 7)) p0 := ⟨_, rfl⟩
    have ew9 : (xw ad kk V6 L Z).set 36 ((ad 36), .inl ((kk 36), 2048, .inl (upd (V6 39) (Int32.toNatClampNeg (V 5 7)) p0))) = xw ad kk V8 L Z := by rw [hV8]; exact xw_ss (by decide) rfl (xb_si (by decide))
    have hP : va_P D vwCl (xw ad kk V8 L Z) H := by rw [← ew9]; exact hP
    have hD : va_D A (xw ad kk V8 L Z) := by rw [← ew9]; exact hD
    have hMV8 : rgd bX V8 := hMV6.put hV8 (i_full _)
    have agV8 : agr [(5, 7)] [39] V V8 := agV6.up hV8 rfl
    exact W.vret hx hb hr (fun t ht hW => ⟨⟨(V8, L), rfl, ⟨hMV8, agV8, rfl⟩, by rw [ht]; exact hP, va_K.moved hW.alike hK, hD⟩, hS.F ht⟩) hS.2.2 dX5_put_27
abbrev r_x_mpull : Room := { frames := 0, cells := 0, slots := 0, locals := 0 }
abbrev q_x_mpull (D : va_G) (ks : KS) (ad : Nat → Nat) (kk : Nat → ClassId) (V : Vf) (L : Lf) (Z : XZ) (A : Nat → Prop) : Array Value → State → Outcome → State → Prop := va_Qi (fun (r : Int32) (u : Vf × Lf) => rgd bX u.1 ∧ agr [(5, 7)] [] V u.1 ∧ u.2 = L) (fun u t => gq D A (xw ad kk u.1 u.2 Z) (xty kk Z) t) A
set_option maxHeartbeats 4000000 in
set_option maxRecDepth 100000 in
theorem x_mpull (l : Launch) (D : va_G) (ks : KS) (sz : Nat) (ad : Nat → Nat) (kk : Nat → ClassId) (V : Vf) (L : Lf) (Z : XZ)  (hMV : rgd bX V)  : Met l yX5_pull (Cond.code yX5_pull cX5_pull 1 (some .int) :: GW) r_x_mpull (va_Pc [.ref (ad 5)] (gp D ks (xw ad kk V L Z) (xty kk Z) sz)) (q_x_mpull D ks ad kk V L Z  (va_A (xw ad kk V L Z) sz)) 0 0 (va_A (xw ad kk V L Z) sz) := by
  refine g_met (q_x_mpull D ks ad kk V L Z) (by decide) (Nat.le_of_ble_eq_true rfl) ?_
  intro p e s m below meth c A ls H locs hx hb hr hml hown hg hlocks hin hnw hgk hP hK hD hS hA hl
  have hown : s.vm.findClass RX5 = some m.cls := hown
  have hl : lv_has ls 1 [(0, .ref (ad 5))] := hl
  have hP : va_P D vwCl (xw ad kk V L Z) H := hP
  have hD : va_D A (xw ad kk V L Z) := hD
  have hK : va_K D vwCl (xty kk Z) s := hK
  have agV : agr [(5, 7)] [] V V := agr.rf
  refine lv_aload_n hx hb dX5_pull_0 rfl (lv_at hl 0 rfl) ?_
  refine va_get (D := D) (ci := 5) (v := .int (V 5 7)) (fs := (xfMachine ad V L Z)) (C := RX5) (T := TX5) (N := 15) hx hb hg inX5 hown hK hP 5 xgMachine rfl 7 (by decide) (hg _ w674) (fun _ h9 => h9) rfl dX5_pull_1 ?_
  have r1 : 0 ≤ ((V 5 7)).toInt ∧ ((V 5 7)).toInt ≤ 2048 := hMV 5 7
  refine lv_if_le (tgt := 26) hx hb dX5_pull_4 (by decide) (fun c2 => ?_) (fun c2 => ?_)
  · skip
    have f3 : ((V 5 7)).toInt ≤ 0 := b_le rfl (by decide) c2
    refine lv_iconst (v := 0) hx hb dX5_pull_26 (by decide) ?_
    exact W.iret (v := 0) hx hb hr (fun t ht hW => ⟨⟨0, (V, L), rfl, ⟨hMV, agV, rfl⟩, by rw [ht]; exact hP, va_K.moved hW.alike hK, hD⟩, hS.F ht⟩) hS.2.2 dX5_pull_27
  · skip
    have f4 : 0 < ((V 5 7)).toInt := b_nle rfl (by decide) c2
    refine lv_aload_n hx hb dX5_pull_7 rfl (lv_at hl 0 rfl) ?_
    refine va_get (D := D) (ci := 5) (v := .ref (ad 36)) (fs := (xfMachine ad V L Z)) (C := RX5) (T := TX5) (N := 15) hx hb hg inX5 hown hK hP 5 xgMachine rfl 3 (by decide) (hg _ w670) (fun _ h9 => h9) rfl dX5_pull_8 ?_
    refine lv_aload_n hx hb dX5_pull_11 rfl (lv_at hl 0 rfl) ?_
    refine lv_dup hx hb dX5_pull_12 rfl ?_
    refine va_get (D := D) (ci := 5) (v := .int (V 5 7)) (fs := (xfMachine ad V L Z)) (C := RX5) (T := TX5) (N := 15) hx hb hg inX5 hown hK hP 5 xgMachine rfl 7 (by decide) (hg _ w674) (fun _ h9 => h9) rfl dX5_pull_13 ?_
    refine lv_iconst (v := 1) hx hb dX5_pull_16 (by decide) ?_
    refine lv_isub hx hb dX5_pull_17 ?_
    refine lv_topi (fun z5 ez5 => ?_)
    have hz5 : z5.toInt = ((V 5 7)).toInt - 1 := i_sub ez5 rfl (by decide) (by (first | exact om_e93294f872dc r1.2 f4 | omega))
    refine lv_dup_x1 hx hb dX5_pull_18 rfl rfl ?_
    refine va_put (D := D) (ci := 5) (v := .int z5) (ty := tyX5 7) (fs := (xfMachine ad V L Z)) (C := RX5) (T := TX5) (N := 15) hx hb hg inX5 tyX5 tyX5_ok nmX5 hown hK hP hD hS 5 xgMachine rfl 7 (by decide) (hg _ w674) (fun _ h9 => h9) rfl (tyX5_ok 7 (by decide)) rfl rfl (Nat.le_of_ble_eq_true rfl) dX5_pull_19 (fun H locs hP hD hS => ?_)
    obtain ⟨V6, hV6⟩ : ∃ z, z = up2 V 5 7 z5 := ⟨_, rfl⟩
    have ew7 : (xw ad kk V L Z).set 5 ((ad 5), .inr (5, (xfMachine ad V L Z).set 7 (.int z5))) = xw ad kk V6 L Z := by rw [hV6]; exact xw_ss (by decide) rfl (xb_si (by decide))
    have hP : va_P D vwCl (xw ad kk V6 L Z) H := by rw [← ew7]; exact hP
    have hD : va_D A (xw ad kk V6 L Z) := by rw [← ew7]; exact hD
    have hMV6 : rgd bX V6 := hMV.put hV6 (show 0 ≤ z5.toInt ∧ z5.toInt ≤ 2048 from by (first | exact om_086aaa362f20 r1.2 f4 hz5 | omega))
    have agV6 : agr [(5, 7)] [] V V6 := agV.up hV6 rfl
    refine va_iald (D := D) (i := z5) hx hb hK hP 36 29 rfl rfl (i_in (a := z5.toInt) rfl (by (first | exact om_65e634a2db7a r1.2 f4 hz5 | omega))) dX5_pull_22 ?_
    refine g_top (v := (V 39 (Int32.toNatClampNeg z5))) (up2_o hV6 (by decide)) ?_
    refine lv_goto (tgt := 27) hx hb dX5_pull_23 (by decide) ?_
    exact W.iret (v := (V 39 (Int32.toNatClampNeg z5))) hx hb hr (fun t ht hW => ⟨⟨(V 39 (Int32.toNatClampNeg z5)), (V6, L), rfl, ⟨hMV6, agV6, rfl⟩, by rw [ht]; exact hP, va_K.moved hW.alike hK, hD⟩, hS.F ht⟩) hS.2.2 dX5_pull_27
abbrev r_x_compute : Room := { frames := 0, cells := 0, slots := 0, locals := 0 }
abbrev q_x_compute (D : va_G) (p0 : Int32) (p1 : Int32) (p2 : Int32) (A : Nat → Prop) : Array Value → State → Outcome → State → Prop := va_Qi (fun (r : Int32) (_ : Unit) => True) (fun _ t => gq D A [] [] t) A
set_option maxHeartbeats 4000000 in
set_option maxRecDepth 100000 in
theorem x_compute (l : Launch) (D : va_G) (ks : KS) (sz : Nat) (p0 : Int32) (p1 : Int32) (p2 : Int32)  : Met l yX5_compute (Cond.code yX5_compute cX5_compute 3 (some .int) :: GW) r_x_compute (va_Pc [.int p0, .int p1, .int p2] (gp D ks ([]) ([]) sz)) (q_x_compute D p0 p1 p2 (va_A ([]) sz)) 0 0 (va_A ([]) sz) := by
  refine g_met (q_x_compute D p0 p1 p2) (by decide) (Nat.le_of_ble_eq_true rfl) ?_
  intro p e s m below meth c A ls H locs hx hb hr hml hown hg hlocks hin hnw hgk hP hK hD hS hA hl
  have hown : s.vm.findClass RX5 = some m.cls := hown
  have hl : lv_has ls 3 [(0, .int p0), (1, .int p1), (2, .int p2)] := hl
  refine lv_iload_n hx hb dX5_compute_0 rfl (lv_at hl 0 rfl) ?_
  by_cases q1 : p0 = 5
  · refine g_top (v := 5) q1 ?_
    have fq1 : p0.toInt = 5 := b_eq rfl (by decide) q1
    refine lv_tableIn (x := 5) (off := 31) (tgt := 32) hx hb dX5_compute_1 (by decide) (by decide) (by decide) (by decide) ?_
    refine lv_iload_n hx hb dX5_compute_32 rfl (lv_at hl 1 rfl) ?_
    refine lv_iload_n hx hb dX5_compute_33 rfl (lv_at hl 2 rfl) ?_
    refine lv_iadd hx hb dX5_compute_34 ?_
    have r2 := i_full p1
    have r3 := i_full p2
    refine lv_topi (fun z4 ez4 => ?_)
    have hz4 : Imp (-2147483648 ≤ p1.toInt + p2.toInt ∧ p1.toInt + p2.toInt ≤ 2147483647) (z4.toInt = p1.toInt + p2.toInt) := Imp.mk (fun hp => i_add ez4 rfl rfl hp)
    exact W.iret (v := z4) hx hb hr (fun t ht hW => ⟨⟨z4, (), rfl, trivial, by rw [ht]; exact hP, va_K.moved hW.alike hK, hD⟩, hS.F ht⟩) hS.2.2 dX5_compute_35
  have gq1 : p0.toInt ≠ 5 := b_neq rfl (by decide) q1
  by_cases q5 : p0 = 6
  · refine g_top (v := 6) q5 ?_
    have fq5 : p0.toInt = 6 := b_eq rfl (by decide) q5
    refine lv_tableIn (x := 6) (off := 35) (tgt := 36) hx hb dX5_compute_1 (by decide) (by decide) (by decide) (by decide) ?_
    refine lv_iload_n hx hb dX5_compute_36 rfl (lv_at hl 1 rfl) ?_
    refine lv_iload_n hx hb dX5_compute_37 rfl (lv_at hl 2 rfl) ?_
    refine lv_isub hx hb dX5_compute_38 ?_
    have r6 := i_full p1
    have r7 := i_full p2
    refine lv_topi (fun z8 ez8 => ?_)
    have hz8 : Imp (-2147483648 ≤ p1.toInt - p2.toInt ∧ p1.toInt - p2.toInt ≤ 2147483647) (z8.toInt = p1.toInt - p2.toInt) := Imp.mk (fun hp => i_sub ez8 rfl rfl hp)
    exact W.iret (v := z8) hx hb hr (fun t ht hW => ⟨⟨z8, (), rfl, trivial, by rw [ht]; exact hP, va_K.moved hW.alike hK, hD⟩, hS.F ht⟩) hS.2.2 dX5_compute_39
  have gq5 : p0.toInt ≠ 6 := b_neq rfl (by decide) q5
  by_cases q9 : p0 = 7
  · refine g_top (v := 7) q9 ?_
    have fq9 : p0.toInt = 7 := b_eq rfl (by decide) q9
    refine lv_tableIn (x := 7) (off := 39) (tgt := 40) hx hb dX5_compute_1 (by decide) (by decide) (by decide) (by decide) ?_
    refine lv_iload_n hx hb dX5_compute_40 rfl (lv_at hl 1 rfl) ?_
    refine lv_iload_n hx hb dX5_compute_41 rfl (lv_at hl 2 rfl) ?_
    refine lv_imul hx hb dX5_compute_42 ?_
    have r10 := i_full p1
    have r11 := i_full p2
    refine lv_topi (fun z12 ez12 => ?_)
    exact W.iret (v := z12) hx hb hr (fun t ht hW => ⟨⟨z12, (), rfl, trivial, by rw [ht]; exact hP, va_K.moved hW.alike hK, hD⟩, hS.F ht⟩) hS.2.2 dX5_compute_43
  have gq9 : p0.toInt ≠ 7 := b_neq rfl (by decide) q9
  by_cases q13 : p0 = 8
  · refine g_top (v := 8) q13 ?_
    have fq13 : p0.toInt = 8 := b_eq rfl (by decide) q13
    refine lv_tableIn (x := 8) (off := 43) (tgt := 44) hx hb dX5_compute_1 (by decide) (by decide) (by decide) (by decide) ?_
    refine lv_iload_n hx hb dX5_compute_44 rfl (lv_at hl 1 rfl) ?_
    refine lv_iload_n hx hb dX5_compute_45 rfl (lv_at hl 2 rfl) ?_
    refine lv_icmp_ge (tgt := 53) hx hb dX5_compute_46 (by decide) (fun c14 => ?_) (fun c14 => ?_)
    · skip
      have f15 : p2.toInt ≤ p1.toInt := b_le rfl rfl c14
      refine lv_iconst (v := 0) hx hb dX5_compute_53 (by decide) ?_
      exact W.iret (v := 0) hx hb hr (fun t ht hW => ⟨⟨0, (), rfl, trivial, by rw [ht]; exact hP, va_K.moved hW.alike hK, hD⟩, hS.F ht⟩) hS.2.2 dX5_compute_54
    · skip
      have f16 : p1.toInt < p2.toInt := b_nle rfl rfl c14
      refine lv_iconst (v := 1) hx hb dX5_compute_49 (by decide) ?_
      refine lv_goto (tgt := 54) hx hb dX5_compute_50 (by decide) ?_
      exact W.iret (v := 1) hx hb hr (fun t ht hW => ⟨⟨1, (), rfl, trivial, by rw [ht]; exact hP, va_K.moved hW.alike hK, hD⟩, hS.F ht⟩) hS.2.2 dX5_compute_54
  have gq13 : p0.toInt ≠ 8 := b_neq rfl (by decide) q13
  refine lv_tableOut (x := p0) (tgt := 55) hx hb dX5_compute_1 (by omega) (by decide) ?_
  refine lv_iload_n hx hb dX5_compute_55 rfl (lv_at hl 1 rfl) ?_
  refine lv_iload_n hx hb dX5_compute_56 rfl (lv_at hl 2 rfl) ?_
  refine lv_icmp_ne (tgt := 64) hx hb dX5_compute_57 (by decide) (fun c17 => ?_) (fun c17 => ?_)
  · skip
    have f18 : p1.toInt ≠ p2.toInt := b_neq rfl rfl c17
    refine lv_iconst (v := 0) hx hb dX5_compute_64 (by decide) ?_
    exact W.iret (v := 0) hx hb hr (fun t ht hW => ⟨⟨0, (), rfl, trivial, by rw [ht]; exact hP, va_K.moved hW.alike hK, hD⟩, hS.F ht⟩) hS.2.2 dX5_compute_65
  · skip
    have f19 : p1.toInt = p2.toInt := b_eq rfl rfl c17
    refine lv_iconst (v := 1) hx hb dX5_compute_60 (by decide) ?_
    refine lv_goto (tgt := 65) hx hb dX5_compute_61 (by decide) ?_
    exact W.iret (v := 1) hx hb hr (fun t ht hW => ⟨⟨1, (), rfl, trivial, by rw [ht]; exact hP, va_K.moved hW.alike hK, hD⟩, hS.F ht⟩) hS.2.2 dX5_compute_65
abbrev r_x_endWork : Room := { frames := 1, cells := 0, slots := 0, locals := 20 }
abbrev q_x_endWork (D : va_G) (ks : KS) (ad : Nat → Nat) (kk : Nat → ClassId) (V : Vf) (L : Lf) (Z : XZ) (gf : Nat) (A : Nat → Prop) : Array Value → State → Outcome → State → Prop := va_Qv (fun (u : Vf × Lf) => rgd bX u.1 ∧ agr [(5, 6), (5, 7)] [] V u.1 ∧ u.2 = L ∧ ((u.1 5 6).toInt = (V 5 6).toInt - 1)) (fun u t => gq D A (xw ad kk u.1 u.2 Z) (xty kk Z) t) A
abbrev r_x_finish : Room := { frames := 1, cells := 0, slots := 0, locals := 21 }
abbrev q_x_finish (D : va_G) (ks : KS) (ad : Nat → Nat) (kk : Nat → ClassId) (V : Vf) (L : Lf) (Z : XZ) (gf : Nat) (A : Nat → Prop) : Array Value → State → Outcome → State → Prop := va_Qv (fun (u : Vf × Lf) => rgd bX u.1 ∧ agr [(3, 14), (5, 6), (5, 8), (5, 9), (5, 10)] [28, 29, 40] V u.1 ∧ u.2 = L ∧ ((u.1 5 6).toInt = (V 5 6).toInt - 1) ∧ ((u.1 5 9).toInt = 1)) (fun u t => gq D A (xw ad kk u.1 u.2 Z) (xty kk Z) t) A
abbrev r_x_abandon : Room := { frames := 1, cells := 0, slots := 0, locals := 22 }
abbrev q_x_abandon (D : va_G) (ks : KS) (ad : Nat → Nat) (kk : Nat → ClassId) (V : Vf) (L : Lf) (Z : XZ) (b : Nat) (gf : Nat) (A : Nat → Prop) : Array Value → State → Outcome → State → Prop := va_Qv (fun (u : Vf × Lf) => rgd bX u.1 ∧ agr [(5, 6)] [24, 25, 28] V u.1 ∧ u.2 = L ∧ ((u.1 5 6).toInt = (V 5 6).toInt - 1)) (fun u t => gq D A (xw ad kk u.1 u.2 Z) (xty kk Z) t) A
abbrev r_x_takeBook : Room := { frames := 1, cells := 0, slots := 0, locals := 20 }
abbrev q_x_takeBook (D : va_G) (ks : KS) (ad : Nat → Nat) (kk : Nat → ClassId) (V : Vf) (L : Lf) (Z : XZ) (b : Nat) (A : Nat → Prop) : Array Value → State → Outcome → State → Prop := va_Qv (fun (u : Vf × Lf) => rgd bX u.1 ∧ agr [(5, 5), (5, 6), (5, 7), (5, 8), (5, 9), (5, 13)] [] V u.1 ∧ u.2 = L ∧ ((u.1 5 5).toInt = (b : Int)) ∧ ((u.1 5 6).toInt = 0)) (fun u t => gq D A (xw ad kk u.1 u.2 Z) (xty kk Z) t) A
set_option maxHeartbeats 4000000 in
set_option maxRecDepth 100000 in
theorem x_takeBook (l : Launch) (D : va_G) (ks : KS) (sz : Nat) (ad : Nat → Nat) (kk : Nat → ClassId) (V : Vf) (L : Lf) (Z : XZ) (b : Nat) (hMV : rgd bX V) (hb2 : b < 2)  : Met l yX5_takeBook (Cond.code yX5_takeBook cX5_takeBook 2 none :: GW) r_x_takeBook (va_Pc [.ref (ad 5), .ref (ad (38 + b))] (gp D ks (xw ad kk V L Z) (xty kk Z) sz)) (q_x_takeBook D ks ad kk V L Z  b (va_A (xw ad kk V L Z) sz)) 0 0 (va_A (xw ad kk V L Z) sz) := by
  refine g_met (q_x_takeBook D ks ad kk V L Z  b) (by decide) (Nat.le_of_ble_eq_true rfl) ?_
  intro p e s m below meth c A ls H locs hx hb hr hml hown hg hlocks hin hnw hgk hP hK hD hS hA hl
  have hown : s.vm.findClass RX5 = some m.cls := hown
  have hl : lv_has ls 2 [(0, .ref (ad 5)), (1, .ref (ad (38 + b)))] := hl
  have hP : va_P D vwCl (xw ad kk V L Z) H := hP
  have hD : va_D A (xw ad kk V L Z) := hD
  have hK : va_K D vwCl (xty kk Z) s := hK
  have agV : agr [(5, 5), (5, 6), (5, 7), (5, 8), (5, 9), (5, 13)] [] V V := agr.rf
  refine lv_aload_n hx hb dX5_takeBook_0 rfl (lv_at hl 0 rfl) ?_
  refine lv_aload_n hx hb dX5_takeBook_1 rfl (lv_at hl 1 rfl) ?_
  refine va_put (D := D) (ci := 5) (v := .ref (ad (38 + b))) (ty := tyX5 5) (fs := (xfMachine ad V L Z)) (C := RX5) (T := TX5) (N := 15) hx hb hg inX5 tyX5 tyX5_ok nmX5 hown hK hP hD hS 5 xgMachine rfl 5 (by decide) (hg _ w672) (fun _ h9 => h9) rfl (tyX5_ok 5 (by decide)) rfl rfl (Nat.le_of_ble_eq_true rfl) dX5_takeBook_2 (fun H locs hP hD hS => ?_)
  have il1 : b < 2 := by (first | exact om_f940a4667dd6 hb2 | omega)
  have r2 : (nI b).toInt = ((b : Nat) : Int) := nI_toInt (by omega)
  obtain ⟨V3, hV3⟩ : ∃ z, z = up2 V 5 5 (nI b) := ⟨_, rfl⟩
  have ew4 : (xw ad kk V L Z).set 5 ((ad 5), .inr (5, (xfMachine ad V L Z).set 5 (.ref (ad (38 + b))))) = xw ad kk V3 L Z := by rw [hV3]; exact xr_mbook il1
  have hP : va_P D vwCl (xw ad kk V3 L Z) H := by rw [← ew4]; exact hP
  have hD : va_D A (xw ad kk V3 L Z) := by rw [← ew4]; exact hD
  have hMV3 : rgd bX V3 := hMV.put hV3 (show 0 ≤ ((nI b)).toInt ∧ ((nI b)).toInt ≤ 1 from by (first | exact om_d98fff7a4861 hb2 r2 | omega))
  have agV3 : agr [(5, 5), (5, 6), (5, 7), (5, 8), (5, 9), (5, 13)] [] V V3 := agV.up hV3 rfl
  refine lv_aload_n hx hb dX5_takeBook_5 rfl (lv_at hl 0 rfl) ?_
  refine gA_void (gA_runV (As := []) (rest := []) (ci := 5) (q0 := 5) hx hb hml hown hg hP hD hK hS hA hnw hgk (x_restart l D ks H.size ad kk V3 L Z  hMV3 ) w1043 w1044 w1045 w171 w1046 rfl xgMachine hdV_yX5_restart ⟨Nat.le_of_ble_eq_true rfl, Nat.le_of_ble_eq_true rfl⟩ rfl hl.1 rfl (Nat.le_of_ble_eq_true rfl) dX5_takeBook_6 ⟨Nat.le_of_ble_eq_true rfl, Nat.le_of_ble_eq_true rfl⟩) hP hD hK hS hA (fun u6 H locs w7 hP hD hK hS => ?_)
  obtain ⟨V13, L14⟩ := u6
  obtain ⟨hMV13, ajV13, axL14, t8, t9, t10, t11, t12⟩ := w7
  have axL14 : L = L14 := Eq.symm axL14
  subst axL14
  have hP : va_P D vwCl (xw ad kk V13 L Z) H := hP
  have hD : va_D A (xw ad kk V13 L Z) := hD
  have hMV13 : rgd bX V13 := hMV13
  have ajV13 : agr [(5, 6), (5, 7), (5, 8), (5, 9), (5, 13)] [] V3 V13 := ajV13
  have agV13 : agr [(5, 5), (5, 6), (5, 7), (5, 8), (5, 9), (5, 13)] [] V V13 := agV3.tr ajV13 (by decide) (by decide)
  have t8 : (V13 5 6).toInt = 0 := t8
  have t9 : (V13 5 7).toInt = 0 := t9
  have t10 : (V13 5 8).toInt = 0 := t10
  have t11 : (V13 5 9).toInt = 0 := t11
  have t12 : (V13 5 13).toInt = 0 := t12
  have r15 : 0 ≤ ((V13 5 6)).toInt ∧ ((V13 5 6)).toInt ≤ 400 := hMV13 5 6
  have r16 : 0 ≤ ((V13 5 7)).toInt ∧ ((V13 5 7)).toInt ≤ 2048 := hMV13 5 7
  have r17 : 0 ≤ ((V13 5 8)).toInt ∧ ((V13 5 8)).toInt ≤ 300 := hMV13 5 8
  have r18 : 0 ≤ ((V13 5 9)).toInt ∧ ((V13 5 9)).toInt ≤ 3 := hMV13 5 9
  have r19 : 0 ≤ ((V13 5 13)).toInt ∧ ((V13 5 13)).toInt ≤ 3000 := hMV13 5 13
  have pq20 : (V13 5 5).toInt = ((nI b)).toInt := congrArg Int32.toInt ((ajV13 5 5 rfl).trans (up2_s hV3))
  exact W.vret hx hb hr (fun t ht hW => ⟨⟨(V13, L), rfl, ⟨hMV13, agV13, rfl, (show (V13 5 5).toInt = (b : Int) from by (first | exact om_adf531c77a0d r2 pq20 | omega)), (show (V13 5 6).toInt = 0 from by (first | exact om_b66ba74381d5 t8 | omega))⟩, by rw [ht]; exact hP, va_K.moved hW.alike hK, hD⟩, hS.F ht⟩) hS.2.2 dX5_takeBook_9
end
section
/-! a new object in the stock -/
theorem SL.new {fs : List (Nat × Nat)} {cs : List Nat} {V W : Vf} {Z : XZ} {o : Nat} (h : SL V Z) (a : agr fs cs V W) (q15 : wrL fs cs 3 15 = false) (q32 : ∀ k, wrL fs cs 32 k = false) (ho : (o : Int) = (V 3 13).toInt) (h13 : (W 3 13).toInt = (V 3 13).toInt + 1) (n30 : ∀ q : Nat, 8 * o ≤ q → q < 8 * o + 8 → (W 30 q).toInt = -1) (e30 : ∀ q : Nat, ¬ (8 * o ≤ q ∧ q < 8 * o + 8) → W 30 q = V 30 q) (h0 : 0 ≤ (V 3 15).toInt) : SL W Z := by
  unfold SL
  rw [a _ _ q15]
  refine ⟨h.1, h.2.1, fun x k hx hk => ?_, fun i hi => by rw [a _ _ (q32 i)]; exact h.2.2.2 i hi⟩
  by_cases e : x = o
  · rw [e, n30 (8 * o + k) (by omega) (by omega)]
    omega
  · rw [e30 _ (by omega)]
    exact h.2.2.1 x k (by omega) hk

theorem w1292 : Cond.code yJ7_fill_fda19 cJ7_fill_fda19 5 none ∈ GW := gw_k tk9_5 177 (rfl) rfl
theorem w1290 : Cond.methodLink RX8 80 yJ7_fill_fda19 ∈ GW := gw_k tk9_5 175 (by decide +kernel) rfl
theorem w1291 : Cond.static yJ7_fill_fda19 ∈ GW := gw_k tk9_5 176 (by decide +kernel) rfl
theorem hdS_yJ7_fill_fda19 : yJ7_fill_fda19.cls ≠ "java/lang/invoke/MethodHandle" ∧ yJ7_fill_fda19.cls ≠ "java/lang/invoke/VarHandle" ∧ (parseMethodDescriptor yJ7_fill_fda19.desc).map (fun d => d.parameters.length) = some 4 := by decide +kernel
theorem dk9_dX8_beginObject_0_0 : dOk cX8_beginObject [(0, .aload_n 0, 1), (1, .getfield 63, 3), (4, .sipush 300, 3), (7, .if_icmp .lt 5, 3), (12, .aload_n 0, 1), (13, .dup, 1), (14, .getfield 63, 3), (17, .dup_x1, 1), (18, .iconst 1, 1), (19, .iadd, 1), (20, .putfield 63, 3), (23, .istore 4, 2), (25, .aload_n 0, 1), (26, .getfield 28, 3), (29, .iload 4, 2), (31, .iload_n 1, 1), (32, .iastore, 1), (33, .aload_n 0, 1), (34, .getfield 31, 3), (37, .iload 4, 2), (39, .iload_n 2, 1), (40, .iastore, 1), (41, .aload_n 0, 1), (42, .getfield 34, 3)] = true ∧ dOk cX8_beginObject [(45, .iload 4, 2), (47, .iconst 0, 1), (48, .iastore, 1), (49, .aload_n 0, 1), (50, .getfield 40, 3), (53, .iload 4, 2), (55, .bipush 8, 2), (57, .imul, 1), (58, .iload 4, 2), (60, .bipush 8, 2), (62, .imul, 1), (63, .bipush 8, 2), (65, .iadd, 1), (66, .iconst (-1), 1), (67, .invokestatic 80, 3), (70, .iload_n 3, 1), (71, .ifCond .eq 16, 3), (87, .iload 4, 2), (89, .ireturn, 1), (74, .aload_n 0, 1), (75, .getfield 25, 3), (78, .iload_n 2, 1), (79, .bipush 24, 2), (81, .imul, 1)] = true ∧ dOk cX8_beginObject [(82, .iload_n 1, 1), (83, .iadd, 1), (84, .iload 4, 2), (86, .iastore, 1), (10, .iconst (-1), 1), (11, .ireturn, 1)] = true := by decide +kernel
theorem dX8_beginObject_0 : decode cX8_beginObject 0 = .ok (.aload_n 0, 1) := dr9 dk9_dX8_beginObject_0_0.1 0 (0, .aload_n 0, 1) rfl
theorem dX8_beginObject_1 : decode cX8_beginObject 1 = .ok (.getfield 63, 3) := dr9 dk9_dX8_beginObject_0_0.1 1 (1, .getfield 63, 3) rfl
theorem dX8_beginObject_4 : decode cX8_beginObject 4 = .ok (.sipush 300, 3) := dr9 dk9_dX8_beginObject_0_0.1 2 (4, .sipush 300, 3) rfl
theorem dX8_beginObject_7 : decode cX8_beginObject 7 = .ok (.if_icmp .lt 5, 3) := dr9 dk9_dX8_beginObject_0_0.1 3 (7, .if_icmp .lt 5, 3) rfl
theorem dX8_beginObject_12 : decode cX8_beginObject 12 = .ok (.aload_n 0, 1) := dr9 dk9_dX8_beginObject_0_0.1 4 (12, .aload_n 0, 1) rfl
theorem dX8_beginObject_13 : decode cX8_beginObject 13 = .ok (.dup, 1) := dr9 dk9_dX8_beginObject_0_0.1 5 (13, .dup, 1) rfl
theorem dX8_beginObject_14 : decode cX8_beginObject 14 = .ok (.getfield 63, 3) := dr9 dk9_dX8_beginObject_0_0.1 6 (14, .getfield 63, 3) rfl
theorem dX8_beginObject_17 : decode cX8_beginObject 17 = .ok (.dup_x1, 1) := dr9 dk9_dX8_beginObject_0_0.1 7 (17, .dup_x1, 1) rfl
theorem dX8_beginObject_18 : decode cX8_beginObject 18 = .ok (.iconst 1, 1) := dr9 dk9_dX8_beginObject_0_0.1 8 (18, .iconst 1, 1) rfl
theorem dX8_beginObject_19 : decode cX8_beginObject 19 = .ok (.iadd, 1) := dr9 dk9_dX8_beginObject_0_0.1 9 (19, .iadd, 1) rfl
theorem dX8_beginObject_20 : decode cX8_beginObject 20 = .ok (.putfield 63, 3) := dr9 dk9_dX8_beginObject_0_0.1 10 (20, .putfield 63, 3) rfl
theorem dX8_beginObject_23 : decode cX8_beginObject 23 = .ok (.istore 4, 2) := dr9 dk9_dX8_beginObject_0_0.1 11 (23, .istore 4, 2) rfl
theorem dX8_beginObject_25 : decode cX8_beginObject 25 = .ok (.aload_n 0, 1) := dr9 dk9_dX8_beginObject_0_0.1 12 (25, .aload_n 0, 1) rfl
theorem dX8_beginObject_26 : decode cX8_beginObject 26 = .ok (.getfield 28, 3) := dr9 dk9_dX8_beginObject_0_0.1 13 (26, .getfield 28, 3) rfl
theorem dX8_beginObject_29 : decode cX8_beginObject 29 = .ok (.iload 4, 2) := dr9 dk9_dX8_beginObject_0_0.1 14 (29, .iload 4, 2) rfl
theorem dX8_beginObject_31 : decode cX8_beginObject 31 = .ok (.iload_n 1, 1) := dr9 dk9_dX8_beginObject_0_0.1 15 (31, .iload_n 1, 1) rfl
theorem dX8_beginObject_32 : decode cX8_beginObject 32 = .ok (.iastore, 1) := dr9 dk9_dX8_beginObject_0_0.1 16 (32, .iastore, 1) rfl
theorem dX8_beginObject_33 : decode cX8_beginObject 33 = .ok (.aload_n 0, 1) := dr9 dk9_dX8_beginObject_0_0.1 17 (33, .aload_n 0, 1) rfl
theorem dX8_beginObject_34 : decode cX8_beginObject 34 = .ok (.getfield 31, 3) := dr9 dk9_dX8_beginObject_0_0.1 18 (34, .getfield 31, 3) rfl
theorem dX8_beginObject_37 : decode cX8_beginObject 37 = .ok (.iload 4, 2) := dr9 dk9_dX8_beginObject_0_0.1 19 (37, .iload 4, 2) rfl
theorem dX8_beginObject_39 : decode cX8_beginObject 39 = .ok (.iload_n 2, 1) := dr9 dk9_dX8_beginObject_0_0.1 20 (39, .iload_n 2, 1) rfl
theorem dX8_beginObject_40 : decode cX8_beginObject 40 = .ok (.iastore, 1) := dr9 dk9_dX8_beginObject_0_0.1 21 (40, .iastore, 1) rfl
theorem dX8_beginObject_41 : decode cX8_beginObject 41 = .ok (.aload_n 0, 1) := dr9 dk9_dX8_beginObject_0_0.1 22 (41, .aload_n 0, 1) rfl
theorem dX8_beginObject_42 : decode cX8_beginObject 42 = .ok (.getfield 34, 3) := dr9 dk9_dX8_beginObject_0_0.1 23 (42, .getfield 34, 3) rfl
theorem dX8_beginObject_45 : decode cX8_beginObject 45 = .ok (.iload 4, 2) := dr9 dk9_dX8_beginObject_0_0.2.1 0 (45, .iload 4, 2) rfl
theorem dX8_beginObject_47 : decode cX8_beginObject 47 = .ok (.iconst 0, 1) := dr9 dk9_dX8_beginObject_0_0.2.1 1 (47, .iconst 0, 1) rfl
theorem dX8_beginObject_48 : decode cX8_beginObject 48 = .ok (.iastore, 1) := dr9 dk9_dX8_beginObject_0_0.2.1 2 (48, .iastore, 1) rfl
theorem dX8_beginObject_49 : decode cX8_beginObject 49 = .ok (.aload_n 0, 1) := dr9 dk9_dX8_beginObject_0_0.2.1 3 (49, .aload_n 0, 1) rfl
theorem dX8_beginObject_50 : decode cX8_beginObject 50 = .ok (.getfield 40, 3) := dr9 dk9_dX8_beginObject_0_0.2.1 4 (50, .getfield 40, 3) rfl
theorem dX8_beginObject_53 : decode cX8_beginObject 53 = .ok (.iload 4, 2) := dr9 dk9_dX8_beginObject_0_0.2.1 5 (53, .iload 4, 2) rfl
theorem dX8_beginObject_55 : decode cX8_beginObject 55 = .ok (.bipush 8, 2) := dr9 dk9_dX8_beginObject_0_0.2.1 6 (55, .bipush 8, 2) rfl
theorem dX8_beginObject_57 : decode cX8_beginObject 57 = .ok (.imul, 1) := dr9 dk9_dX8_beginObject_0_0.2.1 7 (57, .imul, 1) rfl
theorem dX8_beginObject_58 : decode cX8_beginObject 58 = .ok (.iload 4, 2) := dr9 dk9_dX8_beginObject_0_0.2.1 8 (58, .iload 4, 2) rfl
theorem dX8_beginObject_60 : decode cX8_beginObject 60 = .ok (.bipush 8, 2) := dr9 dk9_dX8_beginObject_0_0.2.1 9 (60, .bipush 8, 2) rfl
theorem dX8_beginObject_62 : decode cX8_beginObject 62 = .ok (.imul, 1) := dr9 dk9_dX8_beginObject_0_0.2.1 10 (62, .imul, 1) rfl
theorem dX8_beginObject_63 : decode cX8_beginObject 63 = .ok (.bipush 8, 2) := dr9 dk9_dX8_beginObject_0_0.2.1 11 (63, .bipush 8, 2) rfl
theorem dX8_beginObject_65 : decode cX8_beginObject 65 = .ok (.iadd, 1) := dr9 dk9_dX8_beginObject_0_0.2.1 12 (65, .iadd, 1) rfl
theorem dX8_beginObject_66 : decode cX8_beginObject 66 = .ok (.iconst (-1), 1) := dr9 dk9_dX8_beginObject_0_0.2.1 13 (66, .iconst (-1), 1) rfl
theorem dX8_beginObject_67 : decode cX8_beginObject 67 = .ok (.invokestatic 80, 3) := dr9 dk9_dX8_beginObject_0_0.2.1 14 (67, .invokestatic 80, 3) rfl
theorem dX8_beginObject_70 : decode cX8_beginObject 70 = .ok (.iload_n 3, 1) := dr9 dk9_dX8_beginObject_0_0.2.1 15 (70, .iload_n 3, 1) rfl
theorem dX8_beginObject_71 : decode cX8_beginObject 71 = .ok (.ifCond .eq 16, 3) := dr9 dk9_dX8_beginObject_0_0.2.1 16 (71, .ifCond .eq 16, 3) rfl
theorem dX8_beginObject_87 : decode cX8_beginObject 87 = .ok (.iload 4, 2) := dr9 dk9_dX8_beginObject_0_0.2.1 17 (87, .iload 4, 2) rfl
theorem dX8_beginObject_89 : decode cX8_beginObject 89 = .ok (.ireturn, 1) := dr9 dk9_dX8_beginObject_0_0.2.1 18 (89, .ireturn, 1) rfl
theorem dX8_beginObject_74 : decode cX8_beginObject 74 = .ok (.aload_n 0, 1) := dr9 dk9_dX8_beginObject_0_0.2.1 19 (74, .aload_n 0, 1) rfl
theorem dX8_beginObject_75 : decode cX8_beginObject 75 = .ok (.getfield 25, 3) := dr9 dk9_dX8_beginObject_0_0.2.1 20 (75, .getfield 25, 3) rfl
theorem dX8_beginObject_78 : decode cX8_beginObject 78 = .ok (.iload_n 2, 1) := dr9 dk9_dX8_beginObject_0_0.2.1 21 (78, .iload_n 2, 1) rfl
theorem dX8_beginObject_79 : decode cX8_beginObject 79 = .ok (.bipush 24, 2) := dr9 dk9_dX8_beginObject_0_0.2.1 22 (79, .bipush 24, 2) rfl
theorem dX8_beginObject_81 : decode cX8_beginObject 81 = .ok (.imul, 1) := dr9 dk9_dX8_beginObject_0_0.2.1 23 (81, .imul, 1) rfl
theorem dX8_beginObject_82 : decode cX8_beginObject 82 = .ok (.iload_n 1, 1) := dr9 dk9_dX8_beginObject_0_0.2.2 0 (82, .iload_n 1, 1) rfl
theorem dX8_beginObject_83 : decode cX8_beginObject 83 = .ok (.iadd, 1) := dr9 dk9_dX8_beginObject_0_0.2.2 1 (83, .iadd, 1) rfl
theorem dX8_beginObject_84 : decode cX8_beginObject 84 = .ok (.iload 4, 2) := dr9 dk9_dX8_beginObject_0_0.2.2 2 (84, .iload 4, 2) rfl
theorem dX8_beginObject_86 : decode cX8_beginObject 86 = .ok (.iastore, 1) := dr9 dk9_dX8_beginObject_0_0.2.2 3 (86, .iastore, 1) rfl
theorem dX8_beginObject_10 : decode cX8_beginObject 10 = .ok (.iconst (-1), 1) := dr9 dk9_dX8_beginObject_0_0.2.2 4 (10, .iconst (-1), 1) rfl
theorem dX8_beginObject_11 : decode cX8_beginObject 11 = .ok (.ireturn, 1) := dr9 dk9_dX8_beginObject_0_0.2.2 5 (11, .ireturn, 1) rfl
abbrev r_x_beginObject : Room := { frames := 2, cells := 0, slots := 0, locals := 46 }
abbrev q_x_beginObject (D : va_G) (ks : KS) (ad : Nat → Nat) (kk : Nat → ClassId) (V : Vf) (L : Lf) (Z : XZ) (p0 : Int32) (p1 : Int32) (p2 : Int32) (A : Nat → Prop) : Array Value → State → Outcome → State → Prop := va_Qi (fun (r : Int32) (u : Vf × Lf) => rgd bX u.1 ∧ agr [(3, 13)] [25, 26, 27, 28, 30] V u.1 ∧ u.2 = L ∧ ((-1) ≤ r.toInt ∧ r.toInt ≤ 299) ∧ (SL u.1 Z) ∧ (Imp (0 ≤ r.toInt) (∀ q : Nat, 8 * Int32.toNatClampNeg (V 3 13) ≤ q → q < 8 * Int32.toNatClampNeg (V 3 13) + 8 → (u.1 30 q).toInt = -1)) ∧ (Imp (0 ≤ r.toInt) (∀ q : Nat, ¬ (8 * Int32.toNatClampNeg (V 3 13) ≤ q ∧ q < 8 * Int32.toNatClampNeg (V 3 13) + 8) → u.1 30 q = V 30 q)) ∧ (Imp (0 ≤ r.toInt) (∀ q : Nat, ¬ q = Int32.toNatClampNeg (V 3 13) → u.1 26 q = V 26 q)) ∧ (Imp (0 ≤ r.toInt) (r.toInt = (V 3 13).toInt ∧ (u.1 3 13).toInt = (V 3 13).toInt + 1)) ∧ (Imp (r.toInt = -1) ((u.1 3 13).toInt = (V 3 13).toInt))) (fun u t => gq D A (xw ad kk u.1 u.2 Z) (xty kk Z) t) A
end
section
theorem tg9 {h k s a b c : Nat} (y : h ≤ k + (b - c)) (q : k ≤ s + (a - b)) (h1 : c ≤ b) (h2 : b ≤ a) : h ≤ s + (a - c) := by omega
/-! counts of what was made may be lowered where the heap says so -/
def tot (H : Heap) : Nat := H.foldl (fun n c => n + c.slots.size) 0
section TI
variable {p : Program} {l : Launch} {e : Env} {R : Room} {s : State} {m : MethodId} {args : Array Value} {below : List Frame} {meth : Method} {c : Code} {H : Heap} {locs : List Loc} {cells slots : Nat} {Q : State → Prop}
theorem stand_tots {T : State} (X : Stand p l e R s m args below meth c T locs cells slots) : T.slotsUsed = tot T.heap ∧ s.slotsUsed = tot s.heap := by
  have h1 : T.slotsTrue = true := X.book
  have h2 : s.slotsTrue = true := by
    have h := X.room
    simp only [State.hasRoom, Bool.and_eq_true] at h
    exact h.2
  exact ⟨eq_of_beq h1, eq_of_beq h2⟩
theorem W.know {g : JFrame} (kk : H.size ≤ s.heap.size + cells → tot H ≤ tot s.heap + slots → W p l e R s m args below meth c H locs cells slots Q g) : W p l e R s m args below meth c H locs cells slots Q g := by
  intro T hT X
  have t := stand_tots X
  have u := X.used
  have z := X.heapSize
  rw [t.1, t.2, hT] at u
  rw [hT] at z
  exact kk z u T hT X
theorem W.tight {g : JFrame} {k n : Nat} (h1 : H.size ≤ s.heap.size + k) (h2 : tot H ≤ tot s.heap + n) (kk : W p l e R s m args below meth c H locs k n Q g) : W p l e R s m args below meth c H locs cells slots Q g := by
  intro T hT X
  refine kk T hT { X with same := ?_ }
  have t := stand_tots X
  obtain ⟨a1, a2, a3, a4, a5, a6⟩ := X.same
  refine ⟨a1, a2, ?_, a4, ?_, a6⟩
  · show T.heap.size ≤ s.heap.size + k
    rw [hT]
    exact h1
  · have a4' : T.slotsUsed = s.slotsUsed + _ := a4
    rw [t.1, t.2, hT] at a4'
    omega
end TI
/-! a frame more -/
def frz (V : Vf) (n : Nat) : Vf := fun c k => if (67 ≤ c ∧ c ≤ 85) ∧ k = n then 0 else V c k
def XZ.more (Z : XZ) (q : Nat) : XZ := (fun i => if i = Z.nf then q else Z.fa i, Z.nf + 1, Z.2.2)
theorem frz_lo {V : Vf} {n c : Nat} (h : ¬ (67 ≤ c ∧ c ≤ 85)) : frz V n c = V c := by
  funext k
  unfold frz
  rw [if_neg (fun a => h a.1)]
theorem frz_k {V : Vf} {n c k : Nat} (h : k ≠ n) : frz V n c k = V c k := by
  unfold frz
  rw [if_neg (fun a => h a.2)]
end
section
/-- the signs' bytes -/
def sgb (i : Nat) : Int32 := sg_byt.getD i 0

theorem w806 : Cond.code yJ1_canEncode_9a6ad cJ1_canEncode_9a6ad 1 (some .boolean) ∈ GW := gw_k tk9_3 171 (rfl) rfl
theorem hdS_yJ1_canEncode_9a6ad : yJ1_canEncode_9a6ad.cls ≠ "java/lang/invoke/MethodHandle" ∧ yJ1_canEncode_9a6ad.cls ≠ "java/lang/invoke/VarHandle" ∧ (parseMethodDescriptor yJ1_canEncode_9a6ad.desc).map (fun d => d.parameters.length) = some 1 := by decide +kernel
theorem w804 : Cond.methodLink RJ1 88 yJ1_canEncode_9a6ad ∈ GW := gw_k tk9_3 169 (by decide +kernel) rfl
theorem w805 : Cond.static yJ1_canEncode_9a6ad ∈ GW := gw_k tk9_3 170 (by decide +kernel) rfl
theorem w807 : Cond.methodLink RJ1 92 yJ9_max_7cf53 ∈ GW := gw_k tk9_3 172 (by decide +kernel) rfl
theorem w808 : Cond.static yJ9_max_7cf53 ∈ GW := gw_k tk9_3 173 (by decide +kernel) rfl
theorem w173 : Cond.initialized RJ9 ∈ GW := gw_k tk9_1 18 (by decide +kernel) rfl
theorem w809 : Cond.code yJ9_max_7cf53 cJ9_max_7cf53 2 (some .int) ∈ GW := gw_k tk9_3 174 (rfl) rfl
theorem w810 : Cond.methodLink RJ1 38 yJ9_min_7cf53 ∈ GW := gw_k tk9_3 175 (by decide +kernel) rfl
theorem w811 : Cond.static yJ9_min_7cf53 ∈ GW := gw_k tk9_3 176 (by decide +kernel) rfl
theorem w812 : Cond.code yJ9_min_7cf53 cJ9_min_7cf53 2 (some .int) ∈ GW := gw_k tk9_3 177 (rfl) rfl
theorem w815 : Cond.code yJ1_indexOfChar_4cfef cJ1_indexOfChar_4cfef 6 (some .int) ∈ GW := gw_k tk9_3 180 (rfl) rfl
theorem hdS_yJ1_indexOfChar_4cfef : yJ1_indexOfChar_4cfef.cls ≠ "java/lang/invoke/MethodHandle" ∧ yJ1_indexOfChar_4cfef.cls ≠ "java/lang/invoke/VarHandle" ∧ (parseMethodDescriptor yJ1_indexOfChar_4cfef.desc).map (fun d => d.parameters.length) = some 4 := by decide +kernel
theorem w813 : Cond.methodLink RJ1 95 yJ1_indexOfChar_4cfef ∈ GW := gw_k tk9_3 178 (by decide +kernel) rfl
theorem w814 : Cond.static yJ1_indexOfChar_4cfef ∈ GW := gw_k tk9_3 179 (by decide +kernel) rfl
theorem w800 : Cond.methodLink RJ0 505 yJ0_length_8abf5 ∈ GW := gw_k tk9_3 165 (by decide +kernel) rfl
theorem w803 : Cond.code yJ1_indexOf_4cfef cJ1_indexOf_4cfef 4 (some .int) ∈ GW := gw_k tk9_3 168 (rfl) rfl
theorem hdS_yJ1_indexOf_4cfef : yJ1_indexOf_4cfef.cls ≠ "java/lang/invoke/MethodHandle" ∧ yJ1_indexOf_4cfef.cls ≠ "java/lang/invoke/VarHandle" ∧ (parseMethodDescriptor yJ1_indexOf_4cfef.desc).map (fun d => d.parameters.length) = some 4 := by decide +kernel
theorem w801 : Cond.methodLink RJ0 637 yJ1_indexOf_4cfef ∈ GW := gw_k tk9_3 166 (by decide +kernel) rfl
theorem w802 : Cond.static yJ1_indexOf_4cfef ∈ GW := gw_k tk9_3 167 (by decide +kernel) rfl
theorem w799 : Cond.code yJ0_indexOf_7cf53 cJ0_indexOf_7cf53 3 (some .int) ∈ GW := gw_k tk9_3 164 (rfl) rfl
theorem w796 : Cond.methodLink RJ0 633 yJ0_indexOf_7cf53 ∈ GW := gw_k tk9_3 161 (by decide +kernel) rfl
theorem w797 : Cond.instanceMethod yJ0_indexOf_7cf53 ∈ GW := gw_k tk9_3 162 (by decide +kernel) rfl
theorem w798 : Cond.selects RJ0 yJ0_indexOf_7cf53 yJ0_indexOf_7cf53 ∈ GW := gw_k tk9_3 163 (by decide +kernel) rfl
theorem hdV_yJ0_indexOf_7cf53 : yJ0_indexOf_7cf53.cls = RJ0 ∧ yJ0_indexOf_7cf53.cls ≠ "java/lang/invoke/MethodHandle" ∧ yJ0_indexOf_7cf53.cls ≠ "java/lang/invoke/VarHandle" ∧ (parseMethodDescriptor yJ0_indexOf_7cf53.desc).map (fun d => d.parameters.length) = some 2 := by decide +kernel
theorem dk9_dJ1_canEncode_9a6ad_0_0 : dOk cJ1_canEncode_9a6ad [(0, .iload_n 0, 1), (1, .ifCond .lt 14, 3), (15, .iconst 0, 1), (16, .ireturn, 1), (4, .iload_n 0, 1), (5, .sipush 255, 3), (8, .if_icmp .gt 7, 3), (11, .iconst 1, 1), (12, .goto 4, 3)] = true := by decide +kernel
theorem dJ1_canEncode_9a6ad_0 : decode cJ1_canEncode_9a6ad 0 = .ok (.iload_n 0, 1) := dr9 dk9_dJ1_canEncode_9a6ad_0_0 0 (0, .iload_n 0, 1) rfl
theorem dJ1_canEncode_9a6ad_1 : decode cJ1_canEncode_9a6ad 1 = .ok (.ifCond .lt 14, 3) := dr9 dk9_dJ1_canEncode_9a6ad_0_0 1 (1, .ifCond .lt 14, 3) rfl
theorem dJ1_canEncode_9a6ad_15 : decode cJ1_canEncode_9a6ad 15 = .ok (.iconst 0, 1) := dr9 dk9_dJ1_canEncode_9a6ad_0_0 2 (15, .iconst 0, 1) rfl
theorem dJ1_canEncode_9a6ad_16 : decode cJ1_canEncode_9a6ad 16 = .ok (.ireturn, 1) := dr9 dk9_dJ1_canEncode_9a6ad_0_0 3 (16, .ireturn, 1) rfl
theorem dJ1_canEncode_9a6ad_4 : decode cJ1_canEncode_9a6ad 4 = .ok (.iload_n 0, 1) := dr9 dk9_dJ1_canEncode_9a6ad_0_0 4 (4, .iload_n 0, 1) rfl
theorem dJ1_canEncode_9a6ad_5 : decode cJ1_canEncode_9a6ad 5 = .ok (.sipush 255, 3) := dr9 dk9_dJ1_canEncode_9a6ad_0_0 5 (5, .sipush 255, 3) rfl
theorem dJ1_canEncode_9a6ad_8 : decode cJ1_canEncode_9a6ad 8 = .ok (.if_icmp .gt 7, 3) := dr9 dk9_dJ1_canEncode_9a6ad_0_0 6 (8, .if_icmp .gt 7, 3) rfl
theorem dJ1_canEncode_9a6ad_11 : decode cJ1_canEncode_9a6ad 11 = .ok (.iconst 1, 1) := dr9 dk9_dJ1_canEncode_9a6ad_0_0 7 (11, .iconst 1, 1) rfl
theorem dJ1_canEncode_9a6ad_12 : decode cJ1_canEncode_9a6ad 12 = .ok (.goto 4, 3) := dr9 dk9_dJ1_canEncode_9a6ad_0_0 8 (12, .goto 4, 3) rfl
theorem dk9_dJ1_indexOfChar_4cfef_0_0 : dOk cJ1_indexOfChar_4cfef [(0, .iload_n 1, 1), (1, .i2b, 1), (2, .istore 4, 2), (4, .iload_n 2, 1), (5, .istore 5, 2), (7, .iload 5, 2), (9, .iload_n 3, 1), (10, .if_icmp .ge 21, 3), (31, .iconst (-1), 1), (32, .ireturn, 1), (13, .aload_n 0, 1), (14, .iload 5, 2), (16, .baload, 1), (17, .iload 4, 2), (19, .if_icmp .ne 6, 3), (25, .iinc 5 1, 3), (28, .goto (-21), 3), (22, .iload 5, 2), (24, .ireturn, 1)] = true := by decide +kernel
theorem dJ1_indexOfChar_4cfef_0 : decode cJ1_indexOfChar_4cfef 0 = .ok (.iload_n 1, 1) := dr9 dk9_dJ1_indexOfChar_4cfef_0_0 0 (0, .iload_n 1, 1) rfl
theorem dJ1_indexOfChar_4cfef_1 : decode cJ1_indexOfChar_4cfef 1 = .ok (.i2b, 1) := dr9 dk9_dJ1_indexOfChar_4cfef_0_0 1 (1, .i2b, 1) rfl
theorem dJ1_indexOfChar_4cfef_2 : decode cJ1_indexOfChar_4cfef 2 = .ok (.istore 4, 2) := dr9 dk9_dJ1_indexOfChar_4cfef_0_0 2 (2, .istore 4, 2) rfl
theorem dJ1_indexOfChar_4cfef_4 : decode cJ1_indexOfChar_4cfef 4 = .ok (.iload_n 2, 1) := dr9 dk9_dJ1_indexOfChar_4cfef_0_0 3 (4, .iload_n 2, 1) rfl
theorem dJ1_indexOfChar_4cfef_5 : decode cJ1_indexOfChar_4cfef 5 = .ok (.istore 5, 2) := dr9 dk9_dJ1_indexOfChar_4cfef_0_0 4 (5, .istore 5, 2) rfl
theorem dJ1_indexOfChar_4cfef_7 : decode cJ1_indexOfChar_4cfef 7 = .ok (.iload 5, 2) := dr9 dk9_dJ1_indexOfChar_4cfef_0_0 5 (7, .iload 5, 2) rfl
theorem dJ1_indexOfChar_4cfef_9 : decode cJ1_indexOfChar_4cfef 9 = .ok (.iload_n 3, 1) := dr9 dk9_dJ1_indexOfChar_4cfef_0_0 6 (9, .iload_n 3, 1) rfl
theorem dJ1_indexOfChar_4cfef_10 : decode cJ1_indexOfChar_4cfef 10 = .ok (.if_icmp .ge 21, 3) := dr9 dk9_dJ1_indexOfChar_4cfef_0_0 7 (10, .if_icmp .ge 21, 3) rfl
theorem dJ1_indexOfChar_4cfef_31 : decode cJ1_indexOfChar_4cfef 31 = .ok (.iconst (-1), 1) := dr9 dk9_dJ1_indexOfChar_4cfef_0_0 8 (31, .iconst (-1), 1) rfl
theorem dJ1_indexOfChar_4cfef_32 : decode cJ1_indexOfChar_4cfef 32 = .ok (.ireturn, 1) := dr9 dk9_dJ1_indexOfChar_4cfef_0_0 9 (32, .ireturn, 1) rfl
theorem dJ1_indexOfChar_4cfef_13 : decode cJ1_indexOfChar_4cfef 13 = .ok (.aload_n 0, 1) := dr9 dk9_dJ1_indexOfChar_4cfef_0_0 10 (13, .aload_n 0, 1) rfl
theorem dJ1_indexOfChar_4cfef_14 : decode cJ1_indexOfChar_4cfef 14 = .ok (.iload 5, 2) := dr9 dk9_dJ1_indexOfChar_4cfef_0_0 11 (14, .iload 5, 2) rfl
theorem dJ1_indexOfChar_4cfef_16 : decode cJ1_indexOfChar_4cfef 16 = .ok (.baload, 1) := dr9 dk9_dJ1_indexOfChar_4cfef_0_0 12 (16, .baload, 1) rfl
theorem dJ1_indexOfChar_4cfef_17 : decode cJ1_indexOfChar_4cfef 17 = .ok (.iload 4, 2) := dr9 dk9_dJ1_indexOfChar_4cfef_0_0 13 (17, .iload 4, 2) rfl
theorem dJ1_indexOfChar_4cfef_19 : decode cJ1_indexOfChar_4cfef 19 = .ok (.if_icmp .ne 6, 3) := dr9 dk9_dJ1_indexOfChar_4cfef_0_0 14 (19, .if_icmp .ne 6, 3) rfl
theorem dJ1_indexOfChar_4cfef_25 : decode cJ1_indexOfChar_4cfef 25 = .ok (.iinc 5 1, 3) := dr9 dk9_dJ1_indexOfChar_4cfef_0_0 15 (25, .iinc 5 1, 3) rfl
theorem dJ1_indexOfChar_4cfef_28 : decode cJ1_indexOfChar_4cfef 28 = .ok (.goto (-21), 3) := dr9 dk9_dJ1_indexOfChar_4cfef_0_0 16 (28, .goto (-21), 3) rfl
theorem dJ1_indexOfChar_4cfef_22 : decode cJ1_indexOfChar_4cfef 22 = .ok (.iload 5, 2) := dr9 dk9_dJ1_indexOfChar_4cfef_0_0 17 (22, .iload 5, 2) rfl
theorem dJ1_indexOfChar_4cfef_24 : decode cJ1_indexOfChar_4cfef 24 = .ok (.ireturn, 1) := dr9 dk9_dJ1_indexOfChar_4cfef_0_0 18 (24, .ireturn, 1) rfl
theorem dk9_dJ1_indexOf_4cfef_0_0 : dOk cJ1_indexOf_4cfef [(0, .iload_n 1, 1), (1, .invokestatic 88, 3), (4, .ifCond .ne 5, 3), (9, .iload_n 2, 1), (10, .iconst 0, 1), (11, .invokestatic 92, 3), (14, .istore_n 2, 1), (15, .iload_n 3, 1), (16, .aload_n 0, 1), (17, .arraylength, 1), (18, .invokestatic 38, 3), (21, .istore_n 3, 1), (22, .iload_n 2, 1), (23, .iload_n 3, 1), (24, .if_icmp .lt 5, 3), (29, .aload_n 0, 1), (30, .iload_n 1, 1), (31, .iload_n 2, 1), (32, .iload_n 3, 1), (33, .invokestatic 95, 3), (36, .ireturn, 1), (7, .iconst (-1), 1), (8, .ireturn, 1)] = true := by decide +kernel
theorem dJ1_indexOf_4cfef_0 : decode cJ1_indexOf_4cfef 0 = .ok (.iload_n 1, 1) := dr9 dk9_dJ1_indexOf_4cfef_0_0 0 (0, .iload_n 1, 1) rfl
theorem dJ1_indexOf_4cfef_1 : decode cJ1_indexOf_4cfef 1 = .ok (.invokestatic 88, 3) := dr9 dk9_dJ1_indexOf_4cfef_0_0 1 (1, .invokestatic 88, 3) rfl
theorem dJ1_indexOf_4cfef_4 : decode cJ1_indexOf_4cfef 4 = .ok (.ifCond .ne 5, 3) := dr9 dk9_dJ1_indexOf_4cfef_0_0 2 (4, .ifCond .ne 5, 3) rfl
theorem dJ1_indexOf_4cfef_9 : decode cJ1_indexOf_4cfef 9 = .ok (.iload_n 2, 1) := dr9 dk9_dJ1_indexOf_4cfef_0_0 3 (9, .iload_n 2, 1) rfl
theorem dJ1_indexOf_4cfef_10 : decode cJ1_indexOf_4cfef 10 = .ok (.iconst 0, 1) := dr9 dk9_dJ1_indexOf_4cfef_0_0 4 (10, .iconst 0, 1) rfl
theorem dJ1_indexOf_4cfef_11 : decode cJ1_indexOf_4cfef 11 = .ok (.invokestatic 92, 3) := dr9 dk9_dJ1_indexOf_4cfef_0_0 5 (11, .invokestatic 92, 3) rfl
theorem dJ1_indexOf_4cfef_14 : decode cJ1_indexOf_4cfef 14 = .ok (.istore_n 2, 1) := dr9 dk9_dJ1_indexOf_4cfef_0_0 6 (14, .istore_n 2, 1) rfl
theorem dJ1_indexOf_4cfef_15 : decode cJ1_indexOf_4cfef 15 = .ok (.iload_n 3, 1) := dr9 dk9_dJ1_indexOf_4cfef_0_0 7 (15, .iload_n 3, 1) rfl
theorem dJ1_indexOf_4cfef_16 : decode cJ1_indexOf_4cfef 16 = .ok (.aload_n 0, 1) := dr9 dk9_dJ1_indexOf_4cfef_0_0 8 (16, .aload_n 0, 1) rfl
theorem dJ1_indexOf_4cfef_17 : decode cJ1_indexOf_4cfef 17 = .ok (.arraylength, 1) := dr9 dk9_dJ1_indexOf_4cfef_0_0 9 (17, .arraylength, 1) rfl
theorem dJ1_indexOf_4cfef_18 : decode cJ1_indexOf_4cfef 18 = .ok (.invokestatic 38, 3) := dr9 dk9_dJ1_indexOf_4cfef_0_0 10 (18, .invokestatic 38, 3) rfl
theorem dJ1_indexOf_4cfef_21 : decode cJ1_indexOf_4cfef 21 = .ok (.istore_n 3, 1) := dr9 dk9_dJ1_indexOf_4cfef_0_0 11 (21, .istore_n 3, 1) rfl
theorem dJ1_indexOf_4cfef_22 : decode cJ1_indexOf_4cfef 22 = .ok (.iload_n 2, 1) := dr9 dk9_dJ1_indexOf_4cfef_0_0 12 (22, .iload_n 2, 1) rfl
theorem dJ1_indexOf_4cfef_23 : decode cJ1_indexOf_4cfef 23 = .ok (.iload_n 3, 1) := dr9 dk9_dJ1_indexOf_4cfef_0_0 13 (23, .iload_n 3, 1) rfl
theorem dJ1_indexOf_4cfef_24 : decode cJ1_indexOf_4cfef 24 = .ok (.if_icmp .lt 5, 3) := dr9 dk9_dJ1_indexOf_4cfef_0_0 14 (24, .if_icmp .lt 5, 3) rfl
theorem dJ1_indexOf_4cfef_29 : decode cJ1_indexOf_4cfef 29 = .ok (.aload_n 0, 1) := dr9 dk9_dJ1_indexOf_4cfef_0_0 15 (29, .aload_n 0, 1) rfl
theorem dJ1_indexOf_4cfef_30 : decode cJ1_indexOf_4cfef 30 = .ok (.iload_n 1, 1) := dr9 dk9_dJ1_indexOf_4cfef_0_0 16 (30, .iload_n 1, 1) rfl
theorem dJ1_indexOf_4cfef_31 : decode cJ1_indexOf_4cfef 31 = .ok (.iload_n 2, 1) := dr9 dk9_dJ1_indexOf_4cfef_0_0 17 (31, .iload_n 2, 1) rfl
theorem dJ1_indexOf_4cfef_32 : decode cJ1_indexOf_4cfef 32 = .ok (.iload_n 3, 1) := dr9 dk9_dJ1_indexOf_4cfef_0_0 18 (32, .iload_n 3, 1) rfl
theorem dJ1_indexOf_4cfef_33 : decode cJ1_indexOf_4cfef 33 = .ok (.invokestatic 95, 3) := dr9 dk9_dJ1_indexOf_4cfef_0_0 19 (33, .invokestatic 95, 3) rfl
theorem dJ1_indexOf_4cfef_36 : decode cJ1_indexOf_4cfef 36 = .ok (.ireturn, 1) := dr9 dk9_dJ1_indexOf_4cfef_0_0 20 (36, .ireturn, 1) rfl
theorem dJ1_indexOf_4cfef_7 : decode cJ1_indexOf_4cfef 7 = .ok (.iconst (-1), 1) := dr9 dk9_dJ1_indexOf_4cfef_0_0 21 (7, .iconst (-1), 1) rfl
theorem dJ1_indexOf_4cfef_8 : decode cJ1_indexOf_4cfef 8 = .ok (.ireturn, 1) := dr9 dk9_dJ1_indexOf_4cfef_0_0 22 (8, .ireturn, 1) rfl
theorem dk9_dJ0_indexOf_7cf53_0_0 : dOk cJ0_indexOf_7cf53 [(0, .aload_n 0, 1), (1, .invokevirtual 492, 3), (4, .ifCond .eq 19, 3), (7, .aload_n 0, 1), (8, .getfield 9, 3), (11, .iload_n 1, 1), (12, .iload_n 2, 1), (13, .aload_n 0, 1), (14, .invokevirtual 505, 3), (17, .invokestatic 637, 3), (20, .goto 16, 3), (36, .ireturn, 1)] = true := by decide +kernel
theorem dJ0_indexOf_7cf53_0 : decode cJ0_indexOf_7cf53 0 = .ok (.aload_n 0, 1) := dr9 dk9_dJ0_indexOf_7cf53_0_0 0 (0, .aload_n 0, 1) rfl
theorem dJ0_indexOf_7cf53_1 : decode cJ0_indexOf_7cf53 1 = .ok (.invokevirtual 492, 3) := dr9 dk9_dJ0_indexOf_7cf53_0_0 1 (1, .invokevirtual 492, 3) rfl
theorem dJ0_indexOf_7cf53_4 : decode cJ0_indexOf_7cf53 4 = .ok (.ifCond .eq 19, 3) := dr9 dk9_dJ0_indexOf_7cf53_0_0 2 (4, .ifCond .eq 19, 3) rfl
theorem dJ0_indexOf_7cf53_7 : decode cJ0_indexOf_7cf53 7 = .ok (.aload_n 0, 1) := dr9 dk9_dJ0_indexOf_7cf53_0_0 3 (7, .aload_n 0, 1) rfl
theorem dJ0_indexOf_7cf53_8 : decode cJ0_indexOf_7cf53 8 = .ok (.getfield 9, 3) := dr9 dk9_dJ0_indexOf_7cf53_0_0 4 (8, .getfield 9, 3) rfl
theorem dJ0_indexOf_7cf53_11 : decode cJ0_indexOf_7cf53 11 = .ok (.iload_n 1, 1) := dr9 dk9_dJ0_indexOf_7cf53_0_0 5 (11, .iload_n 1, 1) rfl
theorem dJ0_indexOf_7cf53_12 : decode cJ0_indexOf_7cf53 12 = .ok (.iload_n 2, 1) := dr9 dk9_dJ0_indexOf_7cf53_0_0 6 (12, .iload_n 2, 1) rfl
theorem dJ0_indexOf_7cf53_13 : decode cJ0_indexOf_7cf53 13 = .ok (.aload_n 0, 1) := dr9 dk9_dJ0_indexOf_7cf53_0_0 7 (13, .aload_n 0, 1) rfl
theorem dJ0_indexOf_7cf53_14 : decode cJ0_indexOf_7cf53 14 = .ok (.invokevirtual 505, 3) := dr9 dk9_dJ0_indexOf_7cf53_0_0 8 (14, .invokevirtual 505, 3) rfl
theorem dJ0_indexOf_7cf53_17 : decode cJ0_indexOf_7cf53 17 = .ok (.invokestatic 637, 3) := dr9 dk9_dJ0_indexOf_7cf53_0_0 9 (17, .invokestatic 637, 3) rfl
theorem dJ0_indexOf_7cf53_20 : decode cJ0_indexOf_7cf53 20 = .ok (.goto 16, 3) := dr9 dk9_dJ0_indexOf_7cf53_0_0 10 (20, .goto 16, 3) rfl
theorem dJ0_indexOf_7cf53_36 : decode cJ0_indexOf_7cf53 36 = .ok (.ireturn, 1) := dr9 dk9_dJ0_indexOf_7cf53_0_0 11 (36, .ireturn, 1) rfl
theorem dk9_dJ0_indexOf_0f7a4_0_0 : dOk cJ0_indexOf_0f7a4 [(0, .aload_n 0, 1), (1, .iload_n 1, 1), (2, .iconst 0, 1), (3, .invokevirtual 633, 3), (6, .ireturn, 1)] = true := by decide +kernel
theorem dJ0_indexOf_0f7a4_0 : decode cJ0_indexOf_0f7a4 0 = .ok (.aload_n 0, 1) := dr9 dk9_dJ0_indexOf_0f7a4_0_0 0 (0, .aload_n 0, 1) rfl
theorem dJ0_indexOf_0f7a4_1 : decode cJ0_indexOf_0f7a4 1 = .ok (.iload_n 1, 1) := dr9 dk9_dJ0_indexOf_0f7a4_0_0 1 (1, .iload_n 1, 1) rfl
theorem dJ0_indexOf_0f7a4_2 : decode cJ0_indexOf_0f7a4 2 = .ok (.iconst 0, 1) := dr9 dk9_dJ0_indexOf_0f7a4_0_0 2 (2, .iconst 0, 1) rfl
theorem dJ0_indexOf_0f7a4_3 : decode cJ0_indexOf_0f7a4 3 = .ok (.invokevirtual 633, 3) := dr9 dk9_dJ0_indexOf_0f7a4_0_0 3 (3, .invokevirtual 633, 3) rfl
theorem dJ0_indexOf_0f7a4_6 : decode cJ0_indexOf_0f7a4 6 = .ok (.ireturn, 1) := dr9 dk9_dJ0_indexOf_0f7a4_0_0 4 (6, .ireturn, 1) rfl
abbrev r_c_sg_isLatin1 : Room := { frames := 0, cells := 0, slots := 0, locals := 0 }
abbrev q_c_sg_isLatin1 (D : va_G) (A : Nat → Prop) : Array Value → State → Outcome → State → Prop := va_Qi (fun (r : Int32) (_ : Unit) => r = 1) (fun u t => gq D A ((fun (_ : Unit) => []) u) ((fun (_ : Unit) => ([] : List (ClassId × FieldType))) u) t) A
set_option maxHeartbeats 4000000 in
set_option maxRecDepth 100000 in
theorem c_sg_isLatin1 (l : Launch) (D : va_G) (ks : KS) (sz : Nat) : Met l yJ0_isLatin1_aae02 (Cond.code yJ0_isLatin1_aae02 cJ0_isLatin1_aae02 1 (some .boolean) :: GW) r_c_sg_isLatin1 (va_Pc [.ref ks.2.2.2.1] (gp D ks [] [] sz)) (q_c_sg_isLatin1 D (va_A [] sz)) 0 0 (va_A [] sz) := by
  refine g_met (q_c_sg_isLatin1 D) (by decide) (Nat.le_of_ble_eq_true rfl) ?_
  intro p e s m below meth c A ls H locs hx hb hr hml hown hg hlocks hin hnw hgk hP hK hD hS hA hl
  have hown : s.vm.findClass RJ0 = some m.cls := hown
  have hl : lv_has ls 1 [(0, .ref ks.2.2.2.1)] := hl
  refine va_gets (v := .int 1) hx hb hgk.2.1.1 hS hown (hg _ w205) (fun _ h9 => h9) dJ0_isLatin1_aae02_0 ?_
  refine lv_if_eq (tgt := 17) hx hb dJ0_isLatin1_aae02_3 (by decide) (fun q => absurd q (by decide)) (fun _ => ?_)
  refine lv_aload_n hx hb dJ0_isLatin1_aae02_6 rfl (lv_at hl 0 rfl) ?_
  refine vk_getf (v := .int 0) hx hb (hgk.2.2.2.2.2.1.1 0 (by decide)).2.1 hS hown (hg _ w2399) (fun _ h9 => h9) dJ0_isLatin1_aae02_7 ?_
  refine lv_if_ne (tgt := 17) hx hb dJ0_isLatin1_aae02_10 (by decide) (fun q => absurd rfl q) (fun _ => ?_)
  refine lv_iconst (v := 1) hx hb dJ0_isLatin1_aae02_13 (by decide) ?_
  refine lv_goto (tgt := 18) hx hb dJ0_isLatin1_aae02_14 (by decide) ?_
  refine W.widen (k := 0) (n := 0) (Nat.le_of_ble_eq_true rfl) (Nat.le_of_ble_eq_true rfl) ?_
  have hP9 := hP.sub (ws' := []) [] rfl
  have hD9 := hD.sub (ws' := []) [] (by decide) rfl
  have hK9 := hK.sub (tys' := []) [] rfl
  exact W.zret (v := 1) hx hb hr rfl (fun t ht hW => ⟨⟨1, (), rfl, (by first | rfl | trivial | assumption | decide), by rw [ht]; exact hP9, va_K.moved hW.alike hK9, hD9⟩, hS.F ht⟩) hS.2.2 dJ0_isLatin1_aae02_18
abbrev r_c_sg_coder : Room := { frames := 0, cells := 0, slots := 0, locals := 0 }
abbrev q_c_sg_coder (D : va_G) (A : Nat → Prop) : Array Value → State → Outcome → State → Prop := va_Qi (fun (r : Int32) (_ : Unit) => r = 0) (fun u t => gq D A ((fun (_ : Unit) => []) u) ((fun (_ : Unit) => ([] : List (ClassId × FieldType))) u) t) A
set_option maxHeartbeats 4000000 in
set_option maxRecDepth 100000 in
theorem c_sg_coder (l : Launch) (D : va_G) (ks : KS) (sz : Nat) : Met l yJ0_coder_7d493 (Cond.code yJ0_coder_7d493 cJ0_coder_7d493 1 (some .byte) :: GW) r_c_sg_coder (va_Pc [.ref ks.2.2.2.1] (gp D ks [] [] sz)) (q_c_sg_coder D (va_A [] sz)) 0 0 (va_A [] sz) := by
  refine g_met (q_c_sg_coder D) (by decide) (Nat.le_of_ble_eq_true rfl) ?_
  intro p e s m below meth c A ls H locs hx hb hr hml hown hg hlocks hin hnw hgk hP hK hD hS hA hl
  have hown : s.vm.findClass RJ0 = some m.cls := hown
  have hl : lv_has ls 1 [(0, .ref ks.2.2.2.1)] := hl
  refine va_gets (v := .int 1) hx hb hgk.2.1.1 hS hown (hg _ w205) (fun _ h9 => h9) dJ0_coder_7d493_0 ?_
  refine lv_if_eq (tgt := 13) hx hb dJ0_coder_7d493_3 (by decide) (fun q => absurd q (by decide)) (fun _ => ?_)
  refine lv_aload_n hx hb dJ0_coder_7d493_6 rfl (lv_at hl 0 rfl) ?_
  refine vk_getf (v := .int 0) hx hb (hgk.2.2.2.2.2.1.1 0 (by decide)).2.1 hS hown (hg _ w2399) (fun _ h9 => h9) dJ0_coder_7d493_7 ?_
  refine lv_goto (tgt := 14) hx hb dJ0_coder_7d493_10 (by decide) ?_
  refine W.widen (k := 0) (n := 0) (Nat.le_of_ble_eq_true rfl) (Nat.le_of_ble_eq_true rfl) ?_
  have hP9 := hP.sub (ws' := []) [] rfl
  have hD9 := hD.sub (ws' := []) [] (by decide) rfl
  have hK9 := hK.sub (tys' := []) [] rfl
  exact W.zret (v := 0) hx hb hr rfl (fun t ht hW => ⟨⟨0, (), rfl, (by first | rfl | trivial | assumption | decide), by rw [ht]; exact hP9, va_K.moved hW.alike hK9, hD9⟩, hS.F ht⟩) hS.2.2 dJ0_coder_7d493_14
abbrev r_c_sg_length : Room := { frames := 1, cells := 0, slots := 0, locals := 20 }
abbrev q_c_sg_length (D : va_G) (A : Nat → Prop) : Array Value → State → Outcome → State → Prop := va_Qi (fun (r : Int32) (_ : Unit) => r = 12) (fun u t => gq D A ((fun (_ : Unit) => []) u) ((fun (_ : Unit) => ([] : List (ClassId × FieldType))) u) t) A
set_option maxHeartbeats 4000000 in
set_option maxRecDepth 100000 in
theorem c_sg_length (l : Launch) (D : va_G) (ks : KS) (sz : Nat) : Met l yJ0_length_8abf5 (Cond.code yJ0_length_8abf5 cJ0_length_8abf5 1 (some .int) :: GW) r_c_sg_length (va_Pc [.ref ks.2.2.2.1] (gp D ks [] [] sz)) (q_c_sg_length D (va_A [] sz)) 0 0 (va_A [] sz) := by
  refine g_met (q_c_sg_length D) (by decide) (Nat.le_of_ble_eq_true rfl) ?_
  intro p e s m below meth c A ls H locs hx hb hr hml hown hg hlocks hin hnw hgk hP hK hD hS hA hl
  have hown : s.vm.findClass RJ0 = some m.cls := hown
  have hl : lv_has ls 1 [(0, .ref ks.2.2.2.1)] := hl
  refine lv_aload_n hx hb dJ0_length_8abf5_0 rfl (lv_at hl 0 rfl) ?_
  refine vk_getf (v := .ref ks.2.2.2.2) hx hb (hgk.2.2.2.2.2.1.1 0 (by decide)).2.2.1 hS hown (hg _ w2398) (fun _ h9 => h9) dJ0_length_8abf5_1 ?_
  refine va_tlen (v := 12) hx hb (hgk.2.2.2.2.2.1.1 0 (by decide)).2.2.2 hS rfl dJ0_length_8abf5_4 ?_
  refine lv_aload_n hx hb dJ0_length_8abf5_5 rfl (lv_at hl 0 rfl) ?_
  refine g_int (wr := []) (tr := []) (g_runW (As := []) (rest := [.int 12]) (wc := []) (tc := []) (C := RJ0) hx hb hml hown hg gw_self hP hD hK hS hA hnw hgk [] [] (by decide) rfl rfl (c_sg_coder l D ks H.size) w201 w202 w203 w158 w204 (vk_recv (i := 0) hgk.2.2.2.2.2.1 (by decide) hS) hdV_yJ0_coder_7d493 ⟨Nat.le_of_ble_eq_true rfl, Nat.le_of_ble_eq_true rfl⟩ rfl hl.1 rfl (Nat.le_of_ble_eq_true rfl) dJ0_length_8abf5_6 ⟨Nat.le_of_ble_eq_true rfl, Nat.le_of_ble_eq_true rfl⟩) hP hD hK hS hA [] [] [] rfl rfl (by decide) (by decide) rfl (fun r3 u2 H locs hw1 hP hD hK hS => ?_)
  have hw1 : r3 = 0 := hw1
  subst hw1
  have hP : va_P D vwCl [] H := hP
  have hD : va_D A [] := hD
  have hK : va_K D vwCl [] s := hK
  refine lv_ishr hx hb dJ0_length_8abf5_9 ?_
  refine g_top (v := 12) (by decide) ?_
  refine W.widen (k := 0) (n := 0) (Nat.le_of_ble_eq_true rfl) (Nat.le_of_ble_eq_true rfl) ?_
  have hP9 := hP.sub (ws' := []) [] rfl
  have hD9 := hD.sub (ws' := []) [] (by decide) rfl
  have hK9 := hK.sub (tys' := []) [] rfl
  exact W.iret (v := 12) hx hb hr (fun t ht hW => ⟨⟨12, (), rfl, (by first | rfl | trivial | assumption | decide), by rw [ht]; exact hP9, va_K.moved hW.alike hK9, hD9⟩, hS.F ht⟩) hS.2.2 dJ0_length_8abf5_10
abbrev r_c_canEncode : Room := { frames := 0, cells := 0, slots := 0, locals := 0 }
abbrev q_c_canEncode (D : va_G) (x0 : Int32) (A : Nat → Prop) : Array Value → State → Outcome → State → Prop := va_Qi (fun (r : Int32) (_ : Unit) => True) (fun u t => gq D A ((fun (_ : Unit) => []) u) ((fun (_ : Unit) => ([] : List (ClassId × FieldType))) u) t) A
set_option maxHeartbeats 4000000 in
set_option maxRecDepth 100000 in
theorem c_canEncode (l : Launch) (D : va_G) (ks : KS) (sz : Nat) (x0 : Int32) : Met l yJ1_canEncode_9a6ad (Cond.code yJ1_canEncode_9a6ad cJ1_canEncode_9a6ad 1 (some .boolean) :: GW) r_c_canEncode (va_Pc [.int x0] (gp D ks [] [] sz)) (q_c_canEncode D x0 (va_A [] sz)) 0 0 (va_A [] sz) := by
  refine g_met (q_c_canEncode D x0) (by decide) (Nat.le_of_ble_eq_true rfl) ?_
  intro p e s m below meth c A ls H locs hx hb hr hml hown hg hlocks hin hnw hgk hP hK hD hS hA hl
  have hown : s.vm.findClass RJ1 = some m.cls := hown
  have hl : lv_has ls 1 [(0, .int x0)] := hl
  refine lv_iload_n hx hb dJ1_canEncode_9a6ad_0 rfl (lv_at hl 0 rfl) ?_
  refine lv_if_lt (tgt := 15) hx hb dJ1_canEncode_9a6ad_1 (by decide) (fun c1 => ?_) (fun c1 => ?_)
  · skip
    refine lv_iconst (v := 0) hx hb dJ1_canEncode_9a6ad_15 (by decide) ?_
    refine W.widen (k := 0) (n := 0) (Nat.le_of_ble_eq_true rfl) (Nat.le_of_ble_eq_true rfl) ?_
    have hP9 := hP.sub (ws' := []) [] rfl
    have hD9 := hD.sub (ws' := []) [] (by decide) rfl
    have hK9 := hK.sub (tys' := []) [] rfl
    exact W.zret (v := 0) hx hb hr rfl (fun t ht hW => ⟨⟨0, (), rfl, (by first | rfl | trivial | assumption | decide), by rw [ht]; exact hP9, va_K.moved hW.alike hK9, hD9⟩, hS.F ht⟩) hS.2.2 dJ1_canEncode_9a6ad_16
  · skip
    refine lv_iload_n hx hb dJ1_canEncode_9a6ad_4 rfl (lv_at hl 0 rfl) ?_
    refine lv_sipush (v := 255) hx hb dJ1_canEncode_9a6ad_5 (by decide) ?_
    refine lv_icmp_gt (tgt := 15) hx hb dJ1_canEncode_9a6ad_8 (by decide) (fun c2 => ?_) (fun c2 => ?_)
    · skip
      refine lv_iconst (v := 0) hx hb dJ1_canEncode_9a6ad_15 (by decide) ?_
      refine W.widen (k := 0) (n := 0) (Nat.le_of_ble_eq_true rfl) (Nat.le_of_ble_eq_true rfl) ?_
      have hP9 := hP.sub (ws' := []) [] rfl
      have hD9 := hD.sub (ws' := []) [] (by decide) rfl
      have hK9 := hK.sub (tys' := []) [] rfl
      exact W.zret (v := 0) hx hb hr rfl (fun t ht hW => ⟨⟨0, (), rfl, (by first | rfl | trivial | assumption | decide), by rw [ht]; exact hP9, va_K.moved hW.alike hK9, hD9⟩, hS.F ht⟩) hS.2.2 dJ1_canEncode_9a6ad_16
    · skip
      refine lv_iconst (v := 1) hx hb dJ1_canEncode_9a6ad_11 (by decide) ?_
      refine lv_goto (tgt := 16) hx hb dJ1_canEncode_9a6ad_12 (by decide) ?_
      refine W.widen (k := 0) (n := 0) (Nat.le_of_ble_eq_true rfl) (Nat.le_of_ble_eq_true rfl) ?_
      have hP9 := hP.sub (ws' := []) [] rfl
      have hD9 := hD.sub (ws' := []) [] (by decide) rfl
      have hK9 := hK.sub (tys' := []) [] rfl
      exact W.zret (v := 1) hx hb hr rfl (fun t ht hW => ⟨⟨1, (), rfl, (by first | rfl | trivial | assumption | decide), by rw [ht]; exact hP9, va_K.moved hW.alike hK9, hD9⟩, hS.F ht⟩) hS.2.2 dJ1_canEncode_9a6ad_16
abbrev r_c_sg_char : Room := { frames := 0, cells := 0, slots := 0, locals := 0 }
abbrev q_c_sg_char (D : va_G) (x0 : Int32) (A : Nat → Prop) : Array Value → State → Outcome → State → Prop := va_Qi (fun (r : Int32) (_ : Unit) => True) (fun u t => gq D A ((fun (_ : Unit) => []) u) ((fun (_ : Unit) => ([] : List (ClassId × FieldType))) u) t) A
set_option maxHeartbeats 4000000 in
set_option maxRecDepth 100000 in
theorem c_sg_char (l : Launch) (D : va_G) (ks : KS) (sz : Nat) (x0 : Int32) : Met l yJ1_indexOfChar_4cfef (Cond.code yJ1_indexOfChar_4cfef cJ1_indexOfChar_4cfef 6 (some .int) :: GW) r_c_sg_char (va_Pc [.ref ks.2.2.2.2, .int x0, .int 0, .int 12] (gp D ks [] [] sz)) (q_c_sg_char D x0 (va_A [] sz)) 0 0 (va_A [] sz) := by
  refine g_met (q_c_sg_char D x0) (by decide) (Nat.le_of_ble_eq_true rfl) ?_
  intro p e s m below meth c A ls H locs hx hb hr hml hown hg hlocks hin hnw hgk hP hK hD hS hA hl
  have hown : s.vm.findClass RJ1 = some m.cls := hown
  have hl : lv_has ls 6 [(0, .ref ks.2.2.2.2), (1, .int x0), (2, .int 0), (3, .int 12)] := hl
  refine lv_iload_n hx hb dJ1_indexOfChar_4cfef_0 rfl (lv_at hl 1 rfl) ?_
  refine lv_i2b hx hb dJ1_indexOfChar_4cfef_1 rfl ?_
  refine lv_istore (lv' := [(4, .int (x0).toInt8.toInt32), (0, .ref ks.2.2.2.2), (1, .int x0), (2, .int 0), (3, .int 12)]) hx hb dJ1_indexOfChar_4cfef_2 hl (by decide) rfl (fun ls hl => ?_)
  refine lv_iload_n hx hb dJ1_indexOfChar_4cfef_4 rfl (lv_at hl 3 rfl) ?_
  refine lv_istore (lv' := [(5, .int 0), (4, .int (x0).toInt8.toInt32), (0, .ref ks.2.2.2.2), (1, .int x0), (2, .int 0), (3, .int 12)]) hx hb dJ1_indexOfChar_4cfef_5 hl (by decide) rfl (fun ls hl => ?_)
  refine W.widen (k := 0) (n := 0) (Nat.le_of_ble_eq_true rfl) (Nat.le_of_ble_eq_true rfl) ?_
  have lp1 : ∀ (n : Nat) (i : Nat) (H : Heap) (locs : List Loc) (ls : Array Slot), i ≤ 12 → 12 < i + n → va_P D vwCl [] H → va_D A [] → va_S A s.heap H locs → lv_has ls 6 [(5, .int (nI i)), (4, .int (x0).toInt8.toInt32), (0, .ref ks.2.2.2.2), (1, .int x0), (2, .int 0), (3, .int 12)] → W p l e r_c_sg_char s m ([.ref ks.2.2.2.2, .int x0, .int 0, .int 12] : List Value).toArray below meth c H locs (0) (0) (MQ below (q_c_sg_char D x0 A) ([.ref ks.2.2.2.2, .int x0, .int 0, .int 12] : List Value).toArray s 0 0 A) (F0 m 7 ls []) := by
    intro n
    induction n with
    | zero =>
      intro i H locs ls hi hn hP hD hS hl
      exact absurd hn (by omega)
    | succ n ih =>
      intro i H locs ls hi hn hP hD hS hl
      refine lv_iload hx hb dJ1_indexOfChar_4cfef_7 (lv_at hl 0 rfl) ?_
      refine lv_iload_n hx hb dJ1_indexOfChar_4cfef_9 rfl (lv_at hl 5 rfl) ?_
      refine lv_icmp_ge (tgt := 31) hx hb dJ1_indexOfChar_4cfef_10 (by decide) (fun c2 => ?_) (fun c2 => ?_)
      · skip
        have gc2 : 12 ≤ i := g_ge_ge (L := 12) (by omega) (by omega) c2
        refine lv_iconst (v := (-1)) hx hb dJ1_indexOfChar_4cfef_31 (by decide) ?_
        refine W.widen (k := 0) (n := 0) (Nat.le_of_ble_eq_true rfl) (Nat.le_of_ble_eq_true rfl) ?_
        have hP9 := hP.sub (ws' := []) [] rfl
        have hD9 := hD.sub (ws' := []) [] (by decide) rfl
        have hK9 := hK.sub (tys' := []) [] rfl
        exact W.iret (v := (-1)) hx hb hr (fun t ht hW => ⟨⟨(-1), (), rfl, (by first | rfl | trivial | assumption | decide), by rw [ht]; exact hP9, va_K.moved hW.alike hK9, hD9⟩, hS.F ht⟩) hS.2.2 dJ1_indexOfChar_4cfef_32
      · skip
        have gc2 : i < 12 := g_lt_ge (L := 12) (by omega) (by omega) c2
        refine lv_aload_n hx hb dJ1_indexOfChar_4cfef_13 rfl (lv_at hl 2 rfl) ?_
        refine lv_iload hx hb dJ1_indexOfChar_4cfef_14 (lv_at hl 0 rfl) ?_
        refine va_tb (v := .int (sgb i)) hx hb (hgk.2.2.2.2.2.1.1 0 (by decide)).2.2.2 hS (show vp_in (nI i) 12 from vp_in_nI (by omega) (by omega)) (by rw [nI_clamp (by omega)]; rfl) dJ1_indexOfChar_4cfef_16 ?_
        refine lv_iload hx hb dJ1_indexOfChar_4cfef_17 (lv_at hl 1 rfl) ?_
        refine lv_icmp_ne (tgt := 25) hx hb dJ1_indexOfChar_4cfef_19 (by decide) (fun c3 => ?_) (fun c3 => ?_)
        · skip
          refine lv_iinc (v := (nI (i + 1))) (lv' := [(5, .int (nI (i + 1))), (4, .int (x0).toInt8.toInt32), (0, .ref ks.2.2.2.2), (1, .int x0), (2, .int 0), (3, .int 12)]) hx hb dJ1_indexOfChar_4cfef_25 hl (k := 0) rfl (nI_1 _) (by decide) rfl (fun ls hl => ?_)
          refine lv_goto (tgt := 7) hx hb dJ1_indexOfChar_4cfef_28 (by decide) ?_
          exact ih (i + 1) H locs ls (by omega) (by omega) (hP.sub [] rfl) (hD.sub [] (by decide) rfl) hS (lv_sub hl [0, 1, 2, 3, 4, 5] rfl)
        · skip
          refine lv_iload hx hb dJ1_indexOfChar_4cfef_22 (lv_at hl 0 rfl) ?_
          refine W.widen (k := 0) (n := 0) (Nat.le_of_ble_eq_true rfl) (Nat.le_of_ble_eq_true rfl) ?_
          have hP9 := hP.sub (ws' := []) [] rfl
          have hD9 := hD.sub (ws' := []) [] (by decide) rfl
          have hK9 := hK.sub (tys' := []) [] rfl
          exact W.iret (v := (nI i)) hx hb hr (fun t ht hW => ⟨⟨(nI i), (), rfl, (by first | rfl | trivial | assumption | decide), by rw [ht]; exact hP9, va_K.moved hW.alike hK9, hD9⟩, hS.F ht⟩) hS.2.2 dJ1_indexOfChar_4cfef_24
  exact lp1 13 0 H locs ls (by omega) (by omega) hP hD hS hl
abbrev r_c_sg_index4 : Room := { frames := 1, cells := 0, slots := 0, locals := 25 }
abbrev q_c_sg_index4 (D : va_G) (x0 : Int32) (A : Nat → Prop) : Array Value → State → Outcome → State → Prop := va_Qi (fun (r : Int32) (_ : Unit) => True) (fun u t => gq D A ((fun (_ : Unit) => []) u) ((fun (_ : Unit) => ([] : List (ClassId × FieldType))) u) t) A
set_option maxHeartbeats 4000000 in
set_option maxRecDepth 100000 in
theorem c_sg_index4 (l : Launch) (D : va_G) (ks : KS) (sz : Nat) (x0 : Int32) : Met l yJ1_indexOf_4cfef (Cond.code yJ1_indexOf_4cfef cJ1_indexOf_4cfef 4 (some .int) :: GW) r_c_sg_index4 (va_Pc [.ref ks.2.2.2.2, .int x0, .int 0, .int 12] (gp D ks [] [] sz)) (q_c_sg_index4 D x0 (va_A [] sz)) 0 0 (va_A [] sz) := by
  refine g_met (q_c_sg_index4 D x0) (by decide) (Nat.le_of_ble_eq_true rfl) ?_
  intro p e s m below meth c A ls H locs hx hb hr hml hown hg hlocks hin hnw hgk hP hK hD hS hA hl
  have hown : s.vm.findClass RJ1 = some m.cls := hown
  have hl : lv_has ls 4 [(0, .ref ks.2.2.2.2), (1, .int x0), (2, .int 0), (3, .int 12)] := hl
  refine lv_iload_n hx hb dJ1_indexOf_4cfef_0 rfl (lv_at hl 1 rfl) ?_
  refine g_int (wr := []) (tr := []) (g_runS (As := [.int x0]) (rest := []) (wc := []) (tc := []) hx hb hml hown hg gw_self hP hD hK hS hA hnw hgk [] [] (by decide) rfl rfl (c_canEncode l D ks H.size x0) w804 w805 w159 w806 hdS_yJ1_canEncode_9a6ad ⟨Nat.le_of_ble_eq_true rfl, Nat.le_of_ble_eq_true rfl⟩ rfl hl.1 rfl (Nat.le_of_ble_eq_true rfl) dJ1_indexOf_4cfef_1 ⟨Nat.le_of_ble_eq_true rfl, Nat.le_of_ble_eq_true rfl⟩) hP hD hK hS hA [] [] [] rfl rfl (by decide) (by decide) rfl (fun r3 u2 H locs hw1 hP hD hK hS => ?_)
  have hw1 : True := hw1
  have hP : va_P D vwCl [] H := hP
  have hD : va_D A [] := hD
  have hK : va_K D vwCl [] s := hK
  refine lv_if_ne (tgt := 9) hx hb dJ1_indexOf_4cfef_4 (by decide) (fun c4 => ?_) (fun c4 => ?_)
  · skip
    refine lv_iload_n hx hb dJ1_indexOf_4cfef_9 rfl (lv_at hl 2 rfl) ?_
    refine lv_iconst (v := 0) hx hb dJ1_indexOf_4cfef_10 (by decide) ?_
    refine va_mmax (x := 0) (y := 0) hx hb (hml.trans hl.1.symm) hown (hg _ w807) (hg _ w808) (hg _ w173) (hg _ w809) (Nat.le_of_ble_eq_true rfl) (Nat.le_of_ble_eq_true rfl) (Nat.le_of_ble_eq_true rfl) (Nat.le_of_ble_eq_true rfl) dJ1_indexOf_4cfef_11 ?_
    refine g_top (v := 0) (by decide) ?_
    refine lv_istore_n (lv' := [(2, .int 0), (0, .ref ks.2.2.2.2), (1, .int x0), (3, .int 12)]) hx hb dJ1_indexOf_4cfef_14 rfl hl (by decide) rfl (fun ls hl => ?_)
    refine lv_iload_n hx hb dJ1_indexOf_4cfef_15 rfl (lv_at hl 3 rfl) ?_
    refine lv_aload_n hx hb dJ1_indexOf_4cfef_16 rfl (lv_at hl 1 rfl) ?_
    refine va_tlen (v := 12) hx hb (hgk.2.2.2.2.2.1.1 0 (by decide)).2.2.2 hS rfl dJ1_indexOf_4cfef_17 ?_
    refine va_mmin (x := 12) (y := 12) hx hb (hml.trans hl.1.symm) hown (hg _ w810) (hg _ w811) (hg _ w173) (hg _ w812) (Nat.le_of_ble_eq_true rfl) (Nat.le_of_ble_eq_true rfl) (Nat.le_of_ble_eq_true rfl) (Nat.le_of_ble_eq_true rfl) dJ1_indexOf_4cfef_18 ?_
    refine g_top (v := 12) (by decide) ?_
    refine lv_istore_n (lv' := [(3, .int 12), (2, .int 0), (0, .ref ks.2.2.2.2), (1, .int x0)]) hx hb dJ1_indexOf_4cfef_21 rfl hl (by decide) rfl (fun ls hl => ?_)
    refine lv_iload_n hx hb dJ1_indexOf_4cfef_22 rfl (lv_at hl 1 rfl) ?_
    refine lv_iload_n hx hb dJ1_indexOf_4cfef_23 rfl (lv_at hl 0 rfl) ?_
    refine lv_icmp_lt (tgt := 29) hx hb dJ1_indexOf_4cfef_24 (by decide) (fun _ => ?_) (fun q => absurd (by decide) q)
    refine lv_aload_n hx hb dJ1_indexOf_4cfef_29 rfl (lv_at hl 2 rfl) ?_
    refine lv_iload_n hx hb dJ1_indexOf_4cfef_30 rfl (lv_at hl 3 rfl) ?_
    refine lv_iload_n hx hb dJ1_indexOf_4cfef_31 rfl (lv_at hl 1 rfl) ?_
    refine lv_iload_n hx hb dJ1_indexOf_4cfef_32 rfl (lv_at hl 0 rfl) ?_
    refine g_int (wr := []) (tr := []) (g_runS (As := [.ref ks.2.2.2.2, .int x0, .int 0, .int 12]) (rest := []) (wc := []) (tc := []) hx hb hml hown hg gw_self hP hD hK hS hA hnw hgk [] [] (by decide) rfl rfl (c_sg_char l D ks H.size x0) w813 w814 w159 w815 hdS_yJ1_indexOfChar_4cfef ⟨Nat.le_of_ble_eq_true rfl, Nat.le_of_ble_eq_true rfl⟩ rfl hl.1 rfl (Nat.le_of_ble_eq_true rfl) dJ1_indexOf_4cfef_33 ⟨Nat.le_of_ble_eq_true rfl, Nat.le_of_ble_eq_true rfl⟩) hP hD hK hS hA [] [] [] rfl rfl (by decide) (by decide) rfl (fun r7 u6 H locs hw5 hP hD hK hS => ?_)
    have hw5 : True := hw5
    have hP : va_P D vwCl [] H := hP
    have hD : va_D A [] := hD
    have hK : va_K D vwCl [] s := hK
    refine W.widen (k := 0) (n := 0) (Nat.le_of_ble_eq_true rfl) (Nat.le_of_ble_eq_true rfl) ?_
    have hP9 := hP.sub (ws' := []) [] rfl
    have hD9 := hD.sub (ws' := []) [] (by decide) rfl
    have hK9 := hK.sub (tys' := []) [] rfl
    exact W.iret (v := r7) hx hb hr (fun t ht hW => ⟨⟨r7, (), rfl, (by first | rfl | trivial | assumption | decide), by rw [ht]; exact hP9, va_K.moved hW.alike hK9, hD9⟩, hS.F ht⟩) hS.2.2 dJ1_indexOf_4cfef_36
  · skip
    refine lv_iconst (v := (-1)) hx hb dJ1_indexOf_4cfef_7 (by decide) ?_
    refine W.widen (k := 0) (n := 0) (Nat.le_of_ble_eq_true rfl) (Nat.le_of_ble_eq_true rfl) ?_
    have hP9 := hP.sub (ws' := []) [] rfl
    have hD9 := hD.sub (ws' := []) [] (by decide) rfl
    have hK9 := hK.sub (tys' := []) [] rfl
    exact W.iret (v := (-1)) hx hb hr (fun t ht hW => ⟨⟨(-1), (), rfl, (by first | rfl | trivial | assumption | decide), by rw [ht]; exact hP9, va_K.moved hW.alike hK9, hD9⟩, hS.F ht⟩) hS.2.2 dJ1_indexOf_4cfef_8
abbrev r_c_sg_index3 : Room := { frames := 2, cells := 0, slots := 0, locals := 48 }
abbrev q_c_sg_index3 (D : va_G) (x0 : Int32) (A : Nat → Prop) : Array Value → State → Outcome → State → Prop := va_Qi (fun (r : Int32) (_ : Unit) => True) (fun u t => gq D A ((fun (_ : Unit) => []) u) ((fun (_ : Unit) => ([] : List (ClassId × FieldType))) u) t) A
set_option maxHeartbeats 4000000 in
set_option maxRecDepth 100000 in
theorem c_sg_index3 (l : Launch) (D : va_G) (ks : KS) (sz : Nat) (x0 : Int32) : Met l yJ0_indexOf_7cf53 (Cond.code yJ0_indexOf_7cf53 cJ0_indexOf_7cf53 3 (some .int) :: GW) r_c_sg_index3 (va_Pc [.ref ks.2.2.2.1, .int x0, .int 0] (gp D ks [] [] sz)) (q_c_sg_index3 D x0 (va_A [] sz)) 0 0 (va_A [] sz) := by
  refine g_met (q_c_sg_index3 D x0) (by decide) (Nat.le_of_ble_eq_true rfl) ?_
  intro p e s m below meth c A ls H locs hx hb hr hml hown hg hlocks hin hnw hgk hP hK hD hS hA hl
  have hown : s.vm.findClass RJ0 = some m.cls := hown
  have hl : lv_has ls 3 [(0, .ref ks.2.2.2.1), (1, .int x0), (2, .int 0)] := hl
  refine lv_aload_n hx hb dJ0_indexOf_7cf53_0 rfl (lv_at hl 0 rfl) ?_
  refine g_int (wr := []) (tr := []) (g_runW (As := []) (rest := []) (wc := []) (tc := []) (C := RJ0) hx hb hml hown hg gw_self hP hD hK hS hA hnw hgk [] [] (by decide) rfl rfl (c_sg_isLatin1 l D ks H.size) w211 w212 w213 w158 w214 (vk_recv (i := 0) hgk.2.2.2.2.2.1 (by decide) hS) hdV_yJ0_isLatin1_aae02 ⟨Nat.le_of_ble_eq_true rfl, Nat.le_of_ble_eq_true rfl⟩ rfl hl.1 rfl (Nat.le_of_ble_eq_true rfl) dJ0_indexOf_7cf53_1 ⟨Nat.le_of_ble_eq_true rfl, Nat.le_of_ble_eq_true rfl⟩) hP hD hK hS hA [] [] [] rfl rfl (by decide) (by decide) rfl (fun r3 u2 H locs hw1 hP hD hK hS => ?_)
  have hw1 : r3 = 1 := hw1
  subst hw1
  have hP : va_P D vwCl [] H := hP
  have hD : va_D A [] := hD
  have hK : va_K D vwCl [] s := hK
  refine lv_if_eq (tgt := 23) hx hb dJ0_indexOf_7cf53_4 (by decide) (fun q => absurd q (by decide)) (fun _ => ?_)
  refine lv_aload_n hx hb dJ0_indexOf_7cf53_7 rfl (lv_at hl 0 rfl) ?_
  refine vk_getf (v := .ref ks.2.2.2.2) hx hb (hgk.2.2.2.2.2.1.1 0 (by decide)).2.2.1 hS hown (hg _ w2398) (fun _ h9 => h9) dJ0_indexOf_7cf53_8 ?_
  refine lv_iload_n hx hb dJ0_indexOf_7cf53_11 rfl (lv_at hl 1 rfl) ?_
  refine lv_iload_n hx hb dJ0_indexOf_7cf53_12 rfl (lv_at hl 2 rfl) ?_
  refine lv_aload_n hx hb dJ0_indexOf_7cf53_13 rfl (lv_at hl 0 rfl) ?_
  refine g_int (wr := []) (tr := []) (g_runW (As := []) (rest := [.int 0, .int x0, .ref ks.2.2.2.2]) (wc := []) (tc := []) (C := RJ0) hx hb hml hown hg gw_self hP hD hK hS hA hnw hgk [] [] (by decide) rfl rfl (c_sg_length l D ks H.size) w800 w198 w199 w158 w200 (vk_recv (i := 0) hgk.2.2.2.2.2.1 (by decide) hS) hdV_yJ0_length_8abf5 ⟨Nat.le_of_ble_eq_true rfl, Nat.le_of_ble_eq_true rfl⟩ rfl hl.1 rfl (Nat.le_of_ble_eq_true rfl) dJ0_indexOf_7cf53_14 ⟨Nat.le_of_ble_eq_true rfl, Nat.le_of_ble_eq_true rfl⟩) hP hD hK hS hA [] [] [] rfl rfl (by decide) (by decide) rfl (fun r6 u5 H locs hw4 hP hD hK hS => ?_)
  have hw4 : r6 = 12 := hw4
  subst hw4
  have hP : va_P D vwCl [] H := hP
  have hD : va_D A [] := hD
  have hK : va_K D vwCl [] s := hK
  refine g_int (wr := []) (tr := []) (g_runS (As := [.ref ks.2.2.2.2, .int x0, .int 0, .int 12]) (rest := []) (wc := []) (tc := []) hx hb hml hown hg gw_self hP hD hK hS hA hnw hgk [] [] (by decide) rfl rfl (c_sg_index4 l D ks H.size x0) w801 w802 w159 w803 hdS_yJ1_indexOf_4cfef ⟨Nat.le_of_ble_eq_true rfl, Nat.le_of_ble_eq_true rfl⟩ rfl hl.1 rfl (Nat.le_of_ble_eq_true rfl) dJ0_indexOf_7cf53_17 ⟨Nat.le_of_ble_eq_true rfl, Nat.le_of_ble_eq_true rfl⟩) hP hD hK hS hA [] [] [] rfl rfl (by decide) (by decide) rfl (fun r9 u8 H locs hw7 hP hD hK hS => ?_)
  have hw7 : True := hw7
  have hP : va_P D vwCl [] H := hP
  have hD : va_D A [] := hD
  have hK : va_K D vwCl [] s := hK
  refine lv_goto (tgt := 36) hx hb dJ0_indexOf_7cf53_20 (by decide) ?_
  refine W.widen (k := 0) (n := 0) (Nat.le_of_ble_eq_true rfl) (Nat.le_of_ble_eq_true rfl) ?_
  have hP9 := hP.sub (ws' := []) [] rfl
  have hD9 := hD.sub (ws' := []) [] (by decide) rfl
  have hK9 := hK.sub (tys' := []) [] rfl
  exact W.iret (v := r9) hx hb hr (fun t ht hW => ⟨⟨r9, (), rfl, (by first | rfl | trivial | assumption | decide), by rw [ht]; exact hP9, va_K.moved hW.alike hK9, hD9⟩, hS.F ht⟩) hS.2.2 dJ0_indexOf_7cf53_36
abbrev r_c_sg_index : Room := { frames := 3, cells := 0, slots := 0, locals := 70 }
abbrev q_c_sg_index (D : va_G) (x0 : Int32) (A : Nat → Prop) : Array Value → State → Outcome → State → Prop := va_Qi (fun (r : Int32) (_ : Unit) => True) (fun u t => gq D A ((fun (_ : Unit) => []) u) ((fun (_ : Unit) => ([] : List (ClassId × FieldType))) u) t) A
set_option maxHeartbeats 4000000 in
set_option maxRecDepth 100000 in
theorem c_sg_index (l : Launch) (D : va_G) (ks : KS) (sz : Nat) (x0 : Int32) : Met l yJ0_indexOf_0f7a4 (Cond.code yJ0_indexOf_0f7a4 cJ0_indexOf_0f7a4 2 (some .int) :: GW) r_c_sg_index (va_Pc [.ref ks.2.2.2.1, .int x0] (gp D ks [] [] sz)) (q_c_sg_index D x0 (va_A [] sz)) 0 0 (va_A [] sz) := by
  refine g_met (q_c_sg_index D x0) (by decide) (Nat.le_of_ble_eq_true rfl) ?_
  intro p e s m below meth c A ls H locs hx hb hr hml hown hg hlocks hin hnw hgk hP hK hD hS hA hl
  have hown : s.vm.findClass RJ0 = some m.cls := hown
  have hl : lv_has ls 2 [(0, .ref ks.2.2.2.1), (1, .int x0)] := hl
  refine lv_aload_n hx hb dJ0_indexOf_0f7a4_0 rfl (lv_at hl 0 rfl) ?_
  refine lv_iload_n hx hb dJ0_indexOf_0f7a4_1 rfl (lv_at hl 1 rfl) ?_
  refine lv_iconst (v := 0) hx hb dJ0_indexOf_0f7a4_2 (by decide) ?_
  refine g_int (wr := []) (tr := []) (g_runW (As := [.int x0, .int 0]) (rest := []) (wc := []) (tc := []) (C := RJ0) hx hb hml hown hg gw_self hP hD hK hS hA hnw hgk [] [] (by decide) rfl rfl (c_sg_index3 l D ks H.size x0) w796 w797 w798 w158 w799 (vk_recv (i := 0) hgk.2.2.2.2.2.1 (by decide) hS) hdV_yJ0_indexOf_7cf53 ⟨Nat.le_of_ble_eq_true rfl, Nat.le_of_ble_eq_true rfl⟩ rfl hl.1 rfl (Nat.le_of_ble_eq_true rfl) dJ0_indexOf_0f7a4_3 ⟨Nat.le_of_ble_eq_true rfl, Nat.le_of_ble_eq_true rfl⟩) hP hD hK hS hA [] [] [] rfl rfl (by decide) (by decide) rfl (fun r3 u2 H locs hw1 hP hD hK hS => ?_)
  have hw1 : True := hw1
  have hP : va_P D vwCl [] H := hP
  have hD : va_D A [] := hD
  have hK : va_K D vwCl [] s := hK
  refine W.widen (k := 0) (n := 0) (Nat.le_of_ble_eq_true rfl) (Nat.le_of_ble_eq_true rfl) ?_
  have hP9 := hP.sub (ws' := []) [] rfl
  have hD9 := hD.sub (ws' := []) [] (by decide) rfl
  have hK9 := hK.sub (tys' := []) [] rfl
  exact W.iret (v := r3) hx hb hr (fun t ht hW => ⟨⟨r3, (), rfl, (by first | rfl | trivial | assumption | decide), by rw [ht]; exact hP9, va_K.moved hW.alike hK9, hD9⟩, hS.F ht⟩) hS.2.2 dJ0_indexOf_0f7a4_6
end
section
theorem w790 : Cond.code yX9_kindOf cX9_kindOf 4 (some .int) ∈ GW := gw_k tk9_3 155 (rfl) rfl
theorem w787 : Cond.methodLink RX9 97 yX9_kindOf ∈ GW := gw_k tk9_3 152 (by decide +kernel) rfl
theorem w789 : Cond.instanceMethod yX9_kindOf ∈ GW := gw_k tk9_3 154 (by decide +kernel) rfl
theorem w3 : Cond.selects RX9 yX9_kindOf yX9_kindOf ∈ GW := gw_mem 3 (by decide +kernel) rfl
theorem hdV_yX9_kindOf : yX9_kindOf.cls = RX9 ∧ yX9_kindOf.cls ≠ "java/lang/invoke/MethodHandle" ∧ yX9_kindOf.cls ≠ "java/lang/invoke/VarHandle" ∧ (parseMethodDescriptor yX9_kindOf.desc).map (fun d => d.parameters.length) = some 1 := by decide +kernel
theorem w782 : Cond.code yX9_isLetter cX9_isLetter 1 (some .boolean) ∈ GW := gw_k tk9_3 147 (rfl) rfl
theorem w780 : Cond.methodLink RX9 82 yX9_isLetter ∈ GW := gw_k tk9_3 145 (by decide +kernel) rfl
theorem w781 : Cond.static yX9_isLetter ∈ GW := gw_k tk9_3 146 (by decide +kernel) rfl
theorem hdS_yX9_isLetter : yX9_isLetter.cls ≠ "java/lang/invoke/MethodHandle" ∧ yX9_isLetter.cls ≠ "java/lang/invoke/VarHandle" ∧ (parseMethodDescriptor yX9_isLetter.desc).map (fun d => d.parameters.length) = some 1 := by decide +kernel
theorem w245 : Cond.constantLong RX9 41 37 ∈ GW := gw_k tk9_1 90 (by decide +kernel) rfl
theorem w248 : Cond.code yX9_codeOf cX9_codeOf 1 (some .int) ∈ GW := gw_k tk9_1 93 (rfl) rfl
theorem w246 : Cond.methodLink RX9 43 yX9_codeOf ∈ GW := gw_k tk9_1 91 (by decide +kernel) rfl
theorem w247 : Cond.static yX9_codeOf ∈ GW := gw_k tk9_1 92 (by decide +kernel) rfl
theorem hdS_yX9_codeOf : yX9_codeOf.cls ≠ "java/lang/invoke/MethodHandle" ∧ yX9_codeOf.cls ≠ "java/lang/invoke/VarHandle" ∧ (parseMethodDescriptor yX9_codeOf.desc).map (fun d => d.parameters.length) = some 1 := by decide +kernel
theorem w795 : Cond.code yJ0_indexOf_0f7a4 cJ0_indexOf_0f7a4 2 (some .int) ∈ GW := gw_k tk9_3 160 (rfl) rfl
theorem w792 : Cond.methodLink RX9 90 yJ0_indexOf_0f7a4 ∈ GW := gw_k tk9_3 157 (by decide +kernel) rfl
theorem w793 : Cond.instanceMethod yJ0_indexOf_0f7a4 ∈ GW := gw_k tk9_3 158 (by decide +kernel) rfl
theorem w794 : Cond.selects RJ0 yJ0_indexOf_0f7a4 yJ0_indexOf_0f7a4 ∈ GW := gw_k tk9_3 159 (by decide +kernel) rfl
theorem hdV_yJ0_indexOf_0f7a4 : yJ0_indexOf_0f7a4.cls = RJ0 ∧ yJ0_indexOf_0f7a4.cls ≠ "java/lang/invoke/MethodHandle" ∧ yJ0_indexOf_0f7a4.cls ≠ "java/lang/invoke/VarHandle" ∧ (parseMethodDescriptor yJ0_indexOf_0f7a4.desc).map (fun d => d.parameters.length) = some 1 := by decide +kernel
theorem w786 : Cond.code yX9_cutWord cX9_cutWord 4 none ∈ GW := gw_k tk9_3 151 (rfl) rfl
theorem w783 : Cond.methodLink RX9 85 yX9_cutWord ∈ GW := gw_k tk9_3 148 (by decide +kernel) rfl
theorem w785 : Cond.instanceMethod yX9_cutWord ∈ GW := gw_k tk9_3 150 (by decide +kernel) rfl
theorem w2 : Cond.selects RX9 yX9_cutWord yX9_cutWord ∈ GW := gw_mem 2 (by decide +kernel) rfl
theorem hdV_yX9_cutWord : yX9_cutWord.cls = RX9 ∧ yX9_cutWord.cls ≠ "java/lang/invoke/MethodHandle" ∧ yX9_cutWord.cls ≠ "java/lang/invoke/VarHandle" ∧ (parseMethodDescriptor yX9_cutWord.desc).map (fun d => d.parameters.length) = some 0 := by decide +kernel
theorem w777 : Cond.code yX9_cutNumber cX9_cutNumber 4 none ∈ GW := gw_k tk9_3 142 (rfl) rfl
theorem w774 : Cond.methodLink RX9 79 yX9_cutNumber ∈ GW := gw_k tk9_3 139 (by decide +kernel) rfl
theorem w776 : Cond.instanceMethod yX9_cutNumber ∈ GW := gw_k tk9_3 141 (by decide +kernel) rfl
theorem w1 : Cond.selects RX9 yX9_cutNumber yX9_cutNumber ∈ GW := gw_mem 1 (by decide +kernel) rfl
theorem hdV_yX9_cutNumber : yX9_cutNumber.cls = RX9 ∧ yX9_cutNumber.cls ≠ "java/lang/invoke/MethodHandle" ∧ yX9_cutNumber.cls ≠ "java/lang/invoke/VarHandle" ∧ (parseMethodDescriptor yX9_cutNumber.desc).map (fun d => d.parameters.length) = some 0 := by decide +kernel
theorem w851 : Cond.methodLink RX9 62 yX9_next ∈ GW := gw_k tk9_3 216 (by decide +kernel) rfl
theorem w773 : Cond.code yX9_cut cX9_cut 2 none ∈ GW := gw_k tk9_3 138 (rfl) rfl
theorem w770 : Cond.methodLink RX9 56 yX9_cut ∈ GW := gw_k tk9_3 135 (by decide +kernel) rfl
theorem w772 : Cond.instanceMethod yX9_cut ∈ GW := gw_k tk9_3 137 (by decide +kernel) rfl
theorem w0 : Cond.selects RX9 yX9_cut yX9_cut ∈ GW := gw_mem 0 (by decide +kernel) rfl
theorem hdV_yX9_cut : yX9_cut.cls = RX9 ∧ yX9_cut.cls ≠ "java/lang/invoke/MethodHandle" ∧ yX9_cut.cls ≠ "java/lang/invoke/VarHandle" ∧ (parseMethodDescriptor yX9_cut.desc).map (fun d => d.parameters.length) = some 0 := by decide +kernel
theorem dk9_dX9_cutWord_0_0 : dOk cX9_cutWord [(0, .iconst 0, 1), (1, .istore_n 1, 1), (2, .lconst 0, 1), (3, .lstore_n 2, 1), (4, .aload_n 0, 1), (5, .getfield 50, 3), (8, .aload_n 0, 1), (9, .getfield 47, 3), (12, .if_icmp .ge 79, 3), (91, .aload_n 0, 1), (92, .getfield 19, 3), (95, .aload_n 0, 1), (96, .getfield 53, 3), (99, .iload_n 1, 1), (100, .bipush 12, 2), (102, .if_icmp .le 7, 3), (109, .aload_n 0, 1), (110, .lload_n 2, 1), (111, .invokevirtual 97, 3), (114, .iastore, 1), (115, .aload_n 0, 1), (116, .getfield 26, 3), (119, .aload_n 0, 1), (120, .getfield 53, 3)] = true ∧ dOk cX9_cutWord [(123, .lload_n 2, 1), (124, .lastore, 1), (125, .return_, 1), (105, .iconst 1, 1), (106, .goto 8, 3), (15, .aload_n 0, 1), (16, .getfield 9, 3), (19, .aload_n 0, 1), (20, .getfield 50, 3), (23, .baload, 1), (24, .invokestatic 82, 3), (27, .ifCond .ne 18, 3), (45, .iload_n 1, 1), (46, .bipush 12, 2), (48, .if_icmp .ge 25, 3), (73, .lconst 0, 1), (74, .lstore_n 2, 1), (75, .iinc 1 1, 3), (78, .aload_n 0, 1), (79, .dup, 1), (80, .getfield 50, 3), (83, .iconst 1, 1), (84, .iadd, 1), (85, .putfield 50, 3)] = true ∧ dOk cX9_cutWord [(88, .goto (-84), 3), (51, .lload_n 2, 1), (52, .ldc2_w 41, 3), (55, .lmul, 1), (56, .aload_n 0, 1), (57, .getfield 9, 3), (60, .aload_n 0, 1), (61, .getfield 50, 3), (64, .baload, 1), (65, .invokestatic 43, 3), (68, .i2l, 1), (69, .ladd, 1), (70, .goto 4, 3), (30, .aload_n 0, 1), (31, .getfield 9, 3), (34, .aload_n 0, 1), (35, .getfield 50, 3), (38, .baload, 1), (39, .invokestatic 75, 3), (42, .ifCond .eq 49, 3)] = true := by decide +kernel
theorem dX9_cutWord_0 : decode cX9_cutWord 0 = .ok (.iconst 0, 1) := dr9 dk9_dX9_cutWord_0_0.1 0 (0, .iconst 0, 1) rfl
theorem dX9_cutWord_1 : decode cX9_cutWord 1 = .ok (.istore_n 1, 1) := dr9 dk9_dX9_cutWord_0_0.1 1 (1, .istore_n 1, 1) rfl
theorem dX9_cutWord_2 : decode cX9_cutWord 2 = .ok (.lconst 0, 1) := dr9 dk9_dX9_cutWord_0_0.1 2 (2, .lconst 0, 1) rfl
theorem dX9_cutWord_3 : decode cX9_cutWord 3 = .ok (.lstore_n 2, 1) := dr9 dk9_dX9_cutWord_0_0.1 3 (3, .lstore_n 2, 1) rfl
theorem dX9_cutWord_4 : decode cX9_cutWord 4 = .ok (.aload_n 0, 1) := dr9 dk9_dX9_cutWord_0_0.1 4 (4, .aload_n 0, 1) rfl
theorem dX9_cutWord_5 : decode cX9_cutWord 5 = .ok (.getfield 50, 3) := dr9 dk9_dX9_cutWord_0_0.1 5 (5, .getfield 50, 3) rfl
theorem dX9_cutWord_8 : decode cX9_cutWord 8 = .ok (.aload_n 0, 1) := dr9 dk9_dX9_cutWord_0_0.1 6 (8, .aload_n 0, 1) rfl
theorem dX9_cutWord_9 : decode cX9_cutWord 9 = .ok (.getfield 47, 3) := dr9 dk9_dX9_cutWord_0_0.1 7 (9, .getfield 47, 3) rfl
theorem dX9_cutWord_12 : decode cX9_cutWord 12 = .ok (.if_icmp .ge 79, 3) := dr9 dk9_dX9_cutWord_0_0.1 8 (12, .if_icmp .ge 79, 3) rfl
theorem dX9_cutWord_91 : decode cX9_cutWord 91 = .ok (.aload_n 0, 1) := dr9 dk9_dX9_cutWord_0_0.1 9 (91, .aload_n 0, 1) rfl
theorem dX9_cutWord_92 : decode cX9_cutWord 92 = .ok (.getfield 19, 3) := dr9 dk9_dX9_cutWord_0_0.1 10 (92, .getfield 19, 3) rfl
theorem dX9_cutWord_95 : decode cX9_cutWord 95 = .ok (.aload_n 0, 1) := dr9 dk9_dX9_cutWord_0_0.1 11 (95, .aload_n 0, 1) rfl
theorem dX9_cutWord_96 : decode cX9_cutWord 96 = .ok (.getfield 53, 3) := dr9 dk9_dX9_cutWord_0_0.1 12 (96, .getfield 53, 3) rfl
theorem dX9_cutWord_99 : decode cX9_cutWord 99 = .ok (.iload_n 1, 1) := dr9 dk9_dX9_cutWord_0_0.1 13 (99, .iload_n 1, 1) rfl
theorem dX9_cutWord_100 : decode cX9_cutWord 100 = .ok (.bipush 12, 2) := dr9 dk9_dX9_cutWord_0_0.1 14 (100, .bipush 12, 2) rfl
theorem dX9_cutWord_102 : decode cX9_cutWord 102 = .ok (.if_icmp .le 7, 3) := dr9 dk9_dX9_cutWord_0_0.1 15 (102, .if_icmp .le 7, 3) rfl
theorem dX9_cutWord_109 : decode cX9_cutWord 109 = .ok (.aload_n 0, 1) := dr9 dk9_dX9_cutWord_0_0.1 16 (109, .aload_n 0, 1) rfl
theorem dX9_cutWord_110 : decode cX9_cutWord 110 = .ok (.lload_n 2, 1) := dr9 dk9_dX9_cutWord_0_0.1 17 (110, .lload_n 2, 1) rfl
theorem dX9_cutWord_111 : decode cX9_cutWord 111 = .ok (.invokevirtual 97, 3) := dr9 dk9_dX9_cutWord_0_0.1 18 (111, .invokevirtual 97, 3) rfl
theorem dX9_cutWord_114 : decode cX9_cutWord 114 = .ok (.iastore, 1) := dr9 dk9_dX9_cutWord_0_0.1 19 (114, .iastore, 1) rfl
theorem dX9_cutWord_115 : decode cX9_cutWord 115 = .ok (.aload_n 0, 1) := dr9 dk9_dX9_cutWord_0_0.1 20 (115, .aload_n 0, 1) rfl
theorem dX9_cutWord_116 : decode cX9_cutWord 116 = .ok (.getfield 26, 3) := dr9 dk9_dX9_cutWord_0_0.1 21 (116, .getfield 26, 3) rfl
theorem dX9_cutWord_119 : decode cX9_cutWord 119 = .ok (.aload_n 0, 1) := dr9 dk9_dX9_cutWord_0_0.1 22 (119, .aload_n 0, 1) rfl
theorem dX9_cutWord_120 : decode cX9_cutWord 120 = .ok (.getfield 53, 3) := dr9 dk9_dX9_cutWord_0_0.1 23 (120, .getfield 53, 3) rfl
theorem dX9_cutWord_123 : decode cX9_cutWord 123 = .ok (.lload_n 2, 1) := dr9 dk9_dX9_cutWord_0_0.2.1 0 (123, .lload_n 2, 1) rfl
theorem dX9_cutWord_124 : decode cX9_cutWord 124 = .ok (.lastore, 1) := dr9 dk9_dX9_cutWord_0_0.2.1 1 (124, .lastore, 1) rfl
theorem dX9_cutWord_125 : decode cX9_cutWord 125 = .ok (.return_, 1) := dr9 dk9_dX9_cutWord_0_0.2.1 2 (125, .return_, 1) rfl
theorem dX9_cutWord_105 : decode cX9_cutWord 105 = .ok (.iconst 1, 1) := dr9 dk9_dX9_cutWord_0_0.2.1 3 (105, .iconst 1, 1) rfl
theorem dX9_cutWord_106 : decode cX9_cutWord 106 = .ok (.goto 8, 3) := dr9 dk9_dX9_cutWord_0_0.2.1 4 (106, .goto 8, 3) rfl
theorem dX9_cutWord_15 : decode cX9_cutWord 15 = .ok (.aload_n 0, 1) := dr9 dk9_dX9_cutWord_0_0.2.1 5 (15, .aload_n 0, 1) rfl
theorem dX9_cutWord_16 : decode cX9_cutWord 16 = .ok (.getfield 9, 3) := dr9 dk9_dX9_cutWord_0_0.2.1 6 (16, .getfield 9, 3) rfl
theorem dX9_cutWord_19 : decode cX9_cutWord 19 = .ok (.aload_n 0, 1) := dr9 dk9_dX9_cutWord_0_0.2.1 7 (19, .aload_n 0, 1) rfl
theorem dX9_cutWord_20 : decode cX9_cutWord 20 = .ok (.getfield 50, 3) := dr9 dk9_dX9_cutWord_0_0.2.1 8 (20, .getfield 50, 3) rfl
theorem dX9_cutWord_23 : decode cX9_cutWord 23 = .ok (.baload, 1) := dr9 dk9_dX9_cutWord_0_0.2.1 9 (23, .baload, 1) rfl
theorem dX9_cutWord_24 : decode cX9_cutWord 24 = .ok (.invokestatic 82, 3) := dr9 dk9_dX9_cutWord_0_0.2.1 10 (24, .invokestatic 82, 3) rfl
theorem dX9_cutWord_27 : decode cX9_cutWord 27 = .ok (.ifCond .ne 18, 3) := dr9 dk9_dX9_cutWord_0_0.2.1 11 (27, .ifCond .ne 18, 3) rfl
theorem dX9_cutWord_45 : decode cX9_cutWord 45 = .ok (.iload_n 1, 1) := dr9 dk9_dX9_cutWord_0_0.2.1 12 (45, .iload_n 1, 1) rfl
theorem dX9_cutWord_46 : decode cX9_cutWord 46 = .ok (.bipush 12, 2) := dr9 dk9_dX9_cutWord_0_0.2.1 13 (46, .bipush 12, 2) rfl
theorem dX9_cutWord_48 : decode cX9_cutWord 48 = .ok (.if_icmp .ge 25, 3) := dr9 dk9_dX9_cutWord_0_0.2.1 14 (48, .if_icmp .ge 25, 3) rfl
theorem dX9_cutWord_73 : decode cX9_cutWord 73 = .ok (.lconst 0, 1) := dr9 dk9_dX9_cutWord_0_0.2.1 15 (73, .lconst 0, 1) rfl
theorem dX9_cutWord_74 : decode cX9_cutWord 74 = .ok (.lstore_n 2, 1) := dr9 dk9_dX9_cutWord_0_0.2.1 16 (74, .lstore_n 2, 1) rfl
theorem dX9_cutWord_75 : decode cX9_cutWord 75 = .ok (.iinc 1 1, 3) := dr9 dk9_dX9_cutWord_0_0.2.1 17 (75, .iinc 1 1, 3) rfl
theorem dX9_cutWord_78 : decode cX9_cutWord 78 = .ok (.aload_n 0, 1) := dr9 dk9_dX9_cutWord_0_0.2.1 18 (78, .aload_n 0, 1) rfl
theorem dX9_cutWord_79 : decode cX9_cutWord 79 = .ok (.dup, 1) := dr9 dk9_dX9_cutWord_0_0.2.1 19 (79, .dup, 1) rfl
theorem dX9_cutWord_80 : decode cX9_cutWord 80 = .ok (.getfield 50, 3) := dr9 dk9_dX9_cutWord_0_0.2.1 20 (80, .getfield 50, 3) rfl
theorem dX9_cutWord_83 : decode cX9_cutWord 83 = .ok (.iconst 1, 1) := dr9 dk9_dX9_cutWord_0_0.2.1 21 (83, .iconst 1, 1) rfl
theorem dX9_cutWord_84 : decode cX9_cutWord 84 = .ok (.iadd, 1) := dr9 dk9_dX9_cutWord_0_0.2.1 22 (84, .iadd, 1) rfl
theorem dX9_cutWord_85 : decode cX9_cutWord 85 = .ok (.putfield 50, 3) := dr9 dk9_dX9_cutWord_0_0.2.1 23 (85, .putfield 50, 3) rfl
theorem dX9_cutWord_88 : decode cX9_cutWord 88 = .ok (.goto (-84), 3) := dr9 dk9_dX9_cutWord_0_0.2.2 0 (88, .goto (-84), 3) rfl
theorem dX9_cutWord_51 : decode cX9_cutWord 51 = .ok (.lload_n 2, 1) := dr9 dk9_dX9_cutWord_0_0.2.2 1 (51, .lload_n 2, 1) rfl
theorem dX9_cutWord_52 : decode cX9_cutWord 52 = .ok (.ldc2_w 41, 3) := dr9 dk9_dX9_cutWord_0_0.2.2 2 (52, .ldc2_w 41, 3) rfl
theorem dX9_cutWord_55 : decode cX9_cutWord 55 = .ok (.lmul, 1) := dr9 dk9_dX9_cutWord_0_0.2.2 3 (55, .lmul, 1) rfl
theorem dX9_cutWord_56 : decode cX9_cutWord 56 = .ok (.aload_n 0, 1) := dr9 dk9_dX9_cutWord_0_0.2.2 4 (56, .aload_n 0, 1) rfl
theorem dX9_cutWord_57 : decode cX9_cutWord 57 = .ok (.getfield 9, 3) := dr9 dk9_dX9_cutWord_0_0.2.2 5 (57, .getfield 9, 3) rfl
theorem dX9_cutWord_60 : decode cX9_cutWord 60 = .ok (.aload_n 0, 1) := dr9 dk9_dX9_cutWord_0_0.2.2 6 (60, .aload_n 0, 1) rfl
theorem dX9_cutWord_61 : decode cX9_cutWord 61 = .ok (.getfield 50, 3) := dr9 dk9_dX9_cutWord_0_0.2.2 7 (61, .getfield 50, 3) rfl
theorem dX9_cutWord_64 : decode cX9_cutWord 64 = .ok (.baload, 1) := dr9 dk9_dX9_cutWord_0_0.2.2 8 (64, .baload, 1) rfl
theorem dX9_cutWord_65 : decode cX9_cutWord 65 = .ok (.invokestatic 43, 3) := dr9 dk9_dX9_cutWord_0_0.2.2 9 (65, .invokestatic 43, 3) rfl
theorem dX9_cutWord_68 : decode cX9_cutWord 68 = .ok (.i2l, 1) := dr9 dk9_dX9_cutWord_0_0.2.2 10 (68, .i2l, 1) rfl
theorem dX9_cutWord_69 : decode cX9_cutWord 69 = .ok (.ladd, 1) := dr9 dk9_dX9_cutWord_0_0.2.2 11 (69, .ladd, 1) rfl
theorem dX9_cutWord_70 : decode cX9_cutWord 70 = .ok (.goto 4, 3) := dr9 dk9_dX9_cutWord_0_0.2.2 12 (70, .goto 4, 3) rfl
theorem dX9_cutWord_30 : decode cX9_cutWord 30 = .ok (.aload_n 0, 1) := dr9 dk9_dX9_cutWord_0_0.2.2 13 (30, .aload_n 0, 1) rfl
theorem dX9_cutWord_31 : decode cX9_cutWord 31 = .ok (.getfield 9, 3) := dr9 dk9_dX9_cutWord_0_0.2.2 14 (31, .getfield 9, 3) rfl
theorem dX9_cutWord_34 : decode cX9_cutWord 34 = .ok (.aload_n 0, 1) := dr9 dk9_dX9_cutWord_0_0.2.2 15 (34, .aload_n 0, 1) rfl
theorem dX9_cutWord_35 : decode cX9_cutWord 35 = .ok (.getfield 50, 3) := dr9 dk9_dX9_cutWord_0_0.2.2 16 (35, .getfield 50, 3) rfl
theorem dX9_cutWord_38 : decode cX9_cutWord 38 = .ok (.baload, 1) := dr9 dk9_dX9_cutWord_0_0.2.2 17 (38, .baload, 1) rfl
theorem dX9_cutWord_39 : decode cX9_cutWord 39 = .ok (.invokestatic 75, 3) := dr9 dk9_dX9_cutWord_0_0.2.2 18 (39, .invokestatic 75, 3) rfl
theorem dX9_cutWord_42 : decode cX9_cutWord 42 = .ok (.ifCond .eq 49, 3) := dr9 dk9_dX9_cutWord_0_0.2.2 19 (42, .ifCond .eq 49, 3) rfl
theorem dk9_dX9_cut_0_0 : dOk cX9_cut [(0, .aload_n 0, 1), (1, .getfield 9, 3), (4, .aload_n 0, 1), (5, .getfield 50, 3), (8, .baload, 1), (9, .istore_n 1, 1), (10, .aload_n 0, 1), (11, .getfield 23, 3), (14, .aload_n 0, 1), (15, .getfield 53, 3), (18, .aload_n 0, 1), (19, .getfield 50, 3), (22, .iastore, 1), (23, .aload_n 0, 1), (24, .getfield 26, 3), (27, .aload_n 0, 1), (28, .getfield 53, 3), (31, .lconst 0, 1), (32, .lastore, 1), (33, .iload_n 1, 1), (34, .invokestatic 75, 3), (37, .ifCond .eq 10, 3), (47, .iload_n 1, 1), (48, .invokestatic 82, 3)] = true ∧ dOk cX9_cut [(51, .ifCond .eq 10, 3), (61, .aload_n 0, 1), (62, .getfield 19, 3), (65, .aload_n 0, 1), (66, .getfield 53, 3), (69, .ldc 88, 2), (71, .iload_n 1, 1), (72, .i2c, 1), (73, .invokevirtual 90, 3), (76, .ifCond .lt 7, 3), (83, .iconst 1, 1), (84, .iastore, 1), (85, .aload_n 0, 1), (86, .dup, 1), (87, .getfield 50, 3), (90, .iconst 1, 1), (91, .iadd, 1), (92, .putfield 50, 3), (95, .aload_n 0, 1), (96, .dup, 1), (97, .getfield 53, 3), (100, .iconst 1, 1), (101, .iadd, 1), (102, .putfield 53, 3)] = true ∧ dOk cX9_cut [(105, .return_, 1), (79, .iload_n 1, 1), (80, .goto 4, 3), (54, .aload_n 0, 1), (55, .invokevirtual 85, 3), (58, .goto 37, 3), (40, .aload_n 0, 1), (41, .invokevirtual 79, 3), (44, .goto 51, 3)] = true := by decide +kernel
theorem dX9_cut_0 : decode cX9_cut 0 = .ok (.aload_n 0, 1) := dr9 dk9_dX9_cut_0_0.1 0 (0, .aload_n 0, 1) rfl
theorem dX9_cut_1 : decode cX9_cut 1 = .ok (.getfield 9, 3) := dr9 dk9_dX9_cut_0_0.1 1 (1, .getfield 9, 3) rfl
theorem dX9_cut_4 : decode cX9_cut 4 = .ok (.aload_n 0, 1) := dr9 dk9_dX9_cut_0_0.1 2 (4, .aload_n 0, 1) rfl
theorem dX9_cut_5 : decode cX9_cut 5 = .ok (.getfield 50, 3) := dr9 dk9_dX9_cut_0_0.1 3 (5, .getfield 50, 3) rfl
theorem dX9_cut_8 : decode cX9_cut 8 = .ok (.baload, 1) := dr9 dk9_dX9_cut_0_0.1 4 (8, .baload, 1) rfl
theorem dX9_cut_9 : decode cX9_cut 9 = .ok (.istore_n 1, 1) := dr9 dk9_dX9_cut_0_0.1 5 (9, .istore_n 1, 1) rfl
theorem dX9_cut_10 : decode cX9_cut 10 = .ok (.aload_n 0, 1) := dr9 dk9_dX9_cut_0_0.1 6 (10, .aload_n 0, 1) rfl
theorem dX9_cut_11 : decode cX9_cut 11 = .ok (.getfield 23, 3) := dr9 dk9_dX9_cut_0_0.1 7 (11, .getfield 23, 3) rfl
theorem dX9_cut_14 : decode cX9_cut 14 = .ok (.aload_n 0, 1) := dr9 dk9_dX9_cut_0_0.1 8 (14, .aload_n 0, 1) rfl
theorem dX9_cut_15 : decode cX9_cut 15 = .ok (.getfield 53, 3) := dr9 dk9_dX9_cut_0_0.1 9 (15, .getfield 53, 3) rfl
theorem dX9_cut_18 : decode cX9_cut 18 = .ok (.aload_n 0, 1) := dr9 dk9_dX9_cut_0_0.1 10 (18, .aload_n 0, 1) rfl
theorem dX9_cut_19 : decode cX9_cut 19 = .ok (.getfield 50, 3) := dr9 dk9_dX9_cut_0_0.1 11 (19, .getfield 50, 3) rfl
theorem dX9_cut_22 : decode cX9_cut 22 = .ok (.iastore, 1) := dr9 dk9_dX9_cut_0_0.1 12 (22, .iastore, 1) rfl
theorem dX9_cut_23 : decode cX9_cut 23 = .ok (.aload_n 0, 1) := dr9 dk9_dX9_cut_0_0.1 13 (23, .aload_n 0, 1) rfl
theorem dX9_cut_24 : decode cX9_cut 24 = .ok (.getfield 26, 3) := dr9 dk9_dX9_cut_0_0.1 14 (24, .getfield 26, 3) rfl
theorem dX9_cut_27 : decode cX9_cut 27 = .ok (.aload_n 0, 1) := dr9 dk9_dX9_cut_0_0.1 15 (27, .aload_n 0, 1) rfl
theorem dX9_cut_28 : decode cX9_cut 28 = .ok (.getfield 53, 3) := dr9 dk9_dX9_cut_0_0.1 16 (28, .getfield 53, 3) rfl
theorem dX9_cut_31 : decode cX9_cut 31 = .ok (.lconst 0, 1) := dr9 dk9_dX9_cut_0_0.1 17 (31, .lconst 0, 1) rfl
theorem dX9_cut_32 : decode cX9_cut 32 = .ok (.lastore, 1) := dr9 dk9_dX9_cut_0_0.1 18 (32, .lastore, 1) rfl
theorem dX9_cut_33 : decode cX9_cut 33 = .ok (.iload_n 1, 1) := dr9 dk9_dX9_cut_0_0.1 19 (33, .iload_n 1, 1) rfl
theorem dX9_cut_34 : decode cX9_cut 34 = .ok (.invokestatic 75, 3) := dr9 dk9_dX9_cut_0_0.1 20 (34, .invokestatic 75, 3) rfl
theorem dX9_cut_37 : decode cX9_cut 37 = .ok (.ifCond .eq 10, 3) := dr9 dk9_dX9_cut_0_0.1 21 (37, .ifCond .eq 10, 3) rfl
theorem dX9_cut_47 : decode cX9_cut 47 = .ok (.iload_n 1, 1) := dr9 dk9_dX9_cut_0_0.1 22 (47, .iload_n 1, 1) rfl
theorem dX9_cut_48 : decode cX9_cut 48 = .ok (.invokestatic 82, 3) := dr9 dk9_dX9_cut_0_0.1 23 (48, .invokestatic 82, 3) rfl
theorem dX9_cut_51 : decode cX9_cut 51 = .ok (.ifCond .eq 10, 3) := dr9 dk9_dX9_cut_0_0.2.1 0 (51, .ifCond .eq 10, 3) rfl
theorem dX9_cut_61 : decode cX9_cut 61 = .ok (.aload_n 0, 1) := dr9 dk9_dX9_cut_0_0.2.1 1 (61, .aload_n 0, 1) rfl
theorem dX9_cut_62 : decode cX9_cut 62 = .ok (.getfield 19, 3) := dr9 dk9_dX9_cut_0_0.2.1 2 (62, .getfield 19, 3) rfl
theorem dX9_cut_65 : decode cX9_cut 65 = .ok (.aload_n 0, 1) := dr9 dk9_dX9_cut_0_0.2.1 3 (65, .aload_n 0, 1) rfl
theorem dX9_cut_66 : decode cX9_cut 66 = .ok (.getfield 53, 3) := dr9 dk9_dX9_cut_0_0.2.1 4 (66, .getfield 53, 3) rfl
theorem dX9_cut_69 : decode cX9_cut 69 = .ok (.ldc 88, 2) := dr9 dk9_dX9_cut_0_0.2.1 5 (69, .ldc 88, 2) rfl
theorem dX9_cut_71 : decode cX9_cut 71 = .ok (.iload_n 1, 1) := dr9 dk9_dX9_cut_0_0.2.1 6 (71, .iload_n 1, 1) rfl
theorem dX9_cut_72 : decode cX9_cut 72 = .ok (.i2c, 1) := dr9 dk9_dX9_cut_0_0.2.1 7 (72, .i2c, 1) rfl
theorem dX9_cut_73 : decode cX9_cut 73 = .ok (.invokevirtual 90, 3) := dr9 dk9_dX9_cut_0_0.2.1 8 (73, .invokevirtual 90, 3) rfl
theorem dX9_cut_76 : decode cX9_cut 76 = .ok (.ifCond .lt 7, 3) := dr9 dk9_dX9_cut_0_0.2.1 9 (76, .ifCond .lt 7, 3) rfl
theorem dX9_cut_83 : decode cX9_cut 83 = .ok (.iconst 1, 1) := dr9 dk9_dX9_cut_0_0.2.1 10 (83, .iconst 1, 1) rfl
theorem dX9_cut_84 : decode cX9_cut 84 = .ok (.iastore, 1) := dr9 dk9_dX9_cut_0_0.2.1 11 (84, .iastore, 1) rfl
theorem dX9_cut_85 : decode cX9_cut 85 = .ok (.aload_n 0, 1) := dr9 dk9_dX9_cut_0_0.2.1 12 (85, .aload_n 0, 1) rfl
theorem dX9_cut_86 : decode cX9_cut 86 = .ok (.dup, 1) := dr9 dk9_dX9_cut_0_0.2.1 13 (86, .dup, 1) rfl
theorem dX9_cut_87 : decode cX9_cut 87 = .ok (.getfield 50, 3) := dr9 dk9_dX9_cut_0_0.2.1 14 (87, .getfield 50, 3) rfl
theorem dX9_cut_90 : decode cX9_cut 90 = .ok (.iconst 1, 1) := dr9 dk9_dX9_cut_0_0.2.1 15 (90, .iconst 1, 1) rfl
theorem dX9_cut_91 : decode cX9_cut 91 = .ok (.iadd, 1) := dr9 dk9_dX9_cut_0_0.2.1 16 (91, .iadd, 1) rfl
theorem dX9_cut_92 : decode cX9_cut 92 = .ok (.putfield 50, 3) := dr9 dk9_dX9_cut_0_0.2.1 17 (92, .putfield 50, 3) rfl
theorem dX9_cut_95 : decode cX9_cut 95 = .ok (.aload_n 0, 1) := dr9 dk9_dX9_cut_0_0.2.1 18 (95, .aload_n 0, 1) rfl
theorem dX9_cut_96 : decode cX9_cut 96 = .ok (.dup, 1) := dr9 dk9_dX9_cut_0_0.2.1 19 (96, .dup, 1) rfl
theorem dX9_cut_97 : decode cX9_cut 97 = .ok (.getfield 53, 3) := dr9 dk9_dX9_cut_0_0.2.1 20 (97, .getfield 53, 3) rfl
theorem dX9_cut_100 : decode cX9_cut 100 = .ok (.iconst 1, 1) := dr9 dk9_dX9_cut_0_0.2.1 21 (100, .iconst 1, 1) rfl
theorem dX9_cut_101 : decode cX9_cut 101 = .ok (.iadd, 1) := dr9 dk9_dX9_cut_0_0.2.1 22 (101, .iadd, 1) rfl
theorem dX9_cut_102 : decode cX9_cut 102 = .ok (.putfield 53, 3) := dr9 dk9_dX9_cut_0_0.2.1 23 (102, .putfield 53, 3) rfl
theorem dX9_cut_105 : decode cX9_cut 105 = .ok (.return_, 1) := dr9 dk9_dX9_cut_0_0.2.2 0 (105, .return_, 1) rfl
theorem dX9_cut_79 : decode cX9_cut 79 = .ok (.iload_n 1, 1) := dr9 dk9_dX9_cut_0_0.2.2 1 (79, .iload_n 1, 1) rfl
theorem dX9_cut_80 : decode cX9_cut 80 = .ok (.goto 4, 3) := dr9 dk9_dX9_cut_0_0.2.2 2 (80, .goto 4, 3) rfl
theorem dX9_cut_54 : decode cX9_cut 54 = .ok (.aload_n 0, 1) := dr9 dk9_dX9_cut_0_0.2.2 3 (54, .aload_n 0, 1) rfl
theorem dX9_cut_55 : decode cX9_cut 55 = .ok (.invokevirtual 85, 3) := dr9 dk9_dX9_cut_0_0.2.2 4 (55, .invokevirtual 85, 3) rfl
theorem dX9_cut_58 : decode cX9_cut 58 = .ok (.goto 37, 3) := dr9 dk9_dX9_cut_0_0.2.2 5 (58, .goto 37, 3) rfl
theorem dX9_cut_40 : decode cX9_cut 40 = .ok (.aload_n 0, 1) := dr9 dk9_dX9_cut_0_0.2.2 6 (40, .aload_n 0, 1) rfl
theorem dX9_cut_41 : decode cX9_cut 41 = .ok (.invokevirtual 79, 3) := dr9 dk9_dX9_cut_0_0.2.2 7 (41, .invokevirtual 79, 3) rfl
theorem dX9_cut_44 : decode cX9_cut 44 = .ok (.goto 51, 3) := dr9 dk9_dX9_cut_0_0.2.2 8 (44, .goto 51, 3) rfl
theorem dk9_dX9_begin_0_0 : dOk cX9_begin [(0, .aload_n 0, 1), (1, .iconst 0, 1), (2, .putfield 50, 3), (5, .aload_n 0, 1), (6, .iconst 0, 1), (7, .putfield 53, 3), (10, .iconst 0, 1), (11, .istore_n 1, 1), (12, .iload_n 1, 1), (13, .sipush 4000, 3), (16, .if_icmp .ge 65, 3), (81, .aload_n 0, 1), (82, .getfield 19, 3), (85, .aload_n 0, 1), (86, .getfield 53, 3), (89, .iconst 0, 1), (90, .iastore, 1), (91, .aload_n 0, 1), (92, .getfield 23, 3), (95, .aload_n 0, 1), (96, .getfield 53, 3), (99, .aload_n 0, 1), (100, .getfield 47, 3), (103, .iastore, 1)] = true ∧ dOk cX9_begin [(104, .aload_n 0, 1), (105, .getfield 26, 3), (108, .aload_n 0, 1), (109, .getfield 53, 3), (112, .lconst 0, 1), (113, .lastore, 1), (114, .aload_n 0, 1), (115, .iconst 0, 1), (116, .putfield 59, 3), (119, .aload_n 0, 1), (120, .invokevirtual 62, 3), (123, .return_, 1), (19, .aload_n 0, 1), (20, .getfield 50, 3), (23, .aload_n 0, 1), (24, .getfield 47, 3), (27, .if_icmp .ge 54, 3), (30, .aload_n 0, 1), (31, .getfield 9, 3), (34, .aload_n 0, 1), (35, .getfield 50, 3), (38, .baload, 1), (39, .bipush 32, 2), (41, .if_icmp .eq 17, 3)] = true ∧ dOk cX9_begin [(58, .aload_n 0, 1), (59, .dup, 1), (60, .getfield 50, 3), (63, .iconst 1, 1), (64, .iadd, 1), (65, .putfield 50, 3), (68, .goto 7, 3), (75, .iinc 1 1, 3), (78, .goto (-66), 3), (44, .aload_n 0, 1), (45, .getfield 9, 3), (48, .aload_n 0, 1), (49, .getfield 50, 3), (52, .baload, 1), (53, .bipush 10, 2), (55, .if_icmp .ne 16, 3), (71, .aload_n 0, 1), (72, .invokevirtual 56, 3)] = true := by decide +kernel
theorem dX9_begin_0 : decode cX9_begin 0 = .ok (.aload_n 0, 1) := dr9 dk9_dX9_begin_0_0.1 0 (0, .aload_n 0, 1) rfl
theorem dX9_begin_1 : decode cX9_begin 1 = .ok (.iconst 0, 1) := dr9 dk9_dX9_begin_0_0.1 1 (1, .iconst 0, 1) rfl
theorem dX9_begin_2 : decode cX9_begin 2 = .ok (.putfield 50, 3) := dr9 dk9_dX9_begin_0_0.1 2 (2, .putfield 50, 3) rfl
theorem dX9_begin_5 : decode cX9_begin 5 = .ok (.aload_n 0, 1) := dr9 dk9_dX9_begin_0_0.1 3 (5, .aload_n 0, 1) rfl
theorem dX9_begin_6 : decode cX9_begin 6 = .ok (.iconst 0, 1) := dr9 dk9_dX9_begin_0_0.1 4 (6, .iconst 0, 1) rfl
theorem dX9_begin_7 : decode cX9_begin 7 = .ok (.putfield 53, 3) := dr9 dk9_dX9_begin_0_0.1 5 (7, .putfield 53, 3) rfl
theorem dX9_begin_10 : decode cX9_begin 10 = .ok (.iconst 0, 1) := dr9 dk9_dX9_begin_0_0.1 6 (10, .iconst 0, 1) rfl
theorem dX9_begin_11 : decode cX9_begin 11 = .ok (.istore_n 1, 1) := dr9 dk9_dX9_begin_0_0.1 7 (11, .istore_n 1, 1) rfl
theorem dX9_begin_12 : decode cX9_begin 12 = .ok (.iload_n 1, 1) := dr9 dk9_dX9_begin_0_0.1 8 (12, .iload_n 1, 1) rfl
theorem dX9_begin_13 : decode cX9_begin 13 = .ok (.sipush 4000, 3) := dr9 dk9_dX9_begin_0_0.1 9 (13, .sipush 4000, 3) rfl
theorem dX9_begin_16 : decode cX9_begin 16 = .ok (.if_icmp .ge 65, 3) := dr9 dk9_dX9_begin_0_0.1 10 (16, .if_icmp .ge 65, 3) rfl
theorem dX9_begin_81 : decode cX9_begin 81 = .ok (.aload_n 0, 1) := dr9 dk9_dX9_begin_0_0.1 11 (81, .aload_n 0, 1) rfl
theorem dX9_begin_82 : decode cX9_begin 82 = .ok (.getfield 19, 3) := dr9 dk9_dX9_begin_0_0.1 12 (82, .getfield 19, 3) rfl
theorem dX9_begin_85 : decode cX9_begin 85 = .ok (.aload_n 0, 1) := dr9 dk9_dX9_begin_0_0.1 13 (85, .aload_n 0, 1) rfl
theorem dX9_begin_86 : decode cX9_begin 86 = .ok (.getfield 53, 3) := dr9 dk9_dX9_begin_0_0.1 14 (86, .getfield 53, 3) rfl
theorem dX9_begin_89 : decode cX9_begin 89 = .ok (.iconst 0, 1) := dr9 dk9_dX9_begin_0_0.1 15 (89, .iconst 0, 1) rfl
theorem dX9_begin_90 : decode cX9_begin 90 = .ok (.iastore, 1) := dr9 dk9_dX9_begin_0_0.1 16 (90, .iastore, 1) rfl
theorem dX9_begin_91 : decode cX9_begin 91 = .ok (.aload_n 0, 1) := dr9 dk9_dX9_begin_0_0.1 17 (91, .aload_n 0, 1) rfl
theorem dX9_begin_92 : decode cX9_begin 92 = .ok (.getfield 23, 3) := dr9 dk9_dX9_begin_0_0.1 18 (92, .getfield 23, 3) rfl
theorem dX9_begin_95 : decode cX9_begin 95 = .ok (.aload_n 0, 1) := dr9 dk9_dX9_begin_0_0.1 19 (95, .aload_n 0, 1) rfl
theorem dX9_begin_96 : decode cX9_begin 96 = .ok (.getfield 53, 3) := dr9 dk9_dX9_begin_0_0.1 20 (96, .getfield 53, 3) rfl
theorem dX9_begin_99 : decode cX9_begin 99 = .ok (.aload_n 0, 1) := dr9 dk9_dX9_begin_0_0.1 21 (99, .aload_n 0, 1) rfl
theorem dX9_begin_100 : decode cX9_begin 100 = .ok (.getfield 47, 3) := dr9 dk9_dX9_begin_0_0.1 22 (100, .getfield 47, 3) rfl
theorem dX9_begin_103 : decode cX9_begin 103 = .ok (.iastore, 1) := dr9 dk9_dX9_begin_0_0.1 23 (103, .iastore, 1) rfl
theorem dX9_begin_104 : decode cX9_begin 104 = .ok (.aload_n 0, 1) := dr9 dk9_dX9_begin_0_0.2.1 0 (104, .aload_n 0, 1) rfl
theorem dX9_begin_105 : decode cX9_begin 105 = .ok (.getfield 26, 3) := dr9 dk9_dX9_begin_0_0.2.1 1 (105, .getfield 26, 3) rfl
theorem dX9_begin_108 : decode cX9_begin 108 = .ok (.aload_n 0, 1) := dr9 dk9_dX9_begin_0_0.2.1 2 (108, .aload_n 0, 1) rfl
theorem dX9_begin_109 : decode cX9_begin 109 = .ok (.getfield 53, 3) := dr9 dk9_dX9_begin_0_0.2.1 3 (109, .getfield 53, 3) rfl
theorem dX9_begin_112 : decode cX9_begin 112 = .ok (.lconst 0, 1) := dr9 dk9_dX9_begin_0_0.2.1 4 (112, .lconst 0, 1) rfl
theorem dX9_begin_113 : decode cX9_begin 113 = .ok (.lastore, 1) := dr9 dk9_dX9_begin_0_0.2.1 5 (113, .lastore, 1) rfl
theorem dX9_begin_114 : decode cX9_begin 114 = .ok (.aload_n 0, 1) := dr9 dk9_dX9_begin_0_0.2.1 6 (114, .aload_n 0, 1) rfl
theorem dX9_begin_115 : decode cX9_begin 115 = .ok (.iconst 0, 1) := dr9 dk9_dX9_begin_0_0.2.1 7 (115, .iconst 0, 1) rfl
theorem dX9_begin_116 : decode cX9_begin 116 = .ok (.putfield 59, 3) := dr9 dk9_dX9_begin_0_0.2.1 8 (116, .putfield 59, 3) rfl
theorem dX9_begin_119 : decode cX9_begin 119 = .ok (.aload_n 0, 1) := dr9 dk9_dX9_begin_0_0.2.1 9 (119, .aload_n 0, 1) rfl
theorem dX9_begin_120 : decode cX9_begin 120 = .ok (.invokevirtual 62, 3) := dr9 dk9_dX9_begin_0_0.2.1 10 (120, .invokevirtual 62, 3) rfl
theorem dX9_begin_123 : decode cX9_begin 123 = .ok (.return_, 1) := dr9 dk9_dX9_begin_0_0.2.1 11 (123, .return_, 1) rfl
theorem dX9_begin_19 : decode cX9_begin 19 = .ok (.aload_n 0, 1) := dr9 dk9_dX9_begin_0_0.2.1 12 (19, .aload_n 0, 1) rfl
theorem dX9_begin_20 : decode cX9_begin 20 = .ok (.getfield 50, 3) := dr9 dk9_dX9_begin_0_0.2.1 13 (20, .getfield 50, 3) rfl
theorem dX9_begin_23 : decode cX9_begin 23 = .ok (.aload_n 0, 1) := dr9 dk9_dX9_begin_0_0.2.1 14 (23, .aload_n 0, 1) rfl
theorem dX9_begin_24 : decode cX9_begin 24 = .ok (.getfield 47, 3) := dr9 dk9_dX9_begin_0_0.2.1 15 (24, .getfield 47, 3) rfl
theorem dX9_begin_27 : decode cX9_begin 27 = .ok (.if_icmp .ge 54, 3) := dr9 dk9_dX9_begin_0_0.2.1 16 (27, .if_icmp .ge 54, 3) rfl
theorem dX9_begin_30 : decode cX9_begin 30 = .ok (.aload_n 0, 1) := dr9 dk9_dX9_begin_0_0.2.1 17 (30, .aload_n 0, 1) rfl
theorem dX9_begin_31 : decode cX9_begin 31 = .ok (.getfield 9, 3) := dr9 dk9_dX9_begin_0_0.2.1 18 (31, .getfield 9, 3) rfl
theorem dX9_begin_34 : decode cX9_begin 34 = .ok (.aload_n 0, 1) := dr9 dk9_dX9_begin_0_0.2.1 19 (34, .aload_n 0, 1) rfl
theorem dX9_begin_35 : decode cX9_begin 35 = .ok (.getfield 50, 3) := dr9 dk9_dX9_begin_0_0.2.1 20 (35, .getfield 50, 3) rfl
theorem dX9_begin_38 : decode cX9_begin 38 = .ok (.baload, 1) := dr9 dk9_dX9_begin_0_0.2.1 21 (38, .baload, 1) rfl
theorem dX9_begin_39 : decode cX9_begin 39 = .ok (.bipush 32, 2) := dr9 dk9_dX9_begin_0_0.2.1 22 (39, .bipush 32, 2) rfl
theorem dX9_begin_41 : decode cX9_begin 41 = .ok (.if_icmp .eq 17, 3) := dr9 dk9_dX9_begin_0_0.2.1 23 (41, .if_icmp .eq 17, 3) rfl
theorem dX9_begin_58 : decode cX9_begin 58 = .ok (.aload_n 0, 1) := dr9 dk9_dX9_begin_0_0.2.2 0 (58, .aload_n 0, 1) rfl
theorem dX9_begin_59 : decode cX9_begin 59 = .ok (.dup, 1) := dr9 dk9_dX9_begin_0_0.2.2 1 (59, .dup, 1) rfl
theorem dX9_begin_60 : decode cX9_begin 60 = .ok (.getfield 50, 3) := dr9 dk9_dX9_begin_0_0.2.2 2 (60, .getfield 50, 3) rfl
theorem dX9_begin_63 : decode cX9_begin 63 = .ok (.iconst 1, 1) := dr9 dk9_dX9_begin_0_0.2.2 3 (63, .iconst 1, 1) rfl
theorem dX9_begin_64 : decode cX9_begin 64 = .ok (.iadd, 1) := dr9 dk9_dX9_begin_0_0.2.2 4 (64, .iadd, 1) rfl
theorem dX9_begin_65 : decode cX9_begin 65 = .ok (.putfield 50, 3) := dr9 dk9_dX9_begin_0_0.2.2 5 (65, .putfield 50, 3) rfl
theorem dX9_begin_68 : decode cX9_begin 68 = .ok (.goto 7, 3) := dr9 dk9_dX9_begin_0_0.2.2 6 (68, .goto 7, 3) rfl
theorem dX9_begin_75 : decode cX9_begin 75 = .ok (.iinc 1 1, 3) := dr9 dk9_dX9_begin_0_0.2.2 7 (75, .iinc 1 1, 3) rfl
theorem dX9_begin_78 : decode cX9_begin 78 = .ok (.goto (-66), 3) := dr9 dk9_dX9_begin_0_0.2.2 8 (78, .goto (-66), 3) rfl
theorem dX9_begin_44 : decode cX9_begin 44 = .ok (.aload_n 0, 1) := dr9 dk9_dX9_begin_0_0.2.2 9 (44, .aload_n 0, 1) rfl
theorem dX9_begin_45 : decode cX9_begin 45 = .ok (.getfield 9, 3) := dr9 dk9_dX9_begin_0_0.2.2 10 (45, .getfield 9, 3) rfl
theorem dX9_begin_48 : decode cX9_begin 48 = .ok (.aload_n 0, 1) := dr9 dk9_dX9_begin_0_0.2.2 11 (48, .aload_n 0, 1) rfl
theorem dX9_begin_49 : decode cX9_begin 49 = .ok (.getfield 50, 3) := dr9 dk9_dX9_begin_0_0.2.2 12 (49, .getfield 50, 3) rfl
theorem dX9_begin_52 : decode cX9_begin 52 = .ok (.baload, 1) := dr9 dk9_dX9_begin_0_0.2.2 13 (52, .baload, 1) rfl
theorem dX9_begin_53 : decode cX9_begin 53 = .ok (.bipush 10, 2) := dr9 dk9_dX9_begin_0_0.2.2 14 (53, .bipush 10, 2) rfl
theorem dX9_begin_55 : decode cX9_begin 55 = .ok (.if_icmp .ne 16, 3) := dr9 dk9_dX9_begin_0_0.2.2 15 (55, .if_icmp .ne 16, 3) rfl
theorem dX9_begin_71 : decode cX9_begin 71 = .ok (.aload_n 0, 1) := dr9 dk9_dX9_begin_0_0.2.2 16 (71, .aload_n 0, 1) rfl
theorem dX9_begin_72 : decode cX9_begin 72 = .ok (.invokevirtual 56, 3) := dr9 dk9_dX9_begin_0_0.2.2 17 (72, .invokevirtual 56, 3) rfl
abbrev r_x_cutWord : Room := { frames := 2, cells := 0, slots := 0, locals := 40 }
abbrev q_x_cutWord (D : va_G) (ks : KS) (ad : Nat → Nat) (kk : Nat → ClassId) (V : Vf) (L : Lf) (Z : XZ) (A : Nat → Prop) : Array Value → State → Outcome → State → Prop := va_Qv (fun (u : Vf × Lf) => rgd bX u.1 ∧ agr [(6, 6)] [12, 14] V u.1 ∧ agL [14] L u.2 ∧ ((u.1 6 6).toInt ≤ (V 6 5).toInt)) (fun u t => gq D A (xw ad kk u.1 u.2 Z) (xty kk Z) t) A
set_option maxHeartbeats 4000000 in
set_option maxRecDepth 100000 in
theorem x_cutWord (l : Launch) (D : va_G) (ks : KS) (sz : Nat) (ad : Nat → Nat) (kk : Nat → ClassId) (V : Vf) (L : Lf) (Z : XZ)  (hMV : rgd bX V) (y1 : (V 6 6).toInt ≤ (V 6 5).toInt) (y2 : (V 6 7).toInt ≤ 3999)  : Met l yX9_cutWord (Cond.code yX9_cutWord cX9_cutWord 4 none :: GW) r_x_cutWord (va_Pc [.ref (ad 6)] (gp D ks (xw ad kk V L Z) (xty kk Z) sz)) (q_x_cutWord D ks ad kk V L Z  (va_A (xw ad kk V L Z) sz)) 0 0 (va_A (xw ad kk V L Z) sz) := by
  refine g_met (q_x_cutWord D ks ad kk V L Z) (by decide) (Nat.le_of_ble_eq_true rfl) ?_
  intro p e s m below meth c A ls H locs hx hb hr hml hown hg hlocks hin hnw hgk hP hK hD hS hA hl
  have hown : s.vm.findClass RX9 = some m.cls := hown
  have hl : lv_has ls 4 [(0, .ref (ad 6))] := hl
  have hP : va_P D vwCl (xw ad kk V L Z) H := hP
  have hD : va_D A (xw ad kk V L Z) := hD
  have hK : va_K D vwCl (xty kk Z) s := hK
  have agV : agr [(6, 6)] [12, 14] V V := agr.rf
  have alL : agL [14] L L := agL.rf
  have r1 : 0 ≤ ((V 6 5)).toInt ∧ ((V 6 5)).toInt ≤ 4000 := hMV 6 5
  have r2 : 0 ≤ ((V 6 6)).toInt ∧ ((V 6 6)).toInt ≤ 4000 := hMV 6 6
  have r3 : 0 ≤ ((V 6 7)).toInt ∧ ((V 6 7)).toInt ≤ 4000 := hMV 6 7
  refine lv_iconst (v := 0) hx hb dX9_cutWord_0 (by decide) ?_
  refine lv_istore_n (lv' := [(1, .int 0), (0, .ref (ad 6))]) hx hb dX9_cutWord_1 rfl hl (by decide) rfl (fun ls hl => ?_)
  refine lv_lconst (v := 0) hx hb dX9_cutWord_2 (by decide) ?_
  refine lv_lstore_n (lv' := [(2, .long 0), (1, .int 0), (0, .ref (ad 6))]) hx hb dX9_cutWord_3 rfl hl (by decide) rfl (fun ls hl => ?_)
  have lp7 : ∀ (fulp7 : Nat) (y4 : Int64) (y5 : Int32) (V6 : Vf) (H : Heap) (locs : List Loc) (ls : Array Slot), 0 ≤ y5.toInt ∧ y5.toInt ≤ 4000 → (V6 6 6).toInt ≤ (V6 6 5).toInt → (V 6 6).toInt + y5.toInt = (V6 6 6).toInt → (V6 6 5).toInt - (V6 6 6).toInt < (fulp7 : Int) → agr [(6, 6)] [] V V6 → rgd bX V6 → va_P D vwCl (xw ad kk V6 L Z) H → va_D A (xw ad kk V6 L Z) → va_S A s.heap H locs → lv_has ls 4 [(2, .long y4), (1, .int y5), (0, .ref (ad 6))] → W p l e r_x_cutWord s m ([.ref (ad 6)] : List Value).toArray below meth c H locs 0 0 (MQ below (q_x_cutWord D ks ad kk V L Z  A) ([.ref (ad 6)] : List Value).toArray s 0 0 A) (F0 m 4 ls []) := by
    intro fulp7
    induction fulp7 with
    | zero =>
      intro y4 y5 V6 H locs ls klp7_0 xlp7_0 xlp7_1 hn ajV6 hMV6 hP hD hS hl
      exfalso; (first | exact om_4634b1278845 xlp7_0 hn | omega)
    | succ fulp7 ihlp7 =>
      intro y4 y5 V6 H locs ls klp7_0 xlp7_0 xlp7_1 hn ajV6 hMV6 hP hD hS hl
      have agV6 : agr [(6, 6)] [12, 14] V V6 := agV.tr ajV6 (by decide) (by decide)
      have pq8 : (V6 6 5).toInt = ((V 6 5)).toInt := congrArg Int32.toInt (ajV6 6 5 rfl)
      have r9 : 0 ≤ ((V6 6 6)).toInt ∧ ((V6 6 6)).toInt ≤ 4000 := hMV6 6 6
      refine lv_aload_n hx hb dX9_cutWord_4 rfl (lv_at hl 2 rfl) ?_
      refine va_get (D := D) (ci := 9) (v := .int (V6 6 6)) (fs := (xfTape ad V6 L Z)) (C := RX9) (T := TX9) (N := 12) hx hb hg inX9 hown hK hP 6 xgTape rfl 6 (by decide) (hg _ w259) (fun _ h9 => h9) rfl dX9_cutWord_5 ?_
      refine lv_aload_n hx hb dX9_cutWord_8 rfl (lv_at hl 2 rfl) ?_
      refine va_get (D := D) (ci := 9) (v := .int (V6 6 5)) (fs := (xfTape ad V6 L Z)) (C := RX9) (T := TX9) (N := 12) hx hb hg inX9 hown hK hP 6 xgTape rfl 5 (by decide) (hg _ w258) (fun _ h9 => h9) rfl dX9_cutWord_9 ?_
      refine g_top (v := (V 6 5)) (ajV6 6 5 rfl) ?_
      refine lv_icmp_ge (tgt := 91) hx hb dX9_cutWord_12 (by decide) (fun c10 => ?_) (fun c10 => ?_)
      · skip
        have f11 : ((V 6 5)).toInt ≤ ((V6 6 6)).toInt := b_le rfl rfl c10
        refine lv_aload_n hx hb dX9_cutWord_91 rfl (lv_at hl 2 rfl) ?_
        refine va_get (D := D) (ci := 9) (v := .ref (ad 9)) (fs := (xfTape ad V6 L Z)) (C := RX9) (T := TX9) (N := 12) hx hb hg inX9 hown hK hP 6 xgTape rfl 2 (by decide) (hg _ w254) (fun _ h9 => h9) rfl dX9_cutWord_92 ?_
        refine lv_aload_n hx hb dX9_cutWord_95 rfl (lv_at hl 2 rfl) ?_
        refine va_get (D := D) (ci := 9) (v := .int (V6 6 7)) (fs := (xfTape ad V6 L Z)) (C := RX9) (T := TX9) (N := 12) hx hb hg inX9 hown hK hP 6 xgTape rfl 7 (by decide) (hg _ w260) (fun _ h9 => h9) rfl dX9_cutWord_96 ?_
        refine g_top (v := (V 6 7)) (ajV6 6 7 rfl) ?_
        refine lv_iload_n hx hb dX9_cutWord_99 rfl (lv_at hl 1 rfl) ?_
        refine lv_bipush (v := 12) hx hb dX9_cutWord_100 (by decide) ?_
        refine lv_icmp_le (tgt := 109) hx hb dX9_cutWord_102 (by decide) (fun c12 => ?_) (fun c12 => ?_)
        · skip
          have f13 : y5.toInt ≤ 12 := b_le rfl (by decide) c12
          refine lv_aload_n hx hb dX9_cutWord_109 rfl (lv_at hl 2 rfl) ?_
          refine lv_lload_n hx hb dX9_cutWord_110 rfl (lv_at hl 0 rfl) ?_
          refine gA_int (gA_runV (As := [.long y4]) (rest := [.int (V 6 7), .ref (ad 9)]) (ci := 9) (q0 := 6) hx hb hml hown hg hP hD hK hS hA hnw hgk (x_kindOf l D ks H.size ad kk V6 L Z y4 hMV6 ) w787 w789 w3 w157 w790 rfl xgTape hdV_yX9_kindOf ⟨Nat.le_of_ble_eq_true rfl, Nat.le_of_ble_eq_true rfl⟩ rfl hl.1 rfl (Nat.le_of_ble_eq_true rfl) dX9_cutWord_111 ⟨Nat.le_of_ble_eq_true rfl, Nat.le_of_ble_eq_true rfl⟩) hP hD hK hS hA (fun z14 u15 H locs w16 hP hD hK hS => ?_)
          refine va_iast (D := D) (i := (V 6 7)) (x := z14) hx hb hK hP hD hS 9 2 rfl rfl (i_in (a := ((V 6 7)).toInt) rfl (by (first | exact om_1452076f4170 y2 r3.1 | omega))) dX9_cutWord_114 (fun H locs hP hD hS => ?_)
          obtain ⟨V17, hV17⟩ : ∃ z, z = up2 V6 12 (Int32.toNatClampNeg (V 6 7)) z14 := ⟨_, rfl⟩
          have ew18 : (xw ad kk V6 L Z).set 9 ((ad 9), .inl ((kk 9), 4001, .inl (upd (V6 12) (Int32.toNatClampNeg (V 6 7)) z14))) = xw ad kk V17 L Z := by rw [hV17]; exact xw_ss (by decide) rfl (xb_si (by decide))
          have hP : va_P D vwCl (xw ad kk V17 L Z) H := by rw [← ew18]; exact hP
          have hD : va_D A (xw ad kk V17 L Z) := by rw [← ew18]; exact hD
          have hMV17 : rgd bX V17 := hMV6.put hV17 (i_full _)
          have agV17 : agr [(6, 6)] [12, 14] V V17 := agV6.up hV17 rfl
          refine lv_aload_n hx hb dX9_cutWord_115 rfl (lv_at hl 2 rfl) ?_
          refine va_get (D := D) (ci := 9) (v := .ref (ad 11)) (fs := (xfTape ad V17 L Z)) (C := RX9) (T := TX9) (N := 12) hx hb hg inX9 hown hK hP 6 xgTape rfl 4 (by decide) (hg _ w256) (fun _ h9 => h9) rfl dX9_cutWord_116 ?_
          refine lv_aload_n hx hb dX9_cutWord_119 rfl (lv_at hl 2 rfl) ?_
          refine va_get (D := D) (ci := 9) (v := .int (V17 6 7)) (fs := (xfTape ad V17 L Z)) (C := RX9) (T := TX9) (N := 12) hx hb hg inX9 hown hK hP 6 xgTape rfl 7 (by decide) (hg _ w260) (fun _ h9 => h9) rfl dX9_cutWord_120 ?_
          refine g_top (v := (V 6 7)) ((up2_o hV17 (by decide)).trans (ajV6 6 7 rfl)) ?_
          refine lv_lload_n hx hb dX9_cutWord_123 rfl (lv_at hl 0 rfl) ?_
          refine va_last (D := D) (i := (V 6 7)) (x := y4) hx hb hK hP hD hS 11 4 rfl rfl (i_in (a := ((V 6 7)).toInt) rfl (by (first | exact om_1452076f4170 y2 r3.1 | omega))) dX9_cutWord_124 (fun H locs hP hD hS => ?_)
          obtain ⟨L19, hL19⟩ : ∃ z, z = upL L 14 (Int32.toNatClampNeg (V 6 7)) y4 := ⟨_, rfl⟩
          have ew20 : (xw ad kk V17 L Z).set 11 ((ad 11), .inl ((kk 11), 4001, .inr (.inl (vp_updL (L 14) (Int32.toNatClampNeg (V 6 7)) y4)))) = xw ad kk V17 L19 Z := by rw [hL19]; exact xw_ss (by decide) rfl (fun j => xe_L (fun a => absurd a.1 (by decide)))
          have hP : va_P D vwCl (xw ad kk V17 L19 Z) H := by rw [← ew20]; exact hP
          have hD : va_D A (xw ad kk V17 L19 Z) := by rw [← ew20]; exact hD
          have alL19 : agL [14] L L19 := agL.up alL hL19 rfl
          have pq21 : (V17 6 6).toInt = ((V6 6 6)).toInt := congrArg Int32.toInt (up2_o hV17 (by decide))
          have pq22 : (V17 6 5).toInt = ((V 6 5)).toInt := congrArg Int32.toInt ((up2_o hV17 (by decide)).trans (ajV6 6 5 rfl))
          exact W.vret hx hb hr (fun t ht hW => ⟨⟨(V17, L19), rfl, ⟨hMV17, agV17, alL19, (show (V17 6 6).toInt ≤ (V 6 5).toInt from by (first | exact om_35d7f5d544b6 xlp7_0 pq8 pq21 | omega))⟩, by rw [ht]; exact hP, va_K.moved hW.alike hK, hD⟩, hS.F ht⟩) hS.2.2 dX9_cutWord_125
        · skip
          have f23 : 12 < y5.toInt := b_nle rfl (by decide) c12
          refine lv_iconst (v := 1) hx hb dX9_cutWord_105 (by decide) ?_
          refine lv_goto (tgt := 114) hx hb dX9_cutWord_106 (by decide) ?_
          refine va_iast (D := D) (i := (V 6 7)) (x := 1) hx hb hK hP hD hS 9 2 rfl rfl (i_in (a := ((V 6 7)).toInt) rfl (by (first | exact om_1452076f4170 y2 r3.1 | omega))) dX9_cutWord_114 (fun H locs hP hD hS => ?_)
          obtain ⟨V24, hV24⟩ : ∃ z, z = up2 V6 12 (Int32.toNatClampNeg (V 6 7)) 1 := ⟨_, rfl⟩
          have ew25 : (xw ad kk V6 L Z).set 9 ((ad 9), .inl ((kk 9), 4001, .inl (upd (V6 12) (Int32.toNatClampNeg (V 6 7)) 1))) = xw ad kk V24 L Z := by rw [hV24]; exact xw_ss (by decide) rfl (xb_si (by decide))
          have hP : va_P D vwCl (xw ad kk V24 L Z) H := by rw [← ew25]; exact hP
          have hD : va_D A (xw ad kk V24 L Z) := by rw [← ew25]; exact hD
          have hMV24 : rgd bX V24 := hMV6.put hV24 (i_full _)
          have agV24 : agr [(6, 6)] [12, 14] V V24 := agV6.up hV24 rfl
          refine lv_aload_n hx hb dX9_cutWord_115 rfl (lv_at hl 2 rfl) ?_
          refine va_get (D := D) (ci := 9) (v := .ref (ad 11)) (fs := (xfTape ad V24 L Z)) (C := RX9) (T := TX9) (N := 12) hx hb hg inX9 hown hK hP 6 xgTape rfl 4 (by decide) (hg _ w256) (fun _ h9 => h9) rfl dX9_cutWord_116 ?_
          refine lv_aload_n hx hb dX9_cutWord_119 rfl (lv_at hl 2 rfl) ?_
          refine va_get (D := D) (ci := 9) (v := .int (V24 6 7)) (fs := (xfTape ad V24 L Z)) (C := RX9) (T := TX9) (N := 12) hx hb hg inX9 hown hK hP 6 xgTape rfl 7 (by decide) (hg _ w260) (fun _ h9 => h9) rfl dX9_cutWord_120 ?_
          refine g_top (v := (V 6 7)) ((up2_o hV24 (by decide)).trans (ajV6 6 7 rfl)) ?_
          refine lv_lload_n hx hb dX9_cutWord_123 rfl (lv_at hl 0 rfl) ?_
          refine va_last (D := D) (i := (V 6 7)) (x := y4) hx hb hK hP hD hS 11 4 rfl rfl (i_in (a := ((V 6 7)).toInt) rfl (by (first | exact om_1452076f4170 y2 r3.1 | omega))) dX9_cutWord_124 (fun H locs hP hD hS => ?_)
          obtain ⟨L26, hL26⟩ : ∃ z, z = upL L 14 (Int32.toNatClampNeg (V 6 7)) y4 := ⟨_, rfl⟩
          have ew27 : (xw ad kk V24 L Z).set 11 ((ad 11), .inl ((kk 11), 4001, .inr (.inl (vp_updL (L 14) (Int32.toNatClampNeg (V 6 7)) y4)))) = xw ad kk V24 L26 Z := by rw [hL26]; exact xw_ss (by decide) rfl (fun j => xe_L (fun a => absurd a.1 (by decide)))
          have hP : va_P D vwCl (xw ad kk V24 L26 Z) H := by rw [← ew27]; exact hP
          have hD : va_D A (xw ad kk V24 L26 Z) := by rw [← ew27]; exact hD
          have alL26 : agL [14] L L26 := agL.up alL hL26 rfl
          have pq28 : (V24 6 6).toInt = ((V6 6 6)).toInt := congrArg Int32.toInt (up2_o hV24 (by decide))
          have pq29 : (V24 6 5).toInt = ((V 6 5)).toInt := congrArg Int32.toInt ((up2_o hV24 (by decide)).trans (ajV6 6 5 rfl))
          exact W.vret hx hb hr (fun t ht hW => ⟨⟨(V24, L26), rfl, ⟨hMV24, agV24, alL26, (show (V24 6 6).toInt ≤ (V 6 5).toInt from by (first | exact om_35d7f5d544b6 xlp7_0 pq8 pq28 | omega))⟩, by rw [ht]; exact hP, va_K.moved hW.alike hK, hD⟩, hS.F ht⟩) hS.2.2 dX9_cutWord_125
      · skip
        have f30 : ((V6 6 6)).toInt < ((V 6 5)).toInt := b_nle rfl rfl c10
        refine lv_aload_n hx hb dX9_cutWord_15 rfl (lv_at hl 2 rfl) ?_
        refine va_get (D := D) (ci := 9) (v := .ref (ad 7)) (fs := (xfTape ad V6 L Z)) (C := RX9) (T := TX9) (N := 12) hx hb hg inX9 hown hK hP 6 xgTape rfl 0 (by decide) (hg _ w252) (fun _ h9 => h9) rfl dX9_cutWord_16 ?_
        refine lv_aload_n hx hb dX9_cutWord_19 rfl (lv_at hl 2 rfl) ?_
        refine va_get (D := D) (ci := 9) (v := .int (V6 6 6)) (fs := (xfTape ad V6 L Z)) (C := RX9) (T := TX9) (N := 12) hx hb hg inX9 hown hK hP 6 xgTape rfl 6 (by decide) (hg _ w259) (fun _ h9 => h9) rfl dX9_cutWord_20 ?_
        refine va_bald (D := D) (i := (V6 6 6)) hx hb hK hP 7 0 rfl rfl (i_in (a := ((V6 6 6)).toInt) rfl (by (first | exact om_fe2d53c3c384 r1.2 r2.1 klp7_0.1 xlp7_1 f30 | omega))) dX9_cutWord_23 ?_
        refine g_top (v := (V 10 (Int32.toNatClampNeg (V6 6 6)))) (ajV6 10 (Int32.toNatClampNeg (V6 6 6)) rfl) ?_
        refine gE_int (g_runS (As := [.int (V 10 (Int32.toNatClampNeg (V6 6 6)))]) (rest := []) (wc := []) (tc := []) hx hb hml hown hg gw_self hP hD hK hS hA hnw hgk [] [] (by decide) rfl rfl (x_isLetter l D ks H.size (V 10 (Int32.toNatClampNeg (V6 6 6))) ) w780 w781 w157 w782 hdS_yX9_isLetter ⟨Nat.le_of_ble_eq_true rfl, Nat.le_of_ble_eq_true rfl⟩ rfl hl.1 rfl (Nat.le_of_ble_eq_true rfl) dX9_cutWord_24 ⟨Nat.le_of_ble_eq_true rfl, Nat.le_of_ble_eq_true rfl⟩) hP hD hK hS hA (fun z31 u32 H locs w33 hP hD hK hS => ?_)
        have rgz31 := w33
        have rgz31 : 0 ≤ z31.toInt ∧ z31.toInt ≤ 1 := rgz31
        refine lv_if_ne (tgt := 45) hx hb dX9_cutWord_27 (by decide) (fun c34 => ?_) (fun c34 => ?_)
        · skip
          have f35 : z31.toInt ≠ 0 := b_neq rfl (by decide) c34
          refine lv_iload_n hx hb dX9_cutWord_45 rfl (lv_at hl 1 rfl) ?_
          refine lv_bipush (v := 12) hx hb dX9_cutWord_46 (by decide) ?_
          refine lv_icmp_ge (tgt := 73) hx hb dX9_cutWord_48 (by decide) (fun c36 => ?_) (fun c36 => ?_)
          · skip
            have f37 : 12 ≤ y5.toInt := b_le (by decide) rfl c36
            refine lv_lconst (v := 0) hx hb dX9_cutWord_73 (by decide) ?_
            refine lv_lstore_n (lv' := [(2, .long 0), (1, .int y5), (0, .ref (ad 6))]) hx hb dX9_cutWord_74 rfl hl (by decide) rfl (fun ls hl => ?_)
            obtain ⟨z38, ez38⟩ : ∃ y : Int32, y = y5 + 1 := ⟨_, rfl⟩
            have hz38 : z38.toInt = y5.toInt + 1 := i_add ez38 rfl (by decide) (by (first | exact om_89fadfb637be r1.2 r2.1 xlp7_1 f30 f37 | omega))
            refine lv_iinc (v := z38) (lv' := [(1, .int z38), (2, .long 0), (0, .ref (ad 6))]) hx hb dX9_cutWord_75 hl (k := 1) rfl (by rw [ez38]; rfl) (by decide) rfl (fun ls hl => ?_)
            refine lv_aload_n hx hb dX9_cutWord_78 rfl (lv_at hl 2 rfl) ?_
            refine lv_dup hx hb dX9_cutWord_79 rfl ?_
            refine va_get (D := D) (ci := 9) (v := .int (V6 6 6)) (fs := (xfTape ad V6 L Z)) (C := RX9) (T := TX9) (N := 12) hx hb hg inX9 hown hK hP 6 xgTape rfl 6 (by decide) (hg _ w259) (fun _ h9 => h9) rfl dX9_cutWord_80 ?_
            refine lv_iconst (v := 1) hx hb dX9_cutWord_83 (by decide) ?_
            refine lv_iadd hx hb dX9_cutWord_84 ?_
            refine lv_topi (fun z39 ez39 => ?_)
            have hz39 : z39.toInt = ((V6 6 6)).toInt + 1 := i_add ez39 rfl (by decide) (by (first | exact om_5c2f98f06f05 r1.2 r2.1 xlp7_1 f30 f37 | omega))
            refine va_put (D := D) (ci := 9) (v := .int z39) (ty := tyX9 6) (fs := (xfTape ad V6 L Z)) (C := RX9) (T := TX9) (N := 12) hx hb hg inX9 tyX9 tyX9_ok nmX9 hown hK hP hD hS 6 xgTape rfl 6 (by decide) (hg _ w259) (fun _ h9 => h9) rfl (tyX9_ok 6 (by decide)) rfl rfl (Nat.le_of_ble_eq_true rfl) dX9_cutWord_85 (fun H locs hP hD hS => ?_)
            obtain ⟨V40, hV40⟩ : ∃ z, z = up2 V6 6 6 z39 := ⟨_, rfl⟩
            have ew41 : (xw ad kk V6 L Z).set 6 ((ad 6), .inr (9, (xfTape ad V6 L Z).set 6 (.int z39))) = xw ad kk V40 L Z := by rw [hV40]; exact xw_ss (by decide) rfl (xb_si (by decide))
            have hP : va_P D vwCl (xw ad kk V40 L Z) H := by rw [← ew41]; exact hP
            have hD : va_D A (xw ad kk V40 L Z) := by rw [← ew41]; exact hD
            have hMV40 : rgd bX V40 := hMV6.put hV40 (show 0 ≤ z39.toInt ∧ z39.toInt ≤ 4000 from by (first | exact om_a97166e33c63 r1.2 r2.1 xlp7_1 f30 f37 hz39 | omega))
            have agV40 : agr [(6, 6)] [12, 14] V V40 := agV6.up hV40 rfl
            refine lv_goto (tgt := 4) hx hb dX9_cutWord_88 (by decide) ?_
            have pq42 : (V40 6 5).toInt = ((V 6 5)).toInt := congrArg Int32.toInt ((up2_k hV40 (by decide)).trans (ajV6 6 5 rfl))
            have pq43 : (V40 6 6).toInt = z39.toInt := congrArg Int32.toInt (up2_s hV40)
            exact ihlp7 0 z38 V40 H locs ls (by (first | exact om_177415788ef3 r1.2 r2.1 xlp7_1 f30 f37 hz38 | omega)) (show (V40 6 6).toInt ≤ (V40 6 5).toInt from by (first | exact om_1257dc0753d6 f30 hz39 pq42 pq43 | omega)) (show (V 6 6).toInt + z38.toInt = (V40 6 6).toInt from by (first | exact om_662a1892167c xlp7_1 hz38 hz39 pq43 | omega)) (by (first | exact om_91b464413286 hn pq8 hz39 pq42 pq43 | omega)) (agr.up (agr.tr agr.rf ajV6 (by decide) (by decide)) hV40 rfl) hMV40 hP hD hS (lv_sub hl [1, 0, 2] rfl)
          · skip
            have f44 : y5.toInt < 12 := b_nle (by decide) rfl c36
            refine lv_lload_n hx hb dX9_cutWord_51 rfl (lv_at hl 0 rfl) ?_
            refine lv_ldc2 (v := 37) hx hb hown (hg _ w245) dX9_cutWord_52 ?_
            refine lv_lmul hx hb dX9_cutWord_55 ?_
            refine lv_topl (fun w45 ew45 => ?_)
            refine lv_aload_n hx hb dX9_cutWord_56 rfl (lv_at hl 2 rfl) ?_
            refine va_get (D := D) (ci := 9) (v := .ref (ad 7)) (fs := (xfTape ad V6 L Z)) (C := RX9) (T := TX9) (N := 12) hx hb hg inX9 hown hK hP 6 xgTape rfl 0 (by decide) (hg _ w252) (fun _ h9 => h9) rfl dX9_cutWord_57 ?_
            refine lv_aload_n hx hb dX9_cutWord_60 rfl (lv_at hl 2 rfl) ?_
            refine va_get (D := D) (ci := 9) (v := .int (V6 6 6)) (fs := (xfTape ad V6 L Z)) (C := RX9) (T := TX9) (N := 12) hx hb hg inX9 hown hK hP 6 xgTape rfl 6 (by decide) (hg _ w259) (fun _ h9 => h9) rfl dX9_cutWord_61 ?_
            refine va_bald (D := D) (i := (V6 6 6)) hx hb hK hP 7 0 rfl rfl (i_in (a := ((V6 6 6)).toInt) rfl (by (first | exact om_fe2d53c3c384 r1.2 r2.1 klp7_0.1 xlp7_1 f30 | omega))) dX9_cutWord_64 ?_
            refine g_top (v := (V 10 (Int32.toNatClampNeg (V6 6 6)))) (ajV6 10 (Int32.toNatClampNeg (V6 6 6)) rfl) ?_
            refine gE_int (g_runS (As := [.int (V 10 (Int32.toNatClampNeg (V6 6 6)))]) (rest := [.long w45]) (wc := []) (tc := []) hx hb hml hown hg gw_self hP hD hK hS hA hnw hgk [] [] (by decide) rfl rfl (x_codeOf l D ks H.size (V 10 (Int32.toNatClampNeg (V6 6 6))) ) w246 w247 w157 w248 hdS_yX9_codeOf ⟨Nat.le_of_ble_eq_true rfl, Nat.le_of_ble_eq_true rfl⟩ rfl hl.1 rfl (Nat.le_of_ble_eq_true rfl) dX9_cutWord_65 ⟨Nat.le_of_ble_eq_true rfl, Nat.le_of_ble_eq_true rfl⟩) hP hD hK hS hA (fun z46 u47 H locs w48 hP hD hK hS => ?_)
            refine lv_i2l hx hb dX9_cutWord_68 rfl ?_
            refine lv_topl (fun w49 ew49 => ?_)
            refine lv_ladd hx hb dX9_cutWord_69 ?_
            refine lv_topl (fun w50 ew50 => ?_)
            refine lv_goto (tgt := 74) hx hb dX9_cutWord_70 (by decide) ?_
            refine lv_lstore_n (lv' := [(2, .long w50), (1, .int y5), (0, .ref (ad 6))]) hx hb dX9_cutWord_74 rfl hl (by decide) rfl (fun ls hl => ?_)
            obtain ⟨z51, ez51⟩ : ∃ y : Int32, y = y5 + 1 := ⟨_, rfl⟩
            have hz51 : z51.toInt = y5.toInt + 1 := i_add ez51 rfl (by decide) (by (first | exact om_4464765f026c klp7_0.1 f44 | omega))
            refine lv_iinc (v := z51) (lv' := [(1, .int z51), (2, .long w50), (0, .ref (ad 6))]) hx hb dX9_cutWord_75 hl (k := 1) rfl (by rw [ez51]; rfl) (by decide) rfl (fun ls hl => ?_)
            refine lv_aload_n hx hb dX9_cutWord_78 rfl (lv_at hl 2 rfl) ?_
            refine lv_dup hx hb dX9_cutWord_79 rfl ?_
            refine va_get (D := D) (ci := 9) (v := .int (V6 6 6)) (fs := (xfTape ad V6 L Z)) (C := RX9) (T := TX9) (N := 12) hx hb hg inX9 hown hK hP 6 xgTape rfl 6 (by decide) (hg _ w259) (fun _ h9 => h9) rfl dX9_cutWord_80 ?_
            refine lv_iconst (v := 1) hx hb dX9_cutWord_83 (by decide) ?_
            refine lv_iadd hx hb dX9_cutWord_84 ?_
            refine lv_topi (fun z52 ez52 => ?_)
            have hz52 : z52.toInt = ((V6 6 6)).toInt + 1 := i_add ez52 rfl (by decide) (by (first | exact om_41955fcb6566 r1.2 r2.1 klp7_0.1 xlp7_1 f30 | omega))
            refine va_put (D := D) (ci := 9) (v := .int z52) (ty := tyX9 6) (fs := (xfTape ad V6 L Z)) (C := RX9) (T := TX9) (N := 12) hx hb hg inX9 tyX9 tyX9_ok nmX9 hown hK hP hD hS 6 xgTape rfl 6 (by decide) (hg _ w259) (fun _ h9 => h9) rfl (tyX9_ok 6 (by decide)) rfl rfl (Nat.le_of_ble_eq_true rfl) dX9_cutWord_85 (fun H locs hP hD hS => ?_)
            obtain ⟨V53, hV53⟩ : ∃ z, z = up2 V6 6 6 z52 := ⟨_, rfl⟩
            have ew54 : (xw ad kk V6 L Z).set 6 ((ad 6), .inr (9, (xfTape ad V6 L Z).set 6 (.int z52))) = xw ad kk V53 L Z := by rw [hV53]; exact xw_ss (by decide) rfl (xb_si (by decide))
            have hP : va_P D vwCl (xw ad kk V53 L Z) H := by rw [← ew54]; exact hP
            have hD : va_D A (xw ad kk V53 L Z) := by rw [← ew54]; exact hD
            have hMV53 : rgd bX V53 := hMV6.put hV53 (show 0 ≤ z52.toInt ∧ z52.toInt ≤ 4000 from by (first | exact om_5bd73bff3568 r1.2 r2.1 klp7_0.1 xlp7_1 f30 hz52 | omega))
            have agV53 : agr [(6, 6)] [12, 14] V V53 := agV6.up hV53 rfl
            refine lv_goto (tgt := 4) hx hb dX9_cutWord_88 (by decide) ?_
            have pq55 : (V53 6 5).toInt = ((V 6 5)).toInt := congrArg Int32.toInt ((up2_k hV53 (by decide)).trans (ajV6 6 5 rfl))
            have pq56 : (V53 6 6).toInt = z52.toInt := congrArg Int32.toInt (up2_s hV53)
            exact ihlp7 w50 z51 V53 H locs ls (by (first | exact om_b8f281e63d9c klp7_0.1 f44 hz51 | omega)) (show (V53 6 6).toInt ≤ (V53 6 5).toInt from by (first | exact om_1257dc0753d6 f30 hz52 pq55 pq56 | omega)) (show (V 6 6).toInt + z51.toInt = (V53 6 6).toInt from by (first | exact om_662a1892167c xlp7_1 hz51 hz52 pq56 | omega)) (by (first | exact om_91b464413286 hn pq8 hz52 pq55 pq56 | omega)) (agr.up (agr.tr agr.rf ajV6 (by decide) (by decide)) hV53 rfl) hMV53 hP hD hS (lv_sub hl [1, 0, 2] rfl)
        · skip
          have f57 : z31.toInt = 0 := b_eq rfl (by decide) c34
          refine lv_aload_n hx hb dX9_cutWord_30 rfl (lv_at hl 2 rfl) ?_
          refine va_get (D := D) (ci := 9) (v := .ref (ad 7)) (fs := (xfTape ad V6 L Z)) (C := RX9) (T := TX9) (N := 12) hx hb hg inX9 hown hK hP 6 xgTape rfl 0 (by decide) (hg _ w252) (fun _ h9 => h9) rfl dX9_cutWord_31 ?_
          refine lv_aload_n hx hb dX9_cutWord_34 rfl (lv_at hl 2 rfl) ?_
          refine va_get (D := D) (ci := 9) (v := .int (V6 6 6)) (fs := (xfTape ad V6 L Z)) (C := RX9) (T := TX9) (N := 12) hx hb hg inX9 hown hK hP 6 xgTape rfl 6 (by decide) (hg _ w259) (fun _ h9 => h9) rfl dX9_cutWord_35 ?_
          refine va_bald (D := D) (i := (V6 6 6)) hx hb hK hP 7 0 rfl rfl (i_in (a := ((V6 6 6)).toInt) rfl (by (first | exact om_fe2d53c3c384 r1.2 r2.1 klp7_0.1 xlp7_1 f30 | omega))) dX9_cutWord_38 ?_
          refine g_top (v := (V 10 (Int32.toNatClampNeg (V6 6 6)))) (ajV6 10 (Int32.toNatClampNeg (V6 6 6)) rfl) ?_
          refine gE_int (g_runS (As := [.int (V 10 (Int32.toNatClampNeg (V6 6 6)))]) (rest := []) (wc := []) (tc := []) hx hb hml hown hg gw_self hP hD hK hS hA hnw hgk [] [] (by decide) rfl rfl (x_isDigit l D ks H.size (V 10 (Int32.toNatClampNeg (V6 6 6))) ) w249 w250 w157 w251 hdS_yX9_isDigit ⟨Nat.le_of_ble_eq_true rfl, Nat.le_of_ble_eq_true rfl⟩ rfl hl.1 rfl (Nat.le_of_ble_eq_true rfl) dX9_cutWord_39 ⟨Nat.le_of_ble_eq_true rfl, Nat.le_of_ble_eq_true rfl⟩) hP hD hK hS hA (fun z58 u59 H locs w60 hP hD hK hS => ?_)
          have rgz58 := w60
          have rgz58 : 0 ≤ z58.toInt ∧ z58.toInt ≤ 1 := rgz58
          refine lv_if_eq (tgt := 91) hx hb dX9_cutWord_42 (by decide) (fun c61 => ?_) (fun c61 => ?_)
          · skip
            have f62 : z58.toInt = 0 := b_eq rfl (by decide) c61
            refine lv_aload_n hx hb dX9_cutWord_91 rfl (lv_at hl 2 rfl) ?_
            refine va_get (D := D) (ci := 9) (v := .ref (ad 9)) (fs := (xfTape ad V6 L Z)) (C := RX9) (T := TX9) (N := 12) hx hb hg inX9 hown hK hP 6 xgTape rfl 2 (by decide) (hg _ w254) (fun _ h9 => h9) rfl dX9_cutWord_92 ?_
            refine lv_aload_n hx hb dX9_cutWord_95 rfl (lv_at hl 2 rfl) ?_
            refine va_get (D := D) (ci := 9) (v := .int (V6 6 7)) (fs := (xfTape ad V6 L Z)) (C := RX9) (T := TX9) (N := 12) hx hb hg inX9 hown hK hP 6 xgTape rfl 7 (by decide) (hg _ w260) (fun _ h9 => h9) rfl dX9_cutWord_96 ?_
            refine g_top (v := (V 6 7)) (ajV6 6 7 rfl) ?_
            refine lv_iload_n hx hb dX9_cutWord_99 rfl (lv_at hl 1 rfl) ?_
            refine lv_bipush (v := 12) hx hb dX9_cutWord_100 (by decide) ?_
            refine lv_icmp_le (tgt := 109) hx hb dX9_cutWord_102 (by decide) (fun c63 => ?_) (fun c63 => ?_)
            · skip
              have f64 : y5.toInt ≤ 12 := b_le rfl (by decide) c63
              refine lv_aload_n hx hb dX9_cutWord_109 rfl (lv_at hl 2 rfl) ?_
              refine lv_lload_n hx hb dX9_cutWord_110 rfl (lv_at hl 0 rfl) ?_
              refine gA_int (gA_runV (As := [.long y4]) (rest := [.int (V 6 7), .ref (ad 9)]) (ci := 9) (q0 := 6) hx hb hml hown hg hP hD hK hS hA hnw hgk (x_kindOf l D ks H.size ad kk V6 L Z y4 hMV6 ) w787 w789 w3 w157 w790 rfl xgTape hdV_yX9_kindOf ⟨Nat.le_of_ble_eq_true rfl, Nat.le_of_ble_eq_true rfl⟩ rfl hl.1 rfl (Nat.le_of_ble_eq_true rfl) dX9_cutWord_111 ⟨Nat.le_of_ble_eq_true rfl, Nat.le_of_ble_eq_true rfl⟩) hP hD hK hS hA (fun z65 u66 H locs w67 hP hD hK hS => ?_)
              refine va_iast (D := D) (i := (V 6 7)) (x := z65) hx hb hK hP hD hS 9 2 rfl rfl (i_in (a := ((V 6 7)).toInt) rfl (by (first | exact om_1452076f4170 y2 r3.1 | omega))) dX9_cutWord_114 (fun H locs hP hD hS => ?_)
              obtain ⟨V68, hV68⟩ : ∃ z, z = up2 V6 12 (Int32.toNatClampNeg (V 6 7)) z65 := ⟨_, rfl⟩
              have ew69 : (xw ad kk V6 L Z).set 9 ((ad 9), .inl ((kk 9), 4001, .inl (upd (V6 12) (Int32.toNatClampNeg (V 6 7)) z65))) = xw ad kk V68 L Z := by rw [hV68]; exact xw_ss (by decide) rfl (xb_si (by decide))
              have hP : va_P D vwCl (xw ad kk V68 L Z) H := by rw [← ew69]; exact hP
              have hD : va_D A (xw ad kk V68 L Z) := by rw [← ew69]; exact hD
              have hMV68 : rgd bX V68 := hMV6.put hV68 (i_full _)
              have agV68 : agr [(6, 6)] [12, 14] V V68 := agV6.up hV68 rfl
              refine lv_aload_n hx hb dX9_cutWord_115 rfl (lv_at hl 2 rfl) ?_
              refine va_get (D := D) (ci := 9) (v := .ref (ad 11)) (fs := (xfTape ad V68 L Z)) (C := RX9) (T := TX9) (N := 12) hx hb hg inX9 hown hK hP 6 xgTape rfl 4 (by decide) (hg _ w256) (fun _ h9 => h9) rfl dX9_cutWord_116 ?_
              refine lv_aload_n hx hb dX9_cutWord_119 rfl (lv_at hl 2 rfl) ?_
              refine va_get (D := D) (ci := 9) (v := .int (V68 6 7)) (fs := (xfTape ad V68 L Z)) (C := RX9) (T := TX9) (N := 12) hx hb hg inX9 hown hK hP 6 xgTape rfl 7 (by decide) (hg _ w260) (fun _ h9 => h9) rfl dX9_cutWord_120 ?_
              refine g_top (v := (V 6 7)) ((up2_o hV68 (by decide)).trans (ajV6 6 7 rfl)) ?_
              refine lv_lload_n hx hb dX9_cutWord_123 rfl (lv_at hl 0 rfl) ?_
              refine va_last (D := D) (i := (V 6 7)) (x := y4) hx hb hK hP hD hS 11 4 rfl rfl (i_in (a := ((V 6 7)).toInt) rfl (by (first | exact om_1452076f4170 y2 r3.1 | omega))) dX9_cutWord_124 (fun H locs hP hD hS => ?_)
              obtain ⟨L70, hL70⟩ : ∃ z, z = upL L 14 (Int32.toNatClampNeg (V 6 7)) y4 := ⟨_, rfl⟩
              have ew71 : (xw ad kk V68 L Z).set 11 ((ad 11), .inl ((kk 11), 4001, .inr (.inl (vp_updL (L 14) (Int32.toNatClampNeg (V 6 7)) y4)))) = xw ad kk V68 L70 Z := by rw [hL70]; exact xw_ss (by decide) rfl (fun j => xe_L (fun a => absurd a.1 (by decide)))
              have hP : va_P D vwCl (xw ad kk V68 L70 Z) H := by rw [← ew71]; exact hP
              have hD : va_D A (xw ad kk V68 L70 Z) := by rw [← ew71]; exact hD
              have alL70 : agL [14] L L70 := agL.up alL hL70 rfl
              have pq72 : (V68 6 6).toInt = ((V6 6 6)).toInt := congrArg Int32.toInt (up2_o hV68 (by decide))
              have pq73 : (V68 6 5).toInt = ((V 6 5)).toInt := congrArg Int32.toInt ((up2_o hV68 (by decide)).trans (ajV6 6 5 rfl))
              exact W.vret hx hb hr (fun t ht hW => ⟨⟨(V68, L70), rfl, ⟨hMV68, agV68, alL70, (show (V68 6 6).toInt ≤ (V 6 5).toInt from by (first | exact om_8bafb22e6d91 f30 pq72 | omega))⟩, by rw [ht]; exact hP, va_K.moved hW.alike hK, hD⟩, hS.F ht⟩) hS.2.2 dX9_cutWord_125
            · skip
              have f74 : 12 < y5.toInt := b_nle rfl (by decide) c63
              refine lv_iconst (v := 1) hx hb dX9_cutWord_105 (by decide) ?_
              refine lv_goto (tgt := 114) hx hb dX9_cutWord_106 (by decide) ?_
              refine va_iast (D := D) (i := (V 6 7)) (x := 1) hx hb hK hP hD hS 9 2 rfl rfl (i_in (a := ((V 6 7)).toInt) rfl (by (first | exact om_1452076f4170 y2 r3.1 | omega))) dX9_cutWord_114 (fun H locs hP hD hS => ?_)
              obtain ⟨V75, hV75⟩ : ∃ z, z = up2 V6 12 (Int32.toNatClampNeg (V 6 7)) 1 := ⟨_, rfl⟩
              have ew76 : (xw ad kk V6 L Z).set 9 ((ad 9), .inl ((kk 9), 4001, .inl (upd (V6 12) (Int32.toNatClampNeg (V 6 7)) 1))) = xw ad kk V75 L Z := by rw [hV75]; exact xw_ss (by decide) rfl (xb_si (by decide))
              have hP : va_P D vwCl (xw ad kk V75 L Z) H := by rw [← ew76]; exact hP
              have hD : va_D A (xw ad kk V75 L Z) := by rw [← ew76]; exact hD
              have hMV75 : rgd bX V75 := hMV6.put hV75 (i_full _)
              have agV75 : agr [(6, 6)] [12, 14] V V75 := agV6.up hV75 rfl
              refine lv_aload_n hx hb dX9_cutWord_115 rfl (lv_at hl 2 rfl) ?_
              refine va_get (D := D) (ci := 9) (v := .ref (ad 11)) (fs := (xfTape ad V75 L Z)) (C := RX9) (T := TX9) (N := 12) hx hb hg inX9 hown hK hP 6 xgTape rfl 4 (by decide) (hg _ w256) (fun _ h9 => h9) rfl dX9_cutWord_116 ?_
              refine lv_aload_n hx hb dX9_cutWord_119 rfl (lv_at hl 2 rfl) ?_
              refine va_get (D := D) (ci := 9) (v := .int (V75 6 7)) (fs := (xfTape ad V75 L Z)) (C := RX9) (T := TX9) (N := 12) hx hb hg inX9 hown hK hP 6 xgTape rfl 7 (by decide) (hg _ w260) (fun _ h9 => h9) rfl dX9_cutWord_120 ?_
              refine g_top (v := (V 6 7)) ((up2_o hV75 (by decide)).trans (ajV6 6 7 rfl)) ?_
              refine lv_lload_n hx hb dX9_cutWord_123 rfl (lv_at hl 0 rfl) ?_
              refine va_last (D := D) (i := (V 6 7)) (x := y4) hx hb hK hP hD hS 11 4 rfl rfl (i_in (a := ((V 6 7)).toInt) rfl (by (first | exact om_1452076f4170 y2 r3.1 | omega))) dX9_cutWord_124 (fun H locs hP hD hS => ?_)
              obtain ⟨L77, hL77⟩ : ∃ z, z = upL L 14 (Int32.toNatClampNeg (V 6 7)) y4 := ⟨_, rfl⟩
              have ew78 : (xw ad kk V75 L Z).set 11 ((ad 11), .inl ((kk 11), 4001, .inr (.inl (vp_updL (L 14) (Int32.toNatClampNeg (V 6 7)) y4)))) = xw ad kk V75 L77 Z := by rw [hL77]; exact xw_ss (by decide) rfl (fun j => xe_L (fun a => absurd a.1 (by decide)))
              have hP : va_P D vwCl (xw ad kk V75 L77 Z) H := by rw [← ew78]; exact hP
              have hD : va_D A (xw ad kk V75 L77 Z) := by rw [← ew78]; exact hD
              have alL77 : agL [14] L L77 := agL.up alL hL77 rfl
              have pq79 : (V75 6 6).toInt = ((V6 6 6)).toInt := congrArg Int32.toInt (up2_o hV75 (by decide))
              have pq80 : (V75 6 5).toInt = ((V 6 5)).toInt := congrArg Int32.toInt ((up2_o hV75 (by decide)).trans (ajV6 6 5 rfl))
              exact W.vret hx hb hr (fun t ht hW => ⟨⟨(V75, L77), rfl, ⟨hMV75, agV75, alL77, (show (V75 6 6).toInt ≤ (V 6 5).toInt from by (first | exact om_8bafb22e6d91 f30 pq79 | omega))⟩, by rw [ht]; exact hP, va_K.moved hW.alike hK, hD⟩, hS.F ht⟩) hS.2.2 dX9_cutWord_125
          · skip
            have f81 : z58.toInt ≠ 0 := b_neq rfl (by decide) c61
            refine lv_iload_n hx hb dX9_cutWord_45 rfl (lv_at hl 1 rfl) ?_
            refine lv_bipush (v := 12) hx hb dX9_cutWord_46 (by decide) ?_
            refine lv_icmp_ge (tgt := 73) hx hb dX9_cutWord_48 (by decide) (fun c82 => ?_) (fun c82 => ?_)
            · skip
              have f83 : 12 ≤ y5.toInt := b_le (by decide) rfl c82
              refine lv_lconst (v := 0) hx hb dX9_cutWord_73 (by decide) ?_
              refine lv_lstore_n (lv' := [(2, .long 0), (1, .int y5), (0, .ref (ad 6))]) hx hb dX9_cutWord_74 rfl hl (by decide) rfl (fun ls hl => ?_)
              obtain ⟨z84, ez84⟩ : ∃ y : Int32, y = y5 + 1 := ⟨_, rfl⟩
              have hz84 : z84.toInt = y5.toInt + 1 := i_add ez84 rfl (by decide) (by (first | exact om_89fadfb637be r1.2 r2.1 xlp7_1 f30 f83 | omega))
              refine lv_iinc (v := z84) (lv' := [(1, .int z84), (2, .long 0), (0, .ref (ad 6))]) hx hb dX9_cutWord_75 hl (k := 1) rfl (by rw [ez84]; rfl) (by decide) rfl (fun ls hl => ?_)
              refine lv_aload_n hx hb dX9_cutWord_78 rfl (lv_at hl 2 rfl) ?_
              refine lv_dup hx hb dX9_cutWord_79 rfl ?_
              refine va_get (D := D) (ci := 9) (v := .int (V6 6 6)) (fs := (xfTape ad V6 L Z)) (C := RX9) (T := TX9) (N := 12) hx hb hg inX9 hown hK hP 6 xgTape rfl 6 (by decide) (hg _ w259) (fun _ h9 => h9) rfl dX9_cutWord_80 ?_
              refine lv_iconst (v := 1) hx hb dX9_cutWord_83 (by decide) ?_
              refine lv_iadd hx hb dX9_cutWord_84 ?_
              refine lv_topi (fun z85 ez85 => ?_)
              have hz85 : z85.toInt = ((V6 6 6)).toInt + 1 := i_add ez85 rfl (by decide) (by (first | exact om_5c2f98f06f05 r1.2 r2.1 xlp7_1 f30 f83 | omega))
              refine va_put (D := D) (ci := 9) (v := .int z85) (ty := tyX9 6) (fs := (xfTape ad V6 L Z)) (C := RX9) (T := TX9) (N := 12) hx hb hg inX9 tyX9 tyX9_ok nmX9 hown hK hP hD hS 6 xgTape rfl 6 (by decide) (hg _ w259) (fun _ h9 => h9) rfl (tyX9_ok 6 (by decide)) rfl rfl (Nat.le_of_ble_eq_true rfl) dX9_cutWord_85 (fun H locs hP hD hS => ?_)
              obtain ⟨V86, hV86⟩ : ∃ z, z = up2 V6 6 6 z85 := ⟨_, rfl⟩
              have ew87 : (xw ad kk V6 L Z).set 6 ((ad 6), .inr (9, (xfTape ad V6 L Z).set 6 (.int z85))) = xw ad kk V86 L Z := by rw [hV86]; exact xw_ss (by decide) rfl (xb_si (by decide))
              have hP : va_P D vwCl (xw ad kk V86 L Z) H := by rw [← ew87]; exact hP
              have hD : va_D A (xw ad kk V86 L Z) := by rw [← ew87]; exact hD
              have hMV86 : rgd bX V86 := hMV6.put hV86 (show 0 ≤ z85.toInt ∧ z85.toInt ≤ 4000 from by (first | exact om_a97166e33c63 r1.2 r2.1 xlp7_1 f30 f83 hz85 | omega))
              have agV86 : agr [(6, 6)] [12, 14] V V86 := agV6.up hV86 rfl
              refine lv_goto (tgt := 4) hx hb dX9_cutWord_88 (by decide) ?_
              have pq88 : (V86 6 5).toInt = ((V 6 5)).toInt := congrArg Int32.toInt ((up2_k hV86 (by decide)).trans (ajV6 6 5 rfl))
              have pq89 : (V86 6 6).toInt = z85.toInt := congrArg Int32.toInt (up2_s hV86)
              exact ihlp7 0 z84 V86 H locs ls (by (first | exact om_177415788ef3 r1.2 r2.1 xlp7_1 f30 f83 hz84 | omega)) (show (V86 6 6).toInt ≤ (V86 6 5).toInt from by (first | exact om_1257dc0753d6 f30 hz85 pq88 pq89 | omega)) (show (V 6 6).toInt + z84.toInt = (V86 6 6).toInt from by (first | exact om_662a1892167c xlp7_1 hz84 hz85 pq89 | omega)) (by (first | exact om_91b464413286 hn pq8 hz85 pq88 pq89 | omega)) (agr.up (agr.tr agr.rf ajV6 (by decide) (by decide)) hV86 rfl) hMV86 hP hD hS (lv_sub hl [1, 0, 2] rfl)
            · skip
              have f90 : y5.toInt < 12 := b_nle (by decide) rfl c82
              refine lv_lload_n hx hb dX9_cutWord_51 rfl (lv_at hl 0 rfl) ?_
              refine lv_ldc2 (v := 37) hx hb hown (hg _ w245) dX9_cutWord_52 ?_
              refine lv_lmul hx hb dX9_cutWord_55 ?_
              refine lv_topl (fun w91 ew91 => ?_)
              refine lv_aload_n hx hb dX9_cutWord_56 rfl (lv_at hl 2 rfl) ?_
              refine va_get (D := D) (ci := 9) (v := .ref (ad 7)) (fs := (xfTape ad V6 L Z)) (C := RX9) (T := TX9) (N := 12) hx hb hg inX9 hown hK hP 6 xgTape rfl 0 (by decide) (hg _ w252) (fun _ h9 => h9) rfl dX9_cutWord_57 ?_
              refine lv_aload_n hx hb dX9_cutWord_60 rfl (lv_at hl 2 rfl) ?_
              refine va_get (D := D) (ci := 9) (v := .int (V6 6 6)) (fs := (xfTape ad V6 L Z)) (C := RX9) (T := TX9) (N := 12) hx hb hg inX9 hown hK hP 6 xgTape rfl 6 (by decide) (hg _ w259) (fun _ h9 => h9) rfl dX9_cutWord_61 ?_
              refine va_bald (D := D) (i := (V6 6 6)) hx hb hK hP 7 0 rfl rfl (i_in (a := ((V6 6 6)).toInt) rfl (by (first | exact om_fe2d53c3c384 r1.2 r2.1 klp7_0.1 xlp7_1 f30 | omega))) dX9_cutWord_64 ?_
              refine g_top (v := (V 10 (Int32.toNatClampNeg (V6 6 6)))) (ajV6 10 (Int32.toNatClampNeg (V6 6 6)) rfl) ?_
              refine gE_int (g_runS (As := [.int (V 10 (Int32.toNatClampNeg (V6 6 6)))]) (rest := [.long w91]) (wc := []) (tc := []) hx hb hml hown hg gw_self hP hD hK hS hA hnw hgk [] [] (by decide) rfl rfl (x_codeOf l D ks H.size (V 10 (Int32.toNatClampNeg (V6 6 6))) ) w246 w247 w157 w248 hdS_yX9_codeOf ⟨Nat.le_of_ble_eq_true rfl, Nat.le_of_ble_eq_true rfl⟩ rfl hl.1 rfl (Nat.le_of_ble_eq_true rfl) dX9_cutWord_65 ⟨Nat.le_of_ble_eq_true rfl, Nat.le_of_ble_eq_true rfl⟩) hP hD hK hS hA (fun z92 u93 H locs w94 hP hD hK hS => ?_)
              refine lv_i2l hx hb dX9_cutWord_68 rfl ?_
              refine lv_topl (fun w95 ew95 => ?_)
              refine lv_ladd hx hb dX9_cutWord_69 ?_
              refine lv_topl (fun w96 ew96 => ?_)
              refine lv_goto (tgt := 74) hx hb dX9_cutWord_70 (by decide) ?_
              refine lv_lstore_n (lv' := [(2, .long w96), (1, .int y5), (0, .ref (ad 6))]) hx hb dX9_cutWord_74 rfl hl (by decide) rfl (fun ls hl => ?_)
              obtain ⟨z97, ez97⟩ : ∃ y : Int32, y = y5 + 1 := ⟨_, rfl⟩
              have hz97 : z97.toInt = y5.toInt + 1 := i_add ez97 rfl (by decide) (by (first | exact om_4464765f026c klp7_0.1 f90 | omega))
              refine lv_iinc (v := z97) (lv' := [(1, .int z97), (2, .long w96), (0, .ref (ad 6))]) hx hb dX9_cutWord_75 hl (k := 1) rfl (by rw [ez97]; rfl) (by decide) rfl (fun ls hl => ?_)
              refine lv_aload_n hx hb dX9_cutWord_78 rfl (lv_at hl 2 rfl) ?_
              refine lv_dup hx hb dX9_cutWord_79 rfl ?_
              refine va_get (D := D) (ci := 9) (v := .int (V6 6 6)) (fs := (xfTape ad V6 L Z)) (C := RX9) (T := TX9) (N := 12) hx hb hg inX9 hown hK hP 6 xgTape rfl 6 (by decide) (hg _ w259) (fun _ h9 => h9) rfl dX9_cutWord_80 ?_
              refine lv_iconst (v := 1) hx hb dX9_cutWord_83 (by decide) ?_
              refine lv_iadd hx hb dX9_cutWord_84 ?_
              refine lv_topi (fun z98 ez98 => ?_)
              have hz98 : z98.toInt = ((V6 6 6)).toInt + 1 := i_add ez98 rfl (by decide) (by (first | exact om_41955fcb6566 r1.2 r2.1 klp7_0.1 xlp7_1 f30 | omega))
              refine va_put (D := D) (ci := 9) (v := .int z98) (ty := tyX9 6) (fs := (xfTape ad V6 L Z)) (C := RX9) (T := TX9) (N := 12) hx hb hg inX9 tyX9 tyX9_ok nmX9 hown hK hP hD hS 6 xgTape rfl 6 (by decide) (hg _ w259) (fun _ h9 => h9) rfl (tyX9_ok 6 (by decide)) rfl rfl (Nat.le_of_ble_eq_true rfl) dX9_cutWord_85 (fun H locs hP hD hS => ?_)
              obtain ⟨V99, hV99⟩ : ∃ z, z = up2 V6 6 6 z98 := ⟨_, rfl⟩
              have ew100 : (xw ad kk V6 L Z).set 6 ((ad 6), .inr (9, (xfTape ad V6 L Z).set 6 (.int z98))) = xw ad kk V99 L Z := by rw [hV99]; exact xw_ss (by decide) rfl (xb_si (by decide))
              have hP : va_P D vwCl (xw ad kk V99 L Z) H := by rw [← ew100]; exact hP
              have hD : va_D A (xw ad kk V99 L Z) := by rw [← ew100]; exact hD
              have hMV99 : rgd bX V99 := hMV6.put hV99 (show 0 ≤ z98.toInt ∧ z98.toInt ≤ 4000 from by (first | exact om_5bd73bff3568 r1.2 r2.1 klp7_0.1 xlp7_1 f30 hz98 | omega))
              have agV99 : agr [(6, 6)] [12, 14] V V99 := agV6.up hV99 rfl
              refine lv_goto (tgt := 4) hx hb dX9_cutWord_88 (by decide) ?_
              have pq101 : (V99 6 5).toInt = ((V 6 5)).toInt := congrArg Int32.toInt ((up2_k hV99 (by decide)).trans (ajV6 6 5 rfl))
              have pq102 : (V99 6 6).toInt = z98.toInt := congrArg Int32.toInt (up2_s hV99)
              exact ihlp7 w96 z97 V99 H locs ls (by (first | exact om_b8f281e63d9c klp7_0.1 f90 hz97 | omega)) (show (V99 6 6).toInt ≤ (V99 6 5).toInt from by (first | exact om_1257dc0753d6 f30 hz98 pq101 pq102 | omega)) (show (V 6 6).toInt + z97.toInt = (V99 6 6).toInt from by (first | exact om_662a1892167c xlp7_1 hz97 hz98 pq102 | omega)) (by (first | exact om_91b464413286 hn pq8 hz98 pq101 pq102 | omega)) (agr.up (agr.tr agr.rf ajV6 (by decide) (by decide)) hV99 rfl) hMV99 hP hD hS (lv_sub hl [1, 0, 2] rfl)
  have r103 : Int32.toInt 0 = 0 := by decide
  exact lp7 (((V 6 5).toInt - (V 6 6).toInt + 1 : Int).toNat) 0 0 V H locs ls (by decide) (show (V 6 6).toInt ≤ (V 6 5).toInt from by (first | exact om_f4906d00fa52 y1 | omega)) (show (V 6 6).toInt + (Int32.toInt 0) = (V 6 6).toInt from by (first | exact om_85baa6bcbf4d r103 | omega)) (by (first | exact om_7441a7786481 | omega)) agr.rf hMV hP hD hS (lv_sub hl [0, 1, 2] rfl)
abbrev r_x_cut : Room := { frames := 4, cells := 0, slots := 0, locals := 91 }
abbrev q_x_cut (D : va_G) (ks : KS) (ad : Nat → Nat) (kk : Nat → ClassId) (V : Vf) (L : Lf) (Z : XZ) (A : Nat → Prop) : Array Value → State → Outcome → State → Prop := va_Qv (fun (u : Vf × Lf) => rgd bX u.1 ∧ agr [(6, 6), (6, 7)] [12, 13, 14] V u.1 ∧ agL [14] L u.2 ∧ ((u.1 6 6).toInt ≤ (u.1 6 5).toInt) ∧ ((u.1 6 7).toInt = (V 6 7).toInt + 1)) (fun u t => gq D A (xw ad kk u.1 u.2 Z) (xty kk Z) t) A
set_option maxHeartbeats 4000000 in
set_option maxRecDepth 100000 in
theorem x_cut (l : Launch) (D : va_G) (ks : KS) (sz : Nat) (ad : Nat → Nat) (kk : Nat → ClassId) (V : Vf) (L : Lf) (Z : XZ)  (hMV : rgd bX V) (y1 : (V 6 6).toInt < (V 6 5).toInt) (y2 : (V 6 7).toInt ≤ 3999)  : Met l yX9_cut (Cond.code yX9_cut cX9_cut 2 none :: GW) r_x_cut (va_Pc [.ref (ad 6)] (gp D ks (xw ad kk V L Z) (xty kk Z) sz)) (q_x_cut D ks ad kk V L Z  (va_A (xw ad kk V L Z) sz)) 0 0 (va_A (xw ad kk V L Z) sz) := by
  refine g_met (q_x_cut D ks ad kk V L Z) (by decide) (Nat.le_of_ble_eq_true rfl) ?_
  intro p e s m below meth c A ls H locs hx hb hr hml hown hg hlocks hin hnw hgk hP hK hD hS hA hl
  have hown : s.vm.findClass RX9 = some m.cls := hown
  have hl : lv_has ls 2 [(0, .ref (ad 6))] := hl
  have hP : va_P D vwCl (xw ad kk V L Z) H := hP
  have hD : va_D A (xw ad kk V L Z) := hD
  have hK : va_K D vwCl (xty kk Z) s := hK
  have agV : agr [(6, 6), (6, 7)] [12, 13, 14] V V := agr.rf
  have alL : agL [14] L L := agL.rf
  have r1 : 0 ≤ ((V 6 5)).toInt ∧ ((V 6 5)).toInt ≤ 4000 := hMV 6 5
  have r2 : 0 ≤ ((V 6 6)).toInt ∧ ((V 6 6)).toInt ≤ 4000 := hMV 6 6
  have r3 : 0 ≤ ((V 6 7)).toInt ∧ ((V 6 7)).toInt ≤ 4000 := hMV 6 7
  refine lv_aload_n hx hb dX9_cut_0 rfl (lv_at hl 0 rfl) ?_
  refine va_get (D := D) (ci := 9) (v := .ref (ad 7)) (fs := (xfTape ad V L Z)) (C := RX9) (T := TX9) (N := 12) hx hb hg inX9 hown hK hP 6 xgTape rfl 0 (by decide) (hg _ w252) (fun _ h9 => h9) rfl dX9_cut_1 ?_
  refine lv_aload_n hx hb dX9_cut_4 rfl (lv_at hl 0 rfl) ?_
  refine va_get (D := D) (ci := 9) (v := .int (V 6 6)) (fs := (xfTape ad V L Z)) (C := RX9) (T := TX9) (N := 12) hx hb hg inX9 hown hK hP 6 xgTape rfl 6 (by decide) (hg _ w259) (fun _ h9 => h9) rfl dX9_cut_5 ?_
  refine va_bald (D := D) (i := (V 6 6)) hx hb hK hP 7 0 rfl rfl (i_in (a := ((V 6 6)).toInt) rfl (by (first | exact om_22b8d629e40e y1 r1.2 r2.1 | omega))) dX9_cut_8 ?_
  refine lv_istore_n (lv' := [(1, .int (V 10 (Int32.toNatClampNeg (V 6 6)))), (0, .ref (ad 6))]) hx hb dX9_cut_9 rfl hl (by decide) rfl (fun ls hl => ?_)
  refine lv_aload_n hx hb dX9_cut_10 rfl (lv_at hl 1 rfl) ?_
  refine va_get (D := D) (ci := 9) (v := .ref (ad 10)) (fs := (xfTape ad V L Z)) (C := RX9) (T := TX9) (N := 12) hx hb hg inX9 hown hK hP 6 xgTape rfl 3 (by decide) (hg _ w255) (fun _ h9 => h9) rfl dX9_cut_11 ?_
  refine lv_aload_n hx hb dX9_cut_14 rfl (lv_at hl 1 rfl) ?_
  refine va_get (D := D) (ci := 9) (v := .int (V 6 7)) (fs := (xfTape ad V L Z)) (C := RX9) (T := TX9) (N := 12) hx hb hg inX9 hown hK hP 6 xgTape rfl 7 (by decide) (hg _ w260) (fun _ h9 => h9) rfl dX9_cut_15 ?_
  refine lv_aload_n hx hb dX9_cut_18 rfl (lv_at hl 1 rfl) ?_
  refine va_get (D := D) (ci := 9) (v := .int (V 6 6)) (fs := (xfTape ad V L Z)) (C := RX9) (T := TX9) (N := 12) hx hb hg inX9 hown hK hP 6 xgTape rfl 6 (by decide) (hg _ w259) (fun _ h9 => h9) rfl dX9_cut_19 ?_
  refine va_iast (D := D) (i := (V 6 7)) (x := (V 6 6)) hx hb hK hP hD hS 10 3 rfl rfl (i_in (a := ((V 6 7)).toInt) rfl (by (first | exact om_1452076f4170 y2 r3.1 | omega))) dX9_cut_22 (fun H locs hP hD hS => ?_)
  obtain ⟨V4, hV4⟩ : ∃ z, z = up2 V 13 (Int32.toNatClampNeg (V 6 7)) (V 6 6) := ⟨_, rfl⟩
  have ew5 : (xw ad kk V L Z).set 10 ((ad 10), .inl ((kk 10), 4001, .inl (upd (V 13) (Int32.toNatClampNeg (V 6 7)) (V 6 6)))) = xw ad kk V4 L Z := by rw [hV4]; exact xw_ss (by decide) rfl (xb_si (by decide))
  have hP : va_P D vwCl (xw ad kk V4 L Z) H := by rw [← ew5]; exact hP
  have hD : va_D A (xw ad kk V4 L Z) := by rw [← ew5]; exact hD
  have hMV4 : rgd bX V4 := hMV.put hV4 (show 0 ≤ ((V 6 6)).toInt ∧ ((V 6 6)).toInt ≤ 4000 from by (first | exact om_17779d3d27a1 y1 r1.2 r2.1 | omega))
  have agV4 : agr [(6, 6), (6, 7)] [12, 13, 14] V V4 := agV.up hV4 rfl
  refine lv_aload_n hx hb dX9_cut_23 rfl (lv_at hl 1 rfl) ?_
  refine va_get (D := D) (ci := 9) (v := .ref (ad 11)) (fs := (xfTape ad V4 L Z)) (C := RX9) (T := TX9) (N := 12) hx hb hg inX9 hown hK hP 6 xgTape rfl 4 (by decide) (hg _ w256) (fun _ h9 => h9) rfl dX9_cut_24 ?_
  refine lv_aload_n hx hb dX9_cut_27 rfl (lv_at hl 1 rfl) ?_
  refine va_get (D := D) (ci := 9) (v := .int (V4 6 7)) (fs := (xfTape ad V4 L Z)) (C := RX9) (T := TX9) (N := 12) hx hb hg inX9 hown hK hP 6 xgTape rfl 7 (by decide) (hg _ w260) (fun _ h9 => h9) rfl dX9_cut_28 ?_
  refine g_top (v := (V 6 7)) (up2_o hV4 (by decide)) ?_
  refine lv_lconst (v := 0) hx hb dX9_cut_31 (by decide) ?_
  refine va_last (D := D) (i := (V 6 7)) (x := 0) hx hb hK hP hD hS 11 4 rfl rfl (i_in (a := ((V 6 7)).toInt) rfl (by (first | exact om_1452076f4170 y2 r3.1 | omega))) dX9_cut_32 (fun H locs hP hD hS => ?_)
  obtain ⟨L6, hL6⟩ : ∃ z, z = upL L 14 (Int32.toNatClampNeg (V 6 7)) 0 := ⟨_, rfl⟩
  have ew7 : (xw ad kk V4 L Z).set 11 ((ad 11), .inl ((kk 11), 4001, .inr (.inl (vp_updL (L 14) (Int32.toNatClampNeg (V 6 7)) 0)))) = xw ad kk V4 L6 Z := by rw [hL6]; exact xw_ss (by decide) rfl (fun j => xe_L (fun a => absurd a.1 (by decide)))
  have hP : va_P D vwCl (xw ad kk V4 L6 Z) H := by rw [← ew7]; exact hP
  have hD : va_D A (xw ad kk V4 L6 Z) := by rw [← ew7]; exact hD
  have alL6 : agL [14] L L6 := agL.up alL hL6 rfl
  refine lv_iload_n hx hb dX9_cut_33 rfl (lv_at hl 0 rfl) ?_
  refine gE_int (g_runS (As := [.int (V 10 (Int32.toNatClampNeg (V 6 6)))]) (rest := []) (wc := []) (tc := []) hx hb hml hown hg gw_self hP hD hK hS hA hnw hgk [] [] (by decide) rfl rfl (x_isDigit l D ks H.size (V 10 (Int32.toNatClampNeg (V 6 6))) ) w249 w250 w157 w251 hdS_yX9_isDigit ⟨Nat.le_of_ble_eq_true rfl, Nat.le_of_ble_eq_true rfl⟩ rfl hl.1 rfl (Nat.le_of_ble_eq_true rfl) dX9_cut_34 ⟨Nat.le_of_ble_eq_true rfl, Nat.le_of_ble_eq_true rfl⟩) hP hD hK hS hA (fun z8 u9 H locs w10 hP hD hK hS => ?_)
  have rgz8 := w10
  have rgz8 : 0 ≤ z8.toInt ∧ z8.toInt ≤ 1 := rgz8
  refine lv_if_eq (tgt := 47) hx hb dX9_cut_37 (by decide) (fun c11 => ?_) (fun c11 => ?_)
  · skip
    have f12 : z8.toInt = 0 := b_eq rfl (by decide) c11
    refine lv_iload_n hx hb dX9_cut_47 rfl (lv_at hl 0 rfl) ?_
    refine gE_int (g_runS (As := [.int (V 10 (Int32.toNatClampNeg (V 6 6)))]) (rest := []) (wc := []) (tc := []) hx hb hml hown hg gw_self hP hD hK hS hA hnw hgk [] [] (by decide) rfl rfl (x_isLetter l D ks H.size (V 10 (Int32.toNatClampNeg (V 6 6))) ) w780 w781 w157 w782 hdS_yX9_isLetter ⟨Nat.le_of_ble_eq_true rfl, Nat.le_of_ble_eq_true rfl⟩ rfl hl.1 rfl (Nat.le_of_ble_eq_true rfl) dX9_cut_48 ⟨Nat.le_of_ble_eq_true rfl, Nat.le_of_ble_eq_true rfl⟩) hP hD hK hS hA (fun z13 u14 H locs w15 hP hD hK hS => ?_)
    have rgz13 := w15
    have rgz13 : 0 ≤ z13.toInt ∧ z13.toInt ≤ 1 := rgz13
    refine lv_if_eq (tgt := 61) hx hb dX9_cut_51 (by decide) (fun c16 => ?_) (fun c16 => ?_)
    · skip
      have f17 : z13.toInt = 0 := b_eq rfl (by decide) c16
      refine lv_aload_n hx hb dX9_cut_61 rfl (lv_at hl 1 rfl) ?_
      refine va_get (D := D) (ci := 9) (v := .ref (ad 9)) (fs := (xfTape ad V4 L6 Z)) (C := RX9) (T := TX9) (N := 12) hx hb hg inX9 hown hK hP 6 xgTape rfl 2 (by decide) (hg _ w254) (fun _ h9 => h9) rfl dX9_cut_62 ?_
      refine lv_aload_n hx hb dX9_cut_65 rfl (lv_at hl 1 rfl) ?_
      refine va_get (D := D) (ci := 9) (v := .int (V4 6 7)) (fs := (xfTape ad V4 L6 Z)) (C := RX9) (T := TX9) (N := 12) hx hb hg inX9 hown hK hP 6 xgTape rfl 7 (by decide) (hg _ w260) (fun _ h9 => h9) rfl dX9_cut_66 ?_
      refine g_top (v := (V 6 7)) (up2_o hV4 (by decide)) ?_
      refine va_ldcS hx hb hown hgk.2.2.2.2.2.2 dX9_cut_69 ?_
      refine lv_iload_n hx hb dX9_cut_71 rfl (lv_at hl 0 rfl) ?_
      refine lv_i2c hx hb dX9_cut_72 rfl ?_
      refine lv_topi (fun z18 ez18 => ?_)
      refine gE_int (g_runW (As := [.int z18]) (rest := [.int (V 6 7), .ref (ad 9)]) (wc := []) (tc := []) (C := RJ0) hx hb hml hown hg gw_self hP hD hK hS hA hnw hgk [] [] (by decide) rfl rfl (c_sg_index l D ks H.size z18) w792 w793 w794 w158 w795 (vk_recv (i := 0) hgk.2.2.2.2.2.1 (by decide) hS) hdV_yJ0_indexOf_0f7a4 ⟨Nat.le_of_ble_eq_true rfl, Nat.le_of_ble_eq_true rfl⟩ rfl hl.1 rfl (Nat.le_of_ble_eq_true rfl) dX9_cut_73 ⟨Nat.le_of_ble_eq_true rfl, Nat.le_of_ble_eq_true rfl⟩) hP hD hK hS hA (fun z19 u20 H locs w21 hP hD hK hS => ?_)
      refine lv_if_lt (tgt := 83) hx hb dX9_cut_76 (by decide) (fun c22 => ?_) (fun c22 => ?_)
      · skip
        have f23 : z19.toInt < 0 := b_lt rfl (by decide) c22
        refine lv_iconst (v := 1) hx hb dX9_cut_83 (by decide) ?_
        refine va_iast (D := D) (i := (V 6 7)) (x := 1) hx hb hK hP hD hS 9 2 rfl rfl (i_in (a := ((V 6 7)).toInt) rfl (by (first | exact om_1452076f4170 y2 r3.1 | omega))) dX9_cut_84 (fun H locs hP hD hS => ?_)
        obtain ⟨V24, hV24⟩ : ∃ z, z = up2 V4 12 (Int32.toNatClampNeg (V 6 7)) 1 := ⟨_, rfl⟩
        have ew25 : (xw ad kk V4 L6 Z).set 9 ((ad 9), .inl ((kk 9), 4001, .inl (upd (V4 12) (Int32.toNatClampNeg (V 6 7)) 1))) = xw ad kk V24 L6 Z := by rw [hV24]; exact xw_ss (by decide) rfl (xb_si (by decide))
        have hP : va_P D vwCl (xw ad kk V24 L6 Z) H := by rw [← ew25]; exact hP
        have hD : va_D A (xw ad kk V24 L6 Z) := by rw [← ew25]; exact hD
        have hMV24 : rgd bX V24 := hMV4.put hV24 (i_full _)
        have agV24 : agr [(6, 6), (6, 7)] [12, 13, 14] V V24 := agV4.up hV24 rfl
        refine lv_aload_n hx hb dX9_cut_85 rfl (lv_at hl 1 rfl) ?_
        refine lv_dup hx hb dX9_cut_86 rfl ?_
        refine va_get (D := D) (ci := 9) (v := .int (V24 6 6)) (fs := (xfTape ad V24 L6 Z)) (C := RX9) (T := TX9) (N := 12) hx hb hg inX9 hown hK hP 6 xgTape rfl 6 (by decide) (hg _ w259) (fun _ h9 => h9) rfl dX9_cut_87 ?_
        refine g_top (v := (V 6 6)) ((up2_o hV24 (by decide)).trans (up2_o hV4 (by decide))) ?_
        refine lv_iconst (v := 1) hx hb dX9_cut_90 (by decide) ?_
        refine lv_iadd hx hb dX9_cut_91 ?_
        refine lv_topi (fun z26 ez26 => ?_)
        have hz26 : z26.toInt = ((V 6 6)).toInt + 1 := i_add ez26 rfl (by decide) (by (first | exact om_f4a62807000a y1 r1.2 r2.1 | omega))
        refine va_put (D := D) (ci := 9) (v := .int z26) (ty := tyX9 6) (fs := (xfTape ad V24 L6 Z)) (C := RX9) (T := TX9) (N := 12) hx hb hg inX9 tyX9 tyX9_ok nmX9 hown hK hP hD hS 6 xgTape rfl 6 (by decide) (hg _ w259) (fun _ h9 => h9) rfl (tyX9_ok 6 (by decide)) rfl rfl (Nat.le_of_ble_eq_true rfl) dX9_cut_92 (fun H locs hP hD hS => ?_)
        obtain ⟨V27, hV27⟩ : ∃ z, z = up2 V24 6 6 z26 := ⟨_, rfl⟩
        have ew28 : (xw ad kk V24 L6 Z).set 6 ((ad 6), .inr (9, (xfTape ad V24 L6 Z).set 6 (.int z26))) = xw ad kk V27 L6 Z := by rw [hV27]; exact xw_ss (by decide) rfl (xb_si (by decide))
        have hP : va_P D vwCl (xw ad kk V27 L6 Z) H := by rw [← ew28]; exact hP
        have hD : va_D A (xw ad kk V27 L6 Z) := by rw [← ew28]; exact hD
        have hMV27 : rgd bX V27 := hMV24.put hV27 (show 0 ≤ z26.toInt ∧ z26.toInt ≤ 4000 from by (first | exact om_79968e91715f y1 r1.2 r2.1 hz26 | omega))
        have agV27 : agr [(6, 6), (6, 7)] [12, 13, 14] V V27 := agV24.up hV27 rfl
        refine lv_aload_n hx hb dX9_cut_95 rfl (lv_at hl 1 rfl) ?_
        refine lv_dup hx hb dX9_cut_96 rfl ?_
        refine va_get (D := D) (ci := 9) (v := .int (V27 6 7)) (fs := (xfTape ad V27 L6 Z)) (C := RX9) (T := TX9) (N := 12) hx hb hg inX9 hown hK hP 6 xgTape rfl 7 (by decide) (hg _ w260) (fun _ h9 => h9) rfl dX9_cut_97 ?_
        refine g_top (v := (V 6 7)) ((up2_k hV27 (by decide)).trans ((up2_o hV24 (by decide)).trans (up2_o hV4 (by decide)))) ?_
        refine lv_iconst (v := 1) hx hb dX9_cut_100 (by decide) ?_
        refine lv_iadd hx hb dX9_cut_101 ?_
        refine lv_topi (fun z29 ez29 => ?_)
        have hz29 : z29.toInt = ((V 6 7)).toInt + 1 := i_add ez29 rfl (by decide) (by (first | exact om_8e750d289af3 y2 r3.1 | omega))
        refine va_put (D := D) (ci := 9) (v := .int z29) (ty := tyX9 7) (fs := (xfTape ad V27 L6 Z)) (C := RX9) (T := TX9) (N := 12) hx hb hg inX9 tyX9 tyX9_ok nmX9 hown hK hP hD hS 6 xgTape rfl 7 (by decide) (hg _ w260) (fun _ h9 => h9) rfl (tyX9_ok 7 (by decide)) rfl rfl (Nat.le_of_ble_eq_true rfl) dX9_cut_102 (fun H locs hP hD hS => ?_)
        obtain ⟨V30, hV30⟩ : ∃ z, z = up2 V27 6 7 z29 := ⟨_, rfl⟩
        have ew31 : (xw ad kk V27 L6 Z).set 6 ((ad 6), .inr (9, (xfTape ad V27 L6 Z).set 7 (.int z29))) = xw ad kk V30 L6 Z := by rw [hV30]; exact xw_ss (by decide) rfl (xb_si (by decide))
        have hP : va_P D vwCl (xw ad kk V30 L6 Z) H := by rw [← ew31]; exact hP
        have hD : va_D A (xw ad kk V30 L6 Z) := by rw [← ew31]; exact hD
        have hMV30 : rgd bX V30 := hMV27.put hV30 (show 0 ≤ z29.toInt ∧ z29.toInt ≤ 4000 from by (first | exact om_71db763616c9 y2 r3.1 hz29 | omega))
        have agV30 : agr [(6, 6), (6, 7)] [12, 13, 14] V V30 := agV27.up hV30 rfl
        have pq32 : (V30 6 5).toInt = ((V 6 5)).toInt := congrArg Int32.toInt ((up2_k hV30 (by decide)).trans ((up2_k hV27 (by decide)).trans ((up2_o hV24 (by decide)).trans (up2_o hV4 (by decide)))))
        have pq33 : (V30 6 6).toInt = z26.toInt := congrArg Int32.toInt ((up2_k hV30 (by decide)).trans (up2_s hV27))
        have pq34 : (V30 6 7).toInt = z29.toInt := congrArg Int32.toInt (up2_s hV30)
        exact W.vret hx hb hr (fun t ht hW => ⟨⟨(V30, L6), rfl, ⟨hMV30, agV30, alL6, (show (V30 6 6).toInt ≤ (V30 6 5).toInt from by (first | exact om_1257dc0753d6 y1 hz26 pq32 pq33 | omega)), (show (V30 6 7).toInt = (V 6 7).toInt + 1 from by (first | exact om_689eeacb6d53 hz29 pq34 | omega))⟩, by rw [ht]; exact hP, va_K.moved hW.alike hK, hD⟩, hS.F ht⟩) hS.2.2 dX9_cut_105
      · skip
        have f35 : 0 ≤ z19.toInt := b_nlt rfl (by decide) c22
        refine lv_iload_n hx hb dX9_cut_79 rfl (lv_at hl 0 rfl) ?_
        refine lv_goto (tgt := 84) hx hb dX9_cut_80 (by decide) ?_
        refine va_iast (D := D) (i := (V 6 7)) (x := (V 10 (Int32.toNatClampNeg (V 6 6)))) hx hb hK hP hD hS 9 2 rfl rfl (i_in (a := ((V 6 7)).toInt) rfl (by (first | exact om_1452076f4170 y2 r3.1 | omega))) dX9_cut_84 (fun H locs hP hD hS => ?_)
        obtain ⟨V36, hV36⟩ : ∃ z, z = up2 V4 12 (Int32.toNatClampNeg (V 6 7)) (V 10 (Int32.toNatClampNeg (V 6 6))) := ⟨_, rfl⟩
        have ew37 : (xw ad kk V4 L6 Z).set 9 ((ad 9), .inl ((kk 9), 4001, .inl (upd (V4 12) (Int32.toNatClampNeg (V 6 7)) (V 10 (Int32.toNatClampNeg (V 6 6)))))) = xw ad kk V36 L6 Z := by rw [hV36]; exact xw_ss (by decide) rfl (xb_si (by decide))
        have hP : va_P D vwCl (xw ad kk V36 L6 Z) H := by rw [← ew37]; exact hP
        have hD : va_D A (xw ad kk V36 L6 Z) := by rw [← ew37]; exact hD
        have hMV36 : rgd bX V36 := hMV4.put hV36 (i_full _)
        have agV36 : agr [(6, 6), (6, 7)] [12, 13, 14] V V36 := agV4.up hV36 rfl
        refine lv_aload_n hx hb dX9_cut_85 rfl (lv_at hl 1 rfl) ?_
        refine lv_dup hx hb dX9_cut_86 rfl ?_
        refine va_get (D := D) (ci := 9) (v := .int (V36 6 6)) (fs := (xfTape ad V36 L6 Z)) (C := RX9) (T := TX9) (N := 12) hx hb hg inX9 hown hK hP 6 xgTape rfl 6 (by decide) (hg _ w259) (fun _ h9 => h9) rfl dX9_cut_87 ?_
        refine g_top (v := (V 6 6)) ((up2_o hV36 (by decide)).trans (up2_o hV4 (by decide))) ?_
        refine lv_iconst (v := 1) hx hb dX9_cut_90 (by decide) ?_
        refine lv_iadd hx hb dX9_cut_91 ?_
        refine lv_topi (fun z38 ez38 => ?_)
        have hz38 : z38.toInt = ((V 6 6)).toInt + 1 := i_add ez38 rfl (by decide) (by (first | exact om_f4a62807000a y1 r1.2 r2.1 | omega))
        refine va_put (D := D) (ci := 9) (v := .int z38) (ty := tyX9 6) (fs := (xfTape ad V36 L6 Z)) (C := RX9) (T := TX9) (N := 12) hx hb hg inX9 tyX9 tyX9_ok nmX9 hown hK hP hD hS 6 xgTape rfl 6 (by decide) (hg _ w259) (fun _ h9 => h9) rfl (tyX9_ok 6 (by decide)) rfl rfl (Nat.le_of_ble_eq_true rfl) dX9_cut_92 (fun H locs hP hD hS => ?_)
        obtain ⟨V39, hV39⟩ : ∃ z, z = up2 V36 6 6 z38 := ⟨_, rfl⟩
        have ew40 : (xw ad kk V36 L6 Z).set 6 ((ad 6), .inr (9, (xfTape ad V36 L6 Z).set 6 (.int z38))) = xw ad kk V39 L6 Z := by rw [hV39]; exact xw_ss (by decide) rfl (xb_si (by decide))
        have hP : va_P D vwCl (xw ad kk V39 L6 Z) H := by rw [← ew40]; exact hP
        have hD : va_D A (xw ad kk V39 L6 Z) := by rw [← ew40]; exact hD
        have hMV39 : rgd bX V39 := hMV36.put hV39 (show 0 ≤ z38.toInt ∧ z38.toInt ≤ 4000 from by (first | exact om_79968e91715f y1 r1.2 r2.1 hz38 | omega))
        have agV39 : agr [(6, 6), (6, 7)] [12, 13, 14] V V39 := agV36.up hV39 rfl
        refine lv_aload_n hx hb dX9_cut_95 rfl (lv_at hl 1 rfl) ?_
        refine lv_dup hx hb dX9_cut_96 rfl ?_
        refine va_get (D := D) (ci := 9) (v := .int (V39 6 7)) (fs := (xfTape ad V39 L6 Z)) (C := RX9) (T := TX9) (N := 12) hx hb hg inX9 hown hK hP 6 xgTape rfl 7 (by decide) (hg _ w260) (fun _ h9 => h9) rfl dX9_cut_97 ?_
        refine g_top (v := (V 6 7)) ((up2_k hV39 (by decide)).trans ((up2_o hV36 (by decide)).trans (up2_o hV4 (by decide)))) ?_
        refine lv_iconst (v := 1) hx hb dX9_cut_100 (by decide) ?_
        refine lv_iadd hx hb dX9_cut_101 ?_
        refine lv_topi (fun z41 ez41 => ?_)
        have hz41 : z41.toInt = ((V 6 7)).toInt + 1 := i_add ez41 rfl (by decide) (by (first | exact om_8e750d289af3 y2 r3.1 | omega))
        refine va_put (D := D) (ci := 9) (v := .int z41) (ty := tyX9 7) (fs := (xfTape ad V39 L6 Z)) (C := RX9) (T := TX9) (N := 12) hx hb hg inX9 tyX9 tyX9_ok nmX9 hown hK hP hD hS 6 xgTape rfl 7 (by decide) (hg _ w260) (fun _ h9 => h9) rfl (tyX9_ok 7 (by decide)) rfl rfl (Nat.le_of_ble_eq_true rfl) dX9_cut_102 (fun H locs hP hD hS => ?_)
        obtain ⟨V42, hV42⟩ : ∃ z, z = up2 V39 6 7 z41 := ⟨_, rfl⟩
        have ew43 : (xw ad kk V39 L6 Z).set 6 ((ad 6), .inr (9, (xfTape ad V39 L6 Z).set 7 (.int z41))) = xw ad kk V42 L6 Z := by rw [hV42]; exact xw_ss (by decide) rfl (xb_si (by decide))
        have hP : va_P D vwCl (xw ad kk V42 L6 Z) H := by rw [← ew43]; exact hP
        have hD : va_D A (xw ad kk V42 L6 Z) := by rw [← ew43]; exact hD
        have hMV42 : rgd bX V42 := hMV39.put hV42 (show 0 ≤ z41.toInt ∧ z41.toInt ≤ 4000 from by (first | exact om_71db763616c9 y2 r3.1 hz41 | omega))
        have agV42 : agr [(6, 6), (6, 7)] [12, 13, 14] V V42 := agV39.up hV42 rfl
        have pq44 : (V42 6 5).toInt = ((V 6 5)).toInt := congrArg Int32.toInt ((up2_k hV42 (by decide)).trans ((up2_k hV39 (by decide)).trans ((up2_o hV36 (by decide)).trans (up2_o hV4 (by decide)))))
        have pq45 : (V42 6 6).toInt = z38.toInt := congrArg Int32.toInt ((up2_k hV42 (by decide)).trans (up2_s hV39))
        have pq46 : (V42 6 7).toInt = z41.toInt := congrArg Int32.toInt (up2_s hV42)
        exact W.vret hx hb hr (fun t ht hW => ⟨⟨(V42, L6), rfl, ⟨hMV42, agV42, alL6, (show (V42 6 6).toInt ≤ (V42 6 5).toInt from by (first | exact om_1257dc0753d6 y1 hz38 pq44 pq45 | omega)), (show (V42 6 7).toInt = (V 6 7).toInt + 1 from by (first | exact om_689eeacb6d53 hz41 pq46 | omega))⟩, by rw [ht]; exact hP, va_K.moved hW.alike hK, hD⟩, hS.F ht⟩) hS.2.2 dX9_cut_105
    · skip
      have f47 : z13.toInt ≠ 0 := b_neq rfl (by decide) c16
      refine lv_aload_n hx hb dX9_cut_54 rfl (lv_at hl 1 rfl) ?_
      have pq48 : (V4 6 5).toInt = ((V 6 5)).toInt := congrArg Int32.toInt (up2_o hV4 (by decide))
      have pq49 : (V4 6 6).toInt = ((V 6 6)).toInt := congrArg Int32.toInt (up2_o hV4 (by decide))
      have pq50 : (V4 6 7).toInt = ((V 6 7)).toInt := congrArg Int32.toInt (up2_o hV4 (by decide))
      refine gA_void (gA_runV (As := []) (rest := []) (ci := 9) (q0 := 6) hx hb hml hown hg hP hD hK hS hA hnw hgk (x_cutWord l D ks H.size ad kk V4 L6 Z  hMV4 (show (V4 6 6).toInt ≤ (V4 6 5).toInt from by (first | exact om_9edbb4e0d932 y1 pq48 pq49 | omega)) (show (V4 6 7).toInt ≤ 3999 from by (first | exact om_cca9797ede8c y2 pq50 | omega))) w783 w785 w2 w157 w786 rfl xgTape hdV_yX9_cutWord ⟨Nat.le_of_ble_eq_true rfl, Nat.le_of_ble_eq_true rfl⟩ rfl hl.1 rfl (Nat.le_of_ble_eq_true rfl) dX9_cut_55 ⟨Nat.le_of_ble_eq_true rfl, Nat.le_of_ble_eq_true rfl⟩) hP hD hK hS hA (fun u52 H locs w53 hP hD hK hS => ?_)
      obtain ⟨V55, L56⟩ := u52
      obtain ⟨hMV55, ajV55, axL56, t54⟩ := w53
      have alL56 : agL [14] L L56 := agL.tr alL6 axL56 (by decide)
      have hP : va_P D vwCl (xw ad kk V55 L56 Z) H := hP
      have hD : va_D A (xw ad kk V55 L56 Z) := hD
      have hMV55 : rgd bX V55 := hMV55
      have ajV55 : agr [(6, 6)] [12, 14] V4 V55 := ajV55
      have agV55 : agr [(6, 6), (6, 7)] [12, 13, 14] V V55 := agV4.tr ajV55 (by decide) (by decide)
      have t54 : (V55 6 6).toInt ≤ (V4 6 5).toInt := t54
      have r57 : 0 ≤ ((V55 6 6)).toInt ∧ ((V55 6 6)).toInt ≤ 4000 := hMV55 6 6
      refine lv_goto (tgt := 95) hx hb dX9_cut_58 (by decide) ?_
      refine lv_aload_n hx hb dX9_cut_95 rfl (lv_at hl 1 rfl) ?_
      refine lv_dup hx hb dX9_cut_96 rfl ?_
      refine va_get (D := D) (ci := 9) (v := .int (V55 6 7)) (fs := (xfTape ad V55 L56 Z)) (C := RX9) (T := TX9) (N := 12) hx hb hg inX9 hown hK hP 6 xgTape rfl 7 (by decide) (hg _ w260) (fun _ h9 => h9) rfl dX9_cut_97 ?_
      refine g_top (v := (V 6 7)) ((ajV55 6 7 rfl).trans (up2_o hV4 (by decide))) ?_
      refine lv_iconst (v := 1) hx hb dX9_cut_100 (by decide) ?_
      refine lv_iadd hx hb dX9_cut_101 ?_
      refine lv_topi (fun z58 ez58 => ?_)
      have hz58 : z58.toInt = ((V 6 7)).toInt + 1 := i_add ez58 rfl (by decide) (by (first | exact om_8e750d289af3 y2 r3.1 | omega))
      refine va_put (D := D) (ci := 9) (v := .int z58) (ty := tyX9 7) (fs := (xfTape ad V55 L56 Z)) (C := RX9) (T := TX9) (N := 12) hx hb hg inX9 tyX9 tyX9_ok nmX9 hown hK hP hD hS 6 xgTape rfl 7 (by decide) (hg _ w260) (fun _ h9 => h9) rfl (tyX9_ok 7 (by decide)) rfl rfl (Nat.le_of_ble_eq_true rfl) dX9_cut_102 (fun H locs hP hD hS => ?_)
      obtain ⟨V59, hV59⟩ : ∃ z, z = up2 V55 6 7 z58 := ⟨_, rfl⟩
      have ew60 : (xw ad kk V55 L56 Z).set 6 ((ad 6), .inr (9, (xfTape ad V55 L56 Z).set 7 (.int z58))) = xw ad kk V59 L56 Z := by rw [hV59]; exact xw_ss (by decide) rfl (xb_si (by decide))
      have hP : va_P D vwCl (xw ad kk V59 L56 Z) H := by rw [← ew60]; exact hP
      have hD : va_D A (xw ad kk V59 L56 Z) := by rw [← ew60]; exact hD
      have hMV59 : rgd bX V59 := hMV55.put hV59 (show 0 ≤ z58.toInt ∧ z58.toInt ≤ 4000 from by (first | exact om_71db763616c9 y2 r3.1 hz58 | omega))
      have agV59 : agr [(6, 6), (6, 7)] [12, 13, 14] V V59 := agV55.up hV59 rfl
      have pq61 : (V59 6 5).toInt = ((V 6 5)).toInt := congrArg Int32.toInt ((up2_k hV59 (by decide)).trans ((ajV55 6 5 rfl).trans (up2_o hV4 (by decide))))
      have pq62 : (V59 6 6).toInt = ((V55 6 6)).toInt := congrArg Int32.toInt (up2_k hV59 (by decide))
      have pq63 : (V59 6 7).toInt = z58.toInt := congrArg Int32.toInt (up2_s hV59)
      exact W.vret hx hb hr (fun t ht hW => ⟨⟨(V59, L56), rfl, ⟨hMV59, agV59, alL56, (show (V59 6 6).toInt ≤ (V59 6 5).toInt from by (first | exact om_76c50b47cb99 pq48 t54 pq61 pq62 | omega)), (show (V59 6 7).toInt = (V 6 7).toInt + 1 from by (first | exact om_689eeacb6d53 hz58 pq63 | omega))⟩, by rw [ht]; exact hP, va_K.moved hW.alike hK, hD⟩, hS.F ht⟩) hS.2.2 dX9_cut_105
  · skip
    have f64 : z8.toInt ≠ 0 := b_neq rfl (by decide) c11
    refine lv_aload_n hx hb dX9_cut_40 rfl (lv_at hl 1 rfl) ?_
    have pq65 : (V4 6 5).toInt = ((V 6 5)).toInt := congrArg Int32.toInt (up2_o hV4 (by decide))
    have pq66 : (V4 6 6).toInt = ((V 6 6)).toInt := congrArg Int32.toInt (up2_o hV4 (by decide))
    have pq67 : (V4 6 7).toInt = ((V 6 7)).toInt := congrArg Int32.toInt (up2_o hV4 (by decide))
    refine gA_void (gA_runV (As := []) (rest := []) (ci := 9) (q0 := 6) hx hb hml hown hg hP hD hK hS hA hnw hgk (x_cutNumber l D ks H.size ad kk V4 L6 Z  hMV4 (show (V4 6 6).toInt ≤ (V4 6 5).toInt from by (first | exact om_9edbb4e0d932 y1 pq65 pq66 | omega)) (show (V4 6 7).toInt < (V4 6 6).toInt ∨ (V4 6 7).toInt ≤ 3999 from by (first | exact om_76c9463e9d48 y2 pq67 | omega))) w774 w776 w1 w157 w777 rfl xgTape hdV_yX9_cutNumber ⟨Nat.le_of_ble_eq_true rfl, Nat.le_of_ble_eq_true rfl⟩ rfl hl.1 rfl (Nat.le_of_ble_eq_true rfl) dX9_cut_41 ⟨Nat.le_of_ble_eq_true rfl, Nat.le_of_ble_eq_true rfl⟩) hP hD hK hS hA (fun u69 H locs w70 hP hD hK hS => ?_)
    obtain ⟨V73, L74⟩ := u69
    obtain ⟨hMV73, ajV73, axL74, t71, t72⟩ := w70
    have alL74 : agL [14] L L74 := agL.tr alL6 axL74 (by decide)
    have hP : va_P D vwCl (xw ad kk V73 L74 Z) H := hP
    have hD : va_D A (xw ad kk V73 L74 Z) := hD
    have hMV73 : rgd bX V73 := hMV73
    have ajV73 : agr [(6, 6)] [12, 14] V4 V73 := ajV73
    have agV73 : agr [(6, 6), (6, 7)] [12, 13, 14] V V73 := agV4.tr ajV73 (by decide) (by decide)
    have t71 : (V73 6 6).toInt ≤ (V4 6 5).toInt := t71
    have t72 : (V4 6 6).toInt ≤ (V73 6 6).toInt := t72
    have r75 : 0 ≤ ((V73 6 6)).toInt ∧ ((V73 6 6)).toInt ≤ 4000 := hMV73 6 6
    refine lv_goto (tgt := 95) hx hb dX9_cut_44 (by decide) ?_
    refine lv_aload_n hx hb dX9_cut_95 rfl (lv_at hl 1 rfl) ?_
    refine lv_dup hx hb dX9_cut_96 rfl ?_
    refine va_get (D := D) (ci := 9) (v := .int (V73 6 7)) (fs := (xfTape ad V73 L74 Z)) (C := RX9) (T := TX9) (N := 12) hx hb hg inX9 hown hK hP 6 xgTape rfl 7 (by decide) (hg _ w260) (fun _ h9 => h9) rfl dX9_cut_97 ?_
    refine g_top (v := (V 6 7)) ((ajV73 6 7 rfl).trans (up2_o hV4 (by decide))) ?_
    refine lv_iconst (v := 1) hx hb dX9_cut_100 (by decide) ?_
    refine lv_iadd hx hb dX9_cut_101 ?_
    refine lv_topi (fun z76 ez76 => ?_)
    have hz76 : z76.toInt = ((V 6 7)).toInt + 1 := i_add ez76 rfl (by decide) (by (first | exact om_8e750d289af3 y2 r3.1 | omega))
    refine va_put (D := D) (ci := 9) (v := .int z76) (ty := tyX9 7) (fs := (xfTape ad V73 L74 Z)) (C := RX9) (T := TX9) (N := 12) hx hb hg inX9 tyX9 tyX9_ok nmX9 hown hK hP hD hS 6 xgTape rfl 7 (by decide) (hg _ w260) (fun _ h9 => h9) rfl (tyX9_ok 7 (by decide)) rfl rfl (Nat.le_of_ble_eq_true rfl) dX9_cut_102 (fun H locs hP hD hS => ?_)
    obtain ⟨V77, hV77⟩ : ∃ z, z = up2 V73 6 7 z76 := ⟨_, rfl⟩
    have ew78 : (xw ad kk V73 L74 Z).set 6 ((ad 6), .inr (9, (xfTape ad V73 L74 Z).set 7 (.int z76))) = xw ad kk V77 L74 Z := by rw [hV77]; exact xw_ss (by decide) rfl (xb_si (by decide))
    have hP : va_P D vwCl (xw ad kk V77 L74 Z) H := by rw [← ew78]; exact hP
    have hD : va_D A (xw ad kk V77 L74 Z) := by rw [← ew78]; exact hD
    have hMV77 : rgd bX V77 := hMV73.put hV77 (show 0 ≤ z76.toInt ∧ z76.toInt ≤ 4000 from by (first | exact om_71db763616c9 y2 r3.1 hz76 | omega))
    have agV77 : agr [(6, 6), (6, 7)] [12, 13, 14] V V77 := agV73.up hV77 rfl
    have pq79 : (V77 6 5).toInt = ((V 6 5)).toInt := congrArg Int32.toInt ((up2_k hV77 (by decide)).trans ((ajV73 6 5 rfl).trans (up2_o hV4 (by decide))))
    have pq80 : (V77 6 6).toInt = ((V73 6 6)).toInt := congrArg Int32.toInt (up2_k hV77 (by decide))
    have pq81 : (V77 6 7).toInt = z76.toInt := congrArg Int32.toInt (up2_s hV77)
    exact W.vret hx hb hr (fun t ht hW => ⟨⟨(V77, L74), rfl, ⟨hMV77, agV77, alL74, (show (V77 6 6).toInt ≤ (V77 6 5).toInt from by (first | exact om_76c50b47cb99 pq65 t71 pq79 pq80 | omega)), (show (V77 6 7).toInt = (V 6 7).toInt + 1 from by (first | exact om_689eeacb6d53 hz76 pq81 | omega))⟩, by rw [ht]; exact hP, va_K.moved hW.alike hK, hD⟩, hS.F ht⟩) hS.2.2 dX9_cut_105
abbrev r_x_begin : Room := { frames := 5, cells := 0, slots := 0, locals := 112 }
abbrev q_x_begin (D : va_G) (ks : KS) (ad : Nat → Nat) (kk : Nat → ClassId) (V : Vf) (L : Lf) (Z : XZ) (A : Nat → Prop) : Array Value → State → Outcome → State → Prop := va_Qv (fun (u : Vf × Lf) => rgd bX u.1 ∧ agr [(6, 6), (6, 7), (6, 8), (6, 9), (6, 10)] [12, 13, 14] V u.1 ∧ agL [6, 14] L u.2) (fun u t => gq D A (xw ad kk u.1 u.2 Z) (xty kk Z) t) A
set_option maxHeartbeats 4000000 in
set_option maxRecDepth 100000 in
theorem x_begin (l : Launch) (D : va_G) (ks : KS) (sz : Nat) (ad : Nat → Nat) (kk : Nat → ClassId) (V : Vf) (L : Lf) (Z : XZ)  (hMV : rgd bX V)  : Met l yX9_begin (Cond.code yX9_begin cX9_begin 2 none :: GW) r_x_begin (va_Pc [.ref (ad 6)] (gp D ks (xw ad kk V L Z) (xty kk Z) sz)) (q_x_begin D ks ad kk V L Z  (va_A (xw ad kk V L Z) sz)) 0 0 (va_A (xw ad kk V L Z) sz) := by
  refine g_met (q_x_begin D ks ad kk V L Z) (by decide) (Nat.le_of_ble_eq_true rfl) ?_
  intro p e s m below meth c A ls H locs hx hb hr hml hown hg hlocks hin hnw hgk hP hK hD hS hA hl
  have hown : s.vm.findClass RX9 = some m.cls := hown
  have hl : lv_has ls 2 [(0, .ref (ad 6))] := hl
  have hP : va_P D vwCl (xw ad kk V L Z) H := hP
  have hD : va_D A (xw ad kk V L Z) := hD
  have hK : va_K D vwCl (xty kk Z) s := hK
  have agV : agr [(6, 6), (6, 7), (6, 8), (6, 9), (6, 10)] [12, 13, 14] V V := agr.rf
  have alL : agL [6, 14] L L := agL.rf
  refine lv_aload_n hx hb dX9_begin_0 rfl (lv_at hl 0 rfl) ?_
  refine lv_iconst (v := 0) hx hb dX9_begin_1 (by decide) ?_
  refine va_put (D := D) (ci := 9) (v := .int 0) (ty := tyX9 6) (fs := (xfTape ad V L Z)) (C := RX9) (T := TX9) (N := 12) hx hb hg inX9 tyX9 tyX9_ok nmX9 hown hK hP hD hS 6 xgTape rfl 6 (by decide) (hg _ w259) (fun _ h9 => h9) rfl (tyX9_ok 6 (by decide)) rfl rfl (Nat.le_of_ble_eq_true rfl) dX9_begin_2 (fun H locs hP hD hS => ?_)
  obtain ⟨V1, hV1⟩ : ∃ z, z = up2 V 6 6 0 := ⟨_, rfl⟩
  have ew2 : (xw ad kk V L Z).set 6 ((ad 6), .inr (9, (xfTape ad V L Z).set 6 (.int 0))) = xw ad kk V1 L Z := by rw [hV1]; exact xw_ss (by decide) rfl (xb_si (by decide))
  have hP : va_P D vwCl (xw ad kk V1 L Z) H := by rw [← ew2]; exact hP
  have hD : va_D A (xw ad kk V1 L Z) := by rw [← ew2]; exact hD
  have hMV1 : rgd bX V1 := hMV.put hV1 (by decide)
  have agV1 : agr [(6, 6), (6, 7), (6, 8), (6, 9), (6, 10)] [12, 13, 14] V V1 := agV.up hV1 rfl
  refine lv_aload_n hx hb dX9_begin_5 rfl (lv_at hl 0 rfl) ?_
  refine lv_iconst (v := 0) hx hb dX9_begin_6 (by decide) ?_
  refine va_put (D := D) (ci := 9) (v := .int 0) (ty := tyX9 7) (fs := (xfTape ad V1 L Z)) (C := RX9) (T := TX9) (N := 12) hx hb hg inX9 tyX9 tyX9_ok nmX9 hown hK hP hD hS 6 xgTape rfl 7 (by decide) (hg _ w260) (fun _ h9 => h9) rfl (tyX9_ok 7 (by decide)) rfl rfl (Nat.le_of_ble_eq_true rfl) dX9_begin_7 (fun H locs hP hD hS => ?_)
  obtain ⟨V3, hV3⟩ : ∃ z, z = up2 V1 6 7 0 := ⟨_, rfl⟩
  have ew4 : (xw ad kk V1 L Z).set 6 ((ad 6), .inr (9, (xfTape ad V1 L Z).set 7 (.int 0))) = xw ad kk V3 L Z := by rw [hV3]; exact xw_ss (by decide) rfl (xb_si (by decide))
  have hP : va_P D vwCl (xw ad kk V3 L Z) H := by rw [← ew4]; exact hP
  have hD : va_D A (xw ad kk V3 L Z) := by rw [← ew4]; exact hD
  have hMV3 : rgd bX V3 := hMV1.put hV3 (by decide)
  have agV3 : agr [(6, 6), (6, 7), (6, 8), (6, 9), (6, 10)] [12, 13, 14] V V3 := agV1.up hV3 rfl
  refine lv_iconst (v := 0) hx hb dX9_begin_10 (by decide) ?_
  refine lv_istore_n (lv' := [(1, .int 0), (0, .ref (ad 6))]) hx hb dX9_begin_11 rfl hl (by decide) rfl (fun ls hl => ?_)
  have lp8 : ∀ (fulp8 : Nat) (y5 : Int32) (V6 : Vf) (L7 : Lf) (H : Heap) (locs : List Loc) (ls : Array Slot), 0 ≤ y5.toInt ∧ y5.toInt ≤ 4000 → (V6 6 6).toInt ≤ (V6 6 5).toInt → (V6 6 7).toInt ≤ y5.toInt → 4000 - y5.toInt < (fulp8 : Int) → agL [6, 14] L L7 → agr [(6, 6), (6, 7)] [12, 13, 14] V3 V6 → rgd bX V6 → va_P D vwCl (xw ad kk V6 L7 Z) H → va_D A (xw ad kk V6 L7 Z) → va_S A s.heap H locs → lv_has ls 2 [(1, .int y5), (0, .ref (ad 6))] → W p l e r_x_begin s m ([.ref (ad 6)] : List Value).toArray below meth c H locs 0 0 (MQ below (q_x_begin D ks ad kk V L Z  A) ([.ref (ad 6)] : List Value).toArray s 0 0 A) (F0 m 12 ls []) := by
    intro fulp8
    induction fulp8 with
    | zero =>
      intro y5 V6 L7 H locs ls klp8_0 xlp8_0 xlp8_1 hn alL7 ajV6 hMV6 hP hD hS hl
      exfalso; (first | exact om_03b755d7679e klp8_0.2 hn | omega)
    | succ fulp8 ihlp8 =>
      intro y5 V6 L7 H locs ls klp8_0 xlp8_0 xlp8_1 hn alL7 ajV6 hMV6 hP hD hS hl
      have agV6 : agr [(6, 6), (6, 7), (6, 8), (6, 9), (6, 10)] [12, 13, 14] V V6 := agV3.tr ajV6 (by decide) (by decide)
      have pq9 : (V6 6 5).toInt = ((V 6 5)).toInt := congrArg Int32.toInt ((ajV6 6 5 rfl).trans ((up2_k hV3 (by decide)).trans (up2_k hV1 (by decide))))
      have r10 : 0 ≤ ((V 6 5)).toInt ∧ ((V 6 5)).toInt ≤ 4000 := hMV 6 5
      have r11 : 0 ≤ ((V6 6 6)).toInt ∧ ((V6 6 6)).toInt ≤ 4000 := hMV6 6 6
      have r12 : 0 ≤ ((V6 6 7)).toInt ∧ ((V6 6 7)).toInt ≤ 4000 := hMV6 6 7
      refine lv_iload_n hx hb dX9_begin_12 rfl (lv_at hl 0 rfl) ?_
      refine lv_sipush (v := 4000) hx hb dX9_begin_13 (by decide) ?_
      refine lv_icmp_ge (tgt := 81) hx hb dX9_begin_16 (by decide) (fun c13 => ?_) (fun c13 => ?_)
      · skip
        have f14 : 4000 ≤ y5.toInt := b_le (by decide) rfl c13
        refine lv_aload_n hx hb dX9_begin_81 rfl (lv_at hl 1 rfl) ?_
        refine va_get (D := D) (ci := 9) (v := .ref (ad 9)) (fs := (xfTape ad V6 L7 Z)) (C := RX9) (T := TX9) (N := 12) hx hb hg inX9 hown hK hP 6 xgTape rfl 2 (by decide) (hg _ w254) (fun _ h9 => h9) rfl dX9_begin_82 ?_
        refine lv_aload_n hx hb dX9_begin_85 rfl (lv_at hl 1 rfl) ?_
        refine va_get (D := D) (ci := 9) (v := .int (V6 6 7)) (fs := (xfTape ad V6 L7 Z)) (C := RX9) (T := TX9) (N := 12) hx hb hg inX9 hown hK hP 6 xgTape rfl 7 (by decide) (hg _ w260) (fun _ h9 => h9) rfl dX9_begin_86 ?_
        refine lv_iconst (v := 0) hx hb dX9_begin_89 (by decide) ?_
        refine va_iast (D := D) (i := (V6 6 7)) (x := 0) hx hb hK hP hD hS 9 2 rfl rfl (i_in (a := ((V6 6 7)).toInt) rfl (by (first | exact om_d7f25fda8b0e r12.1 r12.2 | omega))) dX9_begin_90 (fun H locs hP hD hS => ?_)
        obtain ⟨V15, hV15⟩ : ∃ z, z = up2 V6 12 (Int32.toNatClampNeg (V6 6 7)) 0 := ⟨_, rfl⟩
        have ew16 : (xw ad kk V6 L7 Z).set 9 ((ad 9), .inl ((kk 9), 4001, .inl (upd (V6 12) (Int32.toNatClampNeg (V6 6 7)) 0))) = xw ad kk V15 L7 Z := by rw [hV15]; exact xw_ss (by decide) rfl (xb_si (by decide))
        have hP : va_P D vwCl (xw ad kk V15 L7 Z) H := by rw [← ew16]; exact hP
        have hD : va_D A (xw ad kk V15 L7 Z) := by rw [← ew16]; exact hD
        have hMV15 : rgd bX V15 := hMV6.put hV15 (i_full _)
        have agV15 : agr [(6, 6), (6, 7), (6, 8), (6, 9), (6, 10)] [12, 13, 14] V V15 := agV6.up hV15 rfl
        refine lv_aload_n hx hb dX9_begin_91 rfl (lv_at hl 1 rfl) ?_
        refine va_get (D := D) (ci := 9) (v := .ref (ad 10)) (fs := (xfTape ad V15 L7 Z)) (C := RX9) (T := TX9) (N := 12) hx hb hg inX9 hown hK hP 6 xgTape rfl 3 (by decide) (hg _ w255) (fun _ h9 => h9) rfl dX9_begin_92 ?_
        refine lv_aload_n hx hb dX9_begin_95 rfl (lv_at hl 1 rfl) ?_
        refine va_get (D := D) (ci := 9) (v := .int (V15 6 7)) (fs := (xfTape ad V15 L7 Z)) (C := RX9) (T := TX9) (N := 12) hx hb hg inX9 hown hK hP 6 xgTape rfl 7 (by decide) (hg _ w260) (fun _ h9 => h9) rfl dX9_begin_96 ?_
        refine g_top (v := (V6 6 7)) (up2_o hV15 (by decide)) ?_
        refine lv_aload_n hx hb dX9_begin_99 rfl (lv_at hl 1 rfl) ?_
        refine va_get (D := D) (ci := 9) (v := .int (V15 6 5)) (fs := (xfTape ad V15 L7 Z)) (C := RX9) (T := TX9) (N := 12) hx hb hg inX9 hown hK hP 6 xgTape rfl 5 (by decide) (hg _ w258) (fun _ h9 => h9) rfl dX9_begin_100 ?_
        refine g_top (v := (V 6 5)) ((up2_o hV15 (by decide)).trans ((ajV6 6 5 rfl).trans ((up2_k hV3 (by decide)).trans (up2_k hV1 (by decide))))) ?_
        refine va_iast (D := D) (i := (V6 6 7)) (x := (V 6 5)) hx hb hK hP hD hS 10 3 rfl rfl (i_in (a := ((V6 6 7)).toInt) rfl (by (first | exact om_d7f25fda8b0e r12.1 r12.2 | omega))) dX9_begin_103 (fun H locs hP hD hS => ?_)
        obtain ⟨V17, hV17⟩ : ∃ z, z = up2 V15 13 (Int32.toNatClampNeg (V6 6 7)) (V 6 5) := ⟨_, rfl⟩
        have ew18 : (xw ad kk V15 L7 Z).set 10 ((ad 10), .inl ((kk 10), 4001, .inl (upd (V15 13) (Int32.toNatClampNeg (V6 6 7)) (V 6 5)))) = xw ad kk V17 L7 Z := by rw [hV17]; exact xw_ss (by decide) rfl (xb_si (by decide))
        have hP : va_P D vwCl (xw ad kk V17 L7 Z) H := by rw [← ew18]; exact hP
        have hD : va_D A (xw ad kk V17 L7 Z) := by rw [← ew18]; exact hD
        have hMV17 : rgd bX V17 := hMV15.put hV17 (show 0 ≤ ((V 6 5)).toInt ∧ ((V 6 5)).toInt ≤ 4000 from by (first | exact om_1194ef72f15b r10.1 r10.2 | omega))
        have agV17 : agr [(6, 6), (6, 7), (6, 8), (6, 9), (6, 10)] [12, 13, 14] V V17 := agV15.up hV17 rfl
        refine lv_aload_n hx hb dX9_begin_104 rfl (lv_at hl 1 rfl) ?_
        refine va_get (D := D) (ci := 9) (v := .ref (ad 11)) (fs := (xfTape ad V17 L7 Z)) (C := RX9) (T := TX9) (N := 12) hx hb hg inX9 hown hK hP 6 xgTape rfl 4 (by decide) (hg _ w256) (fun _ h9 => h9) rfl dX9_begin_105 ?_
        refine lv_aload_n hx hb dX9_begin_108 rfl (lv_at hl 1 rfl) ?_
        refine va_get (D := D) (ci := 9) (v := .int (V17 6 7)) (fs := (xfTape ad V17 L7 Z)) (C := RX9) (T := TX9) (N := 12) hx hb hg inX9 hown hK hP 6 xgTape rfl 7 (by decide) (hg _ w260) (fun _ h9 => h9) rfl dX9_begin_109 ?_
        refine g_top (v := (V6 6 7)) ((up2_o hV17 (by decide)).trans (up2_o hV15 (by decide))) ?_
        refine lv_lconst (v := 0) hx hb dX9_begin_112 (by decide) ?_
        refine va_last (D := D) (i := (V6 6 7)) (x := 0) hx hb hK hP hD hS 11 4 rfl rfl (i_in (a := ((V6 6 7)).toInt) rfl (by (first | exact om_d7f25fda8b0e r12.1 r12.2 | omega))) dX9_begin_113 (fun H locs hP hD hS => ?_)
        obtain ⟨L19, hL19⟩ : ∃ z, z = upL L7 14 (Int32.toNatClampNeg (V6 6 7)) 0 := ⟨_, rfl⟩
        have ew20 : (xw ad kk V17 L7 Z).set 11 ((ad 11), .inl ((kk 11), 4001, .inr (.inl (vp_updL (L7 14) (Int32.toNatClampNeg (V6 6 7)) 0)))) = xw ad kk V17 L19 Z := by rw [hL19]; exact xw_ss (by decide) rfl (fun j => xe_L (fun a => absurd a.1 (by decide)))
        have hP : va_P D vwCl (xw ad kk V17 L19 Z) H := by rw [← ew20]; exact hP
        have hD : va_D A (xw ad kk V17 L19 Z) := by rw [← ew20]; exact hD
        have alL19 : agL [6, 14] L L19 := agL.up alL7 hL19 rfl
        refine lv_aload_n hx hb dX9_begin_114 rfl (lv_at hl 1 rfl) ?_
        refine lv_iconst (v := 0) hx hb dX9_begin_115 (by decide) ?_
        refine va_put (D := D) (ci := 9) (v := .int 0) (ty := tyX9 8) (fs := (xfTape ad V17 L19 Z)) (C := RX9) (T := TX9) (N := 12) hx hb hg inX9 tyX9 tyX9_ok nmX9 hown hK hP hD hS 6 xgTape rfl 8 (by decide) (hg _ w261) (fun _ h9 => h9) rfl (tyX9_ok 8 (by decide)) rfl rfl (Nat.le_of_ble_eq_true rfl) dX9_begin_116 (fun H locs hP hD hS => ?_)
        obtain ⟨V21, hV21⟩ : ∃ z, z = up2 V17 6 8 0 := ⟨_, rfl⟩
        have ew22 : (xw ad kk V17 L19 Z).set 6 ((ad 6), .inr (9, (xfTape ad V17 L19 Z).set 8 (.int 0))) = xw ad kk V21 L19 Z := by rw [hV21]; exact xw_ss (by decide) rfl (xb_si (by decide))
        have hP : va_P D vwCl (xw ad kk V21 L19 Z) H := by rw [← ew22]; exact hP
        have hD : va_D A (xw ad kk V21 L19 Z) := by rw [← ew22]; exact hD
        have hMV21 : rgd bX V21 := hMV17.put hV21 (by decide)
        have agV21 : agr [(6, 6), (6, 7), (6, 8), (6, 9), (6, 10)] [12, 13, 14] V V21 := agV17.up hV21 rfl
        refine lv_aload_n hx hb dX9_begin_119 rfl (lv_at hl 1 rfl) ?_
        refine gA_void (gA_runV (As := []) (rest := []) (ci := 9) (q0 := 6) hx hb hml hown hg hP hD hK hS hA hnw hgk (x_next l D ks H.size ad kk V21 L19 Z  hMV21 ) w851 w852 w853 w157 w854 rfl xgTape hdV_yX9_next ⟨Nat.le_of_ble_eq_true rfl, Nat.le_of_ble_eq_true rfl⟩ rfl hl.1 rfl (Nat.le_of_ble_eq_true rfl) dX9_begin_120 ⟨Nat.le_of_ble_eq_true rfl, Nat.le_of_ble_eq_true rfl⟩) hP hD hK hS hA (fun u24 H locs w25 hP hD hK hS => ?_)
        obtain ⟨V26, L27⟩ := u24
        obtain ⟨hMV26, ajV26, axL27⟩ := w25
        have alL27 : agL [6, 14] L L27 := agL.tr alL19 axL27 (by decide)
        have hP : va_P D vwCl (xw ad kk V26 L27 Z) H := hP
        have hD : va_D A (xw ad kk V26 L27 Z) := hD
        have hMV26 : rgd bX V26 := hMV26
        have ajV26 : agr [(6, 8), (6, 9), (6, 10)] [] V21 V26 := ajV26
        have agV26 : agr [(6, 6), (6, 7), (6, 8), (6, 9), (6, 10)] [12, 13, 14] V V26 := agV21.tr ajV26 (by decide) (by decide)
        exact W.vret hx hb hr (fun t ht hW => ⟨⟨(V26, L27), rfl, ⟨hMV26, agV26, alL27⟩, by rw [ht]; exact hP, va_K.moved hW.alike hK, hD⟩, hS.F ht⟩) hS.2.2 dX9_begin_123
      · skip
        have f28 : y5.toInt < 4000 := b_nle (by decide) rfl c13
        refine lv_aload_n hx hb dX9_begin_19 rfl (lv_at hl 1 rfl) ?_
        refine va_get (D := D) (ci := 9) (v := .int (V6 6 6)) (fs := (xfTape ad V6 L7 Z)) (C := RX9) (T := TX9) (N := 12) hx hb hg inX9 hown hK hP 6 xgTape rfl 6 (by decide) (hg _ w259) (fun _ h9 => h9) rfl dX9_begin_20 ?_
        refine lv_aload_n hx hb dX9_begin_23 rfl (lv_at hl 1 rfl) ?_
        refine va_get (D := D) (ci := 9) (v := .int (V6 6 5)) (fs := (xfTape ad V6 L7 Z)) (C := RX9) (T := TX9) (N := 12) hx hb hg inX9 hown hK hP 6 xgTape rfl 5 (by decide) (hg _ w258) (fun _ h9 => h9) rfl dX9_begin_24 ?_
        refine g_top (v := (V 6 5)) ((ajV6 6 5 rfl).trans ((up2_k hV3 (by decide)).trans (up2_k hV1 (by decide)))) ?_
        refine lv_icmp_ge (tgt := 81) hx hb dX9_begin_27 (by decide) (fun c29 => ?_) (fun c29 => ?_)
        · skip
          have f30 : ((V 6 5)).toInt ≤ ((V6 6 6)).toInt := b_le rfl rfl c29
          refine lv_aload_n hx hb dX9_begin_81 rfl (lv_at hl 1 rfl) ?_
          refine va_get (D := D) (ci := 9) (v := .ref (ad 9)) (fs := (xfTape ad V6 L7 Z)) (C := RX9) (T := TX9) (N := 12) hx hb hg inX9 hown hK hP 6 xgTape rfl 2 (by decide) (hg _ w254) (fun _ h9 => h9) rfl dX9_begin_82 ?_
          refine lv_aload_n hx hb dX9_begin_85 rfl (lv_at hl 1 rfl) ?_
          refine va_get (D := D) (ci := 9) (v := .int (V6 6 7)) (fs := (xfTape ad V6 L7 Z)) (C := RX9) (T := TX9) (N := 12) hx hb hg inX9 hown hK hP 6 xgTape rfl 7 (by decide) (hg _ w260) (fun _ h9 => h9) rfl dX9_begin_86 ?_
          refine lv_iconst (v := 0) hx hb dX9_begin_89 (by decide) ?_
          refine va_iast (D := D) (i := (V6 6 7)) (x := 0) hx hb hK hP hD hS 9 2 rfl rfl (i_in (a := ((V6 6 7)).toInt) rfl (by (first | exact om_fe84a465e0a9 xlp8_1 r12.1 f28 | omega))) dX9_begin_90 (fun H locs hP hD hS => ?_)
          obtain ⟨V31, hV31⟩ : ∃ z, z = up2 V6 12 (Int32.toNatClampNeg (V6 6 7)) 0 := ⟨_, rfl⟩
          have ew32 : (xw ad kk V6 L7 Z).set 9 ((ad 9), .inl ((kk 9), 4001, .inl (upd (V6 12) (Int32.toNatClampNeg (V6 6 7)) 0))) = xw ad kk V31 L7 Z := by rw [hV31]; exact xw_ss (by decide) rfl (xb_si (by decide))
          have hP : va_P D vwCl (xw ad kk V31 L7 Z) H := by rw [← ew32]; exact hP
          have hD : va_D A (xw ad kk V31 L7 Z) := by rw [← ew32]; exact hD
          have hMV31 : rgd bX V31 := hMV6.put hV31 (i_full _)
          have agV31 : agr [(6, 6), (6, 7), (6, 8), (6, 9), (6, 10)] [12, 13, 14] V V31 := agV6.up hV31 rfl
          refine lv_aload_n hx hb dX9_begin_91 rfl (lv_at hl 1 rfl) ?_
          refine va_get (D := D) (ci := 9) (v := .ref (ad 10)) (fs := (xfTape ad V31 L7 Z)) (C := RX9) (T := TX9) (N := 12) hx hb hg inX9 hown hK hP 6 xgTape rfl 3 (by decide) (hg _ w255) (fun _ h9 => h9) rfl dX9_begin_92 ?_
          refine lv_aload_n hx hb dX9_begin_95 rfl (lv_at hl 1 rfl) ?_
          refine va_get (D := D) (ci := 9) (v := .int (V31 6 7)) (fs := (xfTape ad V31 L7 Z)) (C := RX9) (T := TX9) (N := 12) hx hb hg inX9 hown hK hP 6 xgTape rfl 7 (by decide) (hg _ w260) (fun _ h9 => h9) rfl dX9_begin_96 ?_
          refine g_top (v := (V6 6 7)) (up2_o hV31 (by decide)) ?_
          refine lv_aload_n hx hb dX9_begin_99 rfl (lv_at hl 1 rfl) ?_
          refine va_get (D := D) (ci := 9) (v := .int (V31 6 5)) (fs := (xfTape ad V31 L7 Z)) (C := RX9) (T := TX9) (N := 12) hx hb hg inX9 hown hK hP 6 xgTape rfl 5 (by decide) (hg _ w258) (fun _ h9 => h9) rfl dX9_begin_100 ?_
          refine g_top (v := (V 6 5)) ((up2_o hV31 (by decide)).trans ((ajV6 6 5 rfl).trans ((up2_k hV3 (by decide)).trans (up2_k hV1 (by decide))))) ?_
          refine va_iast (D := D) (i := (V6 6 7)) (x := (V 6 5)) hx hb hK hP hD hS 10 3 rfl rfl (i_in (a := ((V6 6 7)).toInt) rfl (by (first | exact om_fe84a465e0a9 xlp8_1 r12.1 f28 | omega))) dX9_begin_103 (fun H locs hP hD hS => ?_)
          obtain ⟨V33, hV33⟩ : ∃ z, z = up2 V31 13 (Int32.toNatClampNeg (V6 6 7)) (V 6 5) := ⟨_, rfl⟩
          have ew34 : (xw ad kk V31 L7 Z).set 10 ((ad 10), .inl ((kk 10), 4001, .inl (upd (V31 13) (Int32.toNatClampNeg (V6 6 7)) (V 6 5)))) = xw ad kk V33 L7 Z := by rw [hV33]; exact xw_ss (by decide) rfl (xb_si (by decide))
          have hP : va_P D vwCl (xw ad kk V33 L7 Z) H := by rw [← ew34]; exact hP
          have hD : va_D A (xw ad kk V33 L7 Z) := by rw [← ew34]; exact hD
          have hMV33 : rgd bX V33 := hMV31.put hV33 (show 0 ≤ ((V 6 5)).toInt ∧ ((V 6 5)).toInt ≤ 4000 from by (first | exact om_d7d791e66fbf xlp8_0 pq9 r11.1 r11.2 f30 | omega))
          have agV33 : agr [(6, 6), (6, 7), (6, 8), (6, 9), (6, 10)] [12, 13, 14] V V33 := agV31.up hV33 rfl
          refine lv_aload_n hx hb dX9_begin_104 rfl (lv_at hl 1 rfl) ?_
          refine va_get (D := D) (ci := 9) (v := .ref (ad 11)) (fs := (xfTape ad V33 L7 Z)) (C := RX9) (T := TX9) (N := 12) hx hb hg inX9 hown hK hP 6 xgTape rfl 4 (by decide) (hg _ w256) (fun _ h9 => h9) rfl dX9_begin_105 ?_
          refine lv_aload_n hx hb dX9_begin_108 rfl (lv_at hl 1 rfl) ?_
          refine va_get (D := D) (ci := 9) (v := .int (V33 6 7)) (fs := (xfTape ad V33 L7 Z)) (C := RX9) (T := TX9) (N := 12) hx hb hg inX9 hown hK hP 6 xgTape rfl 7 (by decide) (hg _ w260) (fun _ h9 => h9) rfl dX9_begin_109 ?_
          refine g_top (v := (V6 6 7)) ((up2_o hV33 (by decide)).trans (up2_o hV31 (by decide))) ?_
          refine lv_lconst (v := 0) hx hb dX9_begin_112 (by decide) ?_
          refine va_last (D := D) (i := (V6 6 7)) (x := 0) hx hb hK hP hD hS 11 4 rfl rfl (i_in (a := ((V6 6 7)).toInt) rfl (by (first | exact om_fe84a465e0a9 xlp8_1 r12.1 f28 | omega))) dX9_begin_113 (fun H locs hP hD hS => ?_)
          obtain ⟨L35, hL35⟩ : ∃ z, z = upL L7 14 (Int32.toNatClampNeg (V6 6 7)) 0 := ⟨_, rfl⟩
          have ew36 : (xw ad kk V33 L7 Z).set 11 ((ad 11), .inl ((kk 11), 4001, .inr (.inl (vp_updL (L7 14) (Int32.toNatClampNeg (V6 6 7)) 0)))) = xw ad kk V33 L35 Z := by rw [hL35]; exact xw_ss (by decide) rfl (fun j => xe_L (fun a => absurd a.1 (by decide)))
          have hP : va_P D vwCl (xw ad kk V33 L35 Z) H := by rw [← ew36]; exact hP
          have hD : va_D A (xw ad kk V33 L35 Z) := by rw [← ew36]; exact hD
          have alL35 : agL [6, 14] L L35 := agL.up alL7 hL35 rfl
          refine lv_aload_n hx hb dX9_begin_114 rfl (lv_at hl 1 rfl) ?_
          refine lv_iconst (v := 0) hx hb dX9_begin_115 (by decide) ?_
          refine va_put (D := D) (ci := 9) (v := .int 0) (ty := tyX9 8) (fs := (xfTape ad V33 L35 Z)) (C := RX9) (T := TX9) (N := 12) hx hb hg inX9 tyX9 tyX9_ok nmX9 hown hK hP hD hS 6 xgTape rfl 8 (by decide) (hg _ w261) (fun _ h9 => h9) rfl (tyX9_ok 8 (by decide)) rfl rfl (Nat.le_of_ble_eq_true rfl) dX9_begin_116 (fun H locs hP hD hS => ?_)
          obtain ⟨V37, hV37⟩ : ∃ z, z = up2 V33 6 8 0 := ⟨_, rfl⟩
          have ew38 : (xw ad kk V33 L35 Z).set 6 ((ad 6), .inr (9, (xfTape ad V33 L35 Z).set 8 (.int 0))) = xw ad kk V37 L35 Z := by rw [hV37]; exact xw_ss (by decide) rfl (xb_si (by decide))
          have hP : va_P D vwCl (xw ad kk V37 L35 Z) H := by rw [← ew38]; exact hP
          have hD : va_D A (xw ad kk V37 L35 Z) := by rw [← ew38]; exact hD
          have hMV37 : rgd bX V37 := hMV33.put hV37 (by decide)
          have agV37 : agr [(6, 6), (6, 7), (6, 8), (6, 9), (6, 10)] [12, 13, 14] V V37 := agV33.up hV37 rfl
          refine lv_aload_n hx hb dX9_begin_119 rfl (lv_at hl 1 rfl) ?_
          refine gA_void (gA_runV (As := []) (rest := []) (ci := 9) (q0 := 6) hx hb hml hown hg hP hD hK hS hA hnw hgk (x_next l D ks H.size ad kk V37 L35 Z  hMV37 ) w851 w852 w853 w157 w854 rfl xgTape hdV_yX9_next ⟨Nat.le_of_ble_eq_true rfl, Nat.le_of_ble_eq_true rfl⟩ rfl hl.1 rfl (Nat.le_of_ble_eq_true rfl) dX9_begin_120 ⟨Nat.le_of_ble_eq_true rfl, Nat.le_of_ble_eq_true rfl⟩) hP hD hK hS hA (fun u40 H locs w41 hP hD hK hS => ?_)
          obtain ⟨V42, L43⟩ := u40
          obtain ⟨hMV42, ajV42, axL43⟩ := w41
          have alL43 : agL [6, 14] L L43 := agL.tr alL35 axL43 (by decide)
          have hP : va_P D vwCl (xw ad kk V42 L43 Z) H := hP
          have hD : va_D A (xw ad kk V42 L43 Z) := hD
          have hMV42 : rgd bX V42 := hMV42
          have ajV42 : agr [(6, 8), (6, 9), (6, 10)] [] V37 V42 := ajV42
          have agV42 : agr [(6, 6), (6, 7), (6, 8), (6, 9), (6, 10)] [12, 13, 14] V V42 := agV37.tr ajV42 (by decide) (by decide)
          exact W.vret hx hb hr (fun t ht hW => ⟨⟨(V42, L43), rfl, ⟨hMV42, agV42, alL43⟩, by rw [ht]; exact hP, va_K.moved hW.alike hK, hD⟩, hS.F ht⟩) hS.2.2 dX9_begin_123
        · skip
          have f44 : ((V6 6 6)).toInt < ((V 6 5)).toInt := b_nle rfl rfl c29
          refine lv_aload_n hx hb dX9_begin_30 rfl (lv_at hl 1 rfl) ?_
          refine va_get (D := D) (ci := 9) (v := .ref (ad 7)) (fs := (xfTape ad V6 L7 Z)) (C := RX9) (T := TX9) (N := 12) hx hb hg inX9 hown hK hP 6 xgTape rfl 0 (by decide) (hg _ w252) (fun _ h9 => h9) rfl dX9_begin_31 ?_
          refine lv_aload_n hx hb dX9_begin_34 rfl (lv_at hl 1 rfl) ?_
          refine va_get (D := D) (ci := 9) (v := .int (V6 6 6)) (fs := (xfTape ad V6 L7 Z)) (C := RX9) (T := TX9) (N := 12) hx hb hg inX9 hown hK hP 6 xgTape rfl 6 (by decide) (hg _ w259) (fun _ h9 => h9) rfl dX9_begin_35 ?_
          refine va_bald (D := D) (i := (V6 6 6)) hx hb hK hP 7 0 rfl rfl (i_in (a := ((V6 6 6)).toInt) rfl (by (first | exact om_ae1ad81edeff r10.2 r11.1 f44 | omega))) dX9_begin_38 ?_
          refine g_top (v := (V 10 (Int32.toNatClampNeg (V6 6 6)))) ((ajV6 10 (Int32.toNatClampNeg (V6 6 6)) rfl).trans ((up2_o hV3 (by decide)).trans (up2_o hV1 (by decide)))) ?_
          refine lv_bipush (v := 32) hx hb dX9_begin_39 (by decide) ?_
          refine lv_icmp_eq (tgt := 58) hx hb dX9_begin_41 (by decide) (fun c45 => ?_) (fun c45 => ?_)
          · skip
            have f46 : ((V 10 (Int32.toNatClampNeg (V6 6 6)))).toInt = 32 := b_eq rfl (by decide) c45
            refine lv_aload_n hx hb dX9_begin_58 rfl (lv_at hl 1 rfl) ?_
            refine lv_dup hx hb dX9_begin_59 rfl ?_
            refine va_get (D := D) (ci := 9) (v := .int (V6 6 6)) (fs := (xfTape ad V6 L7 Z)) (C := RX9) (T := TX9) (N := 12) hx hb hg inX9 hown hK hP 6 xgTape rfl 6 (by decide) (hg _ w259) (fun _ h9 => h9) rfl dX9_begin_60 ?_
            refine lv_iconst (v := 1) hx hb dX9_begin_63 (by decide) ?_
            refine lv_iadd hx hb dX9_begin_64 ?_
            refine lv_topi (fun z47 ez47 => ?_)
            have hz47 : z47.toInt = ((V6 6 6)).toInt + 1 := i_add ez47 rfl (by decide) (by (first | exact om_60388b098aab r10.2 r11.1 f44 | omega))
            refine va_put (D := D) (ci := 9) (v := .int z47) (ty := tyX9 6) (fs := (xfTape ad V6 L7 Z)) (C := RX9) (T := TX9) (N := 12) hx hb hg inX9 tyX9 tyX9_ok nmX9 hown hK hP hD hS 6 xgTape rfl 6 (by decide) (hg _ w259) (fun _ h9 => h9) rfl (tyX9_ok 6 (by decide)) rfl rfl (Nat.le_of_ble_eq_true rfl) dX9_begin_65 (fun H locs hP hD hS => ?_)
            obtain ⟨V48, hV48⟩ : ∃ z, z = up2 V6 6 6 z47 := ⟨_, rfl⟩
            have ew49 : (xw ad kk V6 L7 Z).set 6 ((ad 6), .inr (9, (xfTape ad V6 L7 Z).set 6 (.int z47))) = xw ad kk V48 L7 Z := by rw [hV48]; exact xw_ss (by decide) rfl (xb_si (by decide))
            have hP : va_P D vwCl (xw ad kk V48 L7 Z) H := by rw [← ew49]; exact hP
            have hD : va_D A (xw ad kk V48 L7 Z) := by rw [← ew49]; exact hD
            have hMV48 : rgd bX V48 := hMV6.put hV48 (show 0 ≤ z47.toInt ∧ z47.toInt ≤ 4000 from by (first | exact om_e23ddeb43246 r10.2 r11.1 f44 hz47 | omega))
            have agV48 : agr [(6, 6), (6, 7), (6, 8), (6, 9), (6, 10)] [12, 13, 14] V V48 := agV6.up hV48 rfl
            refine lv_goto (tgt := 75) hx hb dX9_begin_68 (by decide) ?_
            obtain ⟨z50, ez50⟩ : ∃ y : Int32, y = y5 + 1 := ⟨_, rfl⟩
            have hz50 : z50.toInt = y5.toInt + 1 := i_add ez50 rfl (by decide) (by (first | exact om_67c6ad613360 klp8_0.1 f28 | omega))
            refine lv_iinc (v := z50) (lv' := [(1, .int z50), (0, .ref (ad 6))]) hx hb dX9_begin_75 hl (k := 0) rfl (by rw [ez50]; rfl) (by decide) rfl (fun ls hl => ?_)
            refine lv_goto (tgt := 12) hx hb dX9_begin_78 (by decide) ?_
            have pq51 : (V48 6 5).toInt = ((V 6 5)).toInt := congrArg Int32.toInt ((up2_k hV48 (by decide)).trans ((ajV6 6 5 rfl).trans ((up2_k hV3 (by decide)).trans (up2_k hV1 (by decide)))))
            have pq52 : (V48 6 6).toInt = z47.toInt := congrArg Int32.toInt (up2_s hV48)
            have pq53 : (V48 6 7).toInt = ((V6 6 7)).toInt := congrArg Int32.toInt (up2_k hV48 (by decide))
            exact ihlp8 z50 V48 L7 H locs ls (by (first | exact om_0a6ad2809a2b xlp8_1 r12.1 f28 hz50 | omega)) (show (V48 6 6).toInt ≤ (V48 6 5).toInt from by (first | exact om_1257dc0753d6 f44 hz47 pq51 pq52 | omega)) (show (V48 6 7).toInt ≤ z50.toInt from by (first | exact om_2cb4eafcf217 xlp8_1 hz50 pq53 | omega)) (by (first | exact om_7390df9cc880 hn hz50 | omega)) alL7 (agr.up (agr.tr agr.rf ajV6 (by decide) (by decide)) hV48 rfl) hMV48 hP hD hS (lv_sub hl [0, 1] rfl)
          · skip
            have f54 : ((V 10 (Int32.toNatClampNeg (V6 6 6)))).toInt ≠ 32 := b_neq rfl (by decide) c45
            refine lv_aload_n hx hb dX9_begin_44 rfl (lv_at hl 1 rfl) ?_
            refine va_get (D := D) (ci := 9) (v := .ref (ad 7)) (fs := (xfTape ad V6 L7 Z)) (C := RX9) (T := TX9) (N := 12) hx hb hg inX9 hown hK hP 6 xgTape rfl 0 (by decide) (hg _ w252) (fun _ h9 => h9) rfl dX9_begin_45 ?_
            refine lv_aload_n hx hb dX9_begin_48 rfl (lv_at hl 1 rfl) ?_
            refine va_get (D := D) (ci := 9) (v := .int (V6 6 6)) (fs := (xfTape ad V6 L7 Z)) (C := RX9) (T := TX9) (N := 12) hx hb hg inX9 hown hK hP 6 xgTape rfl 6 (by decide) (hg _ w259) (fun _ h9 => h9) rfl dX9_begin_49 ?_
            refine va_bald (D := D) (i := (V6 6 6)) hx hb hK hP 7 0 rfl rfl (i_in (a := ((V6 6 6)).toInt) rfl (by (first | exact om_ae1ad81edeff r10.2 r11.1 f44 | omega))) dX9_begin_52 ?_
            refine g_top (v := (V 10 (Int32.toNatClampNeg (V6 6 6)))) ((ajV6 10 (Int32.toNatClampNeg (V6 6 6)) rfl).trans ((up2_o hV3 (by decide)).trans (up2_o hV1 (by decide)))) ?_
            refine lv_bipush (v := 10) hx hb dX9_begin_53 (by decide) ?_
            refine lv_icmp_ne (tgt := 71) hx hb dX9_begin_55 (by decide) (fun c55 => ?_) (fun c55 => ?_)
            · skip
              have f56 : ((V 10 (Int32.toNatClampNeg (V6 6 6)))).toInt ≠ 10 := b_neq rfl (by decide) c55
              refine lv_aload_n hx hb dX9_begin_71 rfl (lv_at hl 1 rfl) ?_
              refine gA_void (gA_runV (As := []) (rest := []) (ci := 9) (q0 := 6) hx hb hml hown hg hP hD hK hS hA hnw hgk (x_cut l D ks H.size ad kk V6 L7 Z  hMV6 (show (V6 6 6).toInt < (V6 6 5).toInt from by (first | exact om_f33e638bd498 pq9 f44 | omega)) (show (V6 6 7).toInt ≤ 3999 from by (first | exact om_43b3f9a4c39f xlp8_1 f28 | omega))) w770 w772 w0 w157 w773 rfl xgTape hdV_yX9_cut ⟨Nat.le_of_ble_eq_true rfl, Nat.le_of_ble_eq_true rfl⟩ rfl hl.1 rfl (Nat.le_of_ble_eq_true rfl) dX9_begin_72 ⟨Nat.le_of_ble_eq_true rfl, Nat.le_of_ble_eq_true rfl⟩) hP hD hK hS hA (fun u58 H locs w59 hP hD hK hS => ?_)
              obtain ⟨V62, L63⟩ := u58
              obtain ⟨hMV62, ajV62, axL63, t60, t61⟩ := w59
              have alL63 : agL [6, 14] L L63 := agL.tr alL7 axL63 (by decide)
              have hP : va_P D vwCl (xw ad kk V62 L63 Z) H := hP
              have hD : va_D A (xw ad kk V62 L63 Z) := hD
              have hMV62 : rgd bX V62 := hMV62
              have ajV62 : agr [(6, 6), (6, 7)] [12, 13, 14] V6 V62 := ajV62
              have agV62 : agr [(6, 6), (6, 7), (6, 8), (6, 9), (6, 10)] [12, 13, 14] V V62 := agV6.tr ajV62 (by decide) (by decide)
              have t60 : (V62 6 6).toInt ≤ (V62 6 5).toInt := t60
              have t61 : (V62 6 7).toInt = (V6 6 7).toInt + 1 := t61
              have pq64 : (V62 6 5).toInt = ((V 6 5)).toInt := congrArg Int32.toInt ((ajV62 6 5 rfl).trans ((ajV6 6 5 rfl).trans ((up2_k hV3 (by decide)).trans (up2_k hV1 (by decide)))))
              have r65 : 0 ≤ ((V62 6 6)).toInt ∧ ((V62 6 6)).toInt ≤ 4000 := hMV62 6 6
              have r66 : 0 ≤ ((V62 6 7)).toInt ∧ ((V62 6 7)).toInt ≤ 4000 := hMV62 6 7
              obtain ⟨z67, ez67⟩ : ∃ y : Int32, y = y5 + 1 := ⟨_, rfl⟩
              have hz67 : z67.toInt = y5.toInt + 1 := i_add ez67 rfl (by decide) (by (first | exact om_b5e2203eea92 xlp8_1 r12.1 f28 | omega))
              refine lv_iinc (v := z67) (lv' := [(1, .int z67), (0, .ref (ad 6))]) hx hb dX9_begin_75 hl (k := 0) rfl (by rw [ez67]; rfl) (by decide) rfl (fun ls hl => ?_)
              refine lv_goto (tgt := 12) hx hb dX9_begin_78 (by decide) ?_
              exact ihlp8 z67 V62 L63 H locs ls (by (first | exact om_0a6ad2809a2b xlp8_1 r12.1 f28 hz67 | omega)) (show (V62 6 6).toInt ≤ (V62 6 5).toInt from by (first | exact om_f4906d00fa52 t60 | omega)) (show (V62 6 7).toInt ≤ z67.toInt from by (first | exact om_953ed16b636a xlp8_1 t61 hz67 | omega)) (by (first | exact om_7390df9cc880 hn hz67 | omega)) alL63 (agr.tr (agr.tr agr.rf ajV6 (by decide) (by decide)) ajV62 (by decide) (by decide)) hMV62 hP hD hS (lv_sub hl [0, 1] rfl)
            · skip
              have f68 : ((V 10 (Int32.toNatClampNeg (V6 6 6)))).toInt = 10 := b_eq rfl (by decide) c55
              refine lv_aload_n hx hb dX9_begin_58 rfl (lv_at hl 1 rfl) ?_
              refine lv_dup hx hb dX9_begin_59 rfl ?_
              refine va_get (D := D) (ci := 9) (v := .int (V6 6 6)) (fs := (xfTape ad V6 L7 Z)) (C := RX9) (T := TX9) (N := 12) hx hb hg inX9 hown hK hP 6 xgTape rfl 6 (by decide) (hg _ w259) (fun _ h9 => h9) rfl dX9_begin_60 ?_
              refine lv_iconst (v := 1) hx hb dX9_begin_63 (by decide) ?_
              refine lv_iadd hx hb dX9_begin_64 ?_
              refine lv_topi (fun z69 ez69 => ?_)
              have hz69 : z69.toInt = ((V6 6 6)).toInt + 1 := i_add ez69 rfl (by decide) (by (first | exact om_60388b098aab r10.2 r11.1 f44 | omega))
              refine va_put (D := D) (ci := 9) (v := .int z69) (ty := tyX9 6) (fs := (xfTape ad V6 L7 Z)) (C := RX9) (T := TX9) (N := 12) hx hb hg inX9 tyX9 tyX9_ok nmX9 hown hK hP hD hS 6 xgTape rfl 6 (by decide) (hg _ w259) (fun _ h9 => h9) rfl (tyX9_ok 6 (by decide)) rfl rfl (Nat.le_of_ble_eq_true rfl) dX9_begin_65 (fun H locs hP hD hS => ?_)
              obtain ⟨V70, hV70⟩ : ∃ z, z = up2 V6 6 6 z69 := ⟨_, rfl⟩
              have ew71 : (xw ad kk V6 L7 Z).set 6 ((ad 6), .inr (9, (xfTape ad V6 L7 Z).set 6 (.int z69))) = xw ad kk V70 L7 Z := by rw [hV70]; exact xw_ss (by decide) rfl (xb_si (by decide))
              have hP : va_P D vwCl (xw ad kk V70 L7 Z) H := by rw [← ew71]; exact hP
              have hD : va_D A (xw ad kk V70 L7 Z) := by rw [← ew71]; exact hD
              have hMV70 : rgd bX V70 := hMV6.put hV70 (show 0 ≤ z69.toInt ∧ z69.toInt ≤ 4000 from by (first | exact om_e23ddeb43246 r10.2 r11.1 f44 hz69 | omega))
              have agV70 : agr [(6, 6), (6, 7), (6, 8), (6, 9), (6, 10)] [12, 13, 14] V V70 := agV6.up hV70 rfl
              refine lv_goto (tgt := 75) hx hb dX9_begin_68 (by decide) ?_
              obtain ⟨z72, ez72⟩ : ∃ y : Int32, y = y5 + 1 := ⟨_, rfl⟩
              have hz72 : z72.toInt = y5.toInt + 1 := i_add ez72 rfl (by decide) (by (first | exact om_67c6ad613360 klp8_0.1 f28 | omega))
              refine lv_iinc (v := z72) (lv' := [(1, .int z72), (0, .ref (ad 6))]) hx hb dX9_begin_75 hl (k := 0) rfl (by rw [ez72]; rfl) (by decide) rfl (fun ls hl => ?_)
              refine lv_goto (tgt := 12) hx hb dX9_begin_78 (by decide) ?_
              have pq73 : (V70 6 5).toInt = ((V 6 5)).toInt := congrArg Int32.toInt ((up2_k hV70 (by decide)).trans ((ajV6 6 5 rfl).trans ((up2_k hV3 (by decide)).trans (up2_k hV1 (by decide)))))
              have pq74 : (V70 6 6).toInt = z69.toInt := congrArg Int32.toInt (up2_s hV70)
              have pq75 : (V70 6 7).toInt = ((V6 6 7)).toInt := congrArg Int32.toInt (up2_k hV70 (by decide))
              exact ihlp8 z72 V70 L7 H locs ls (by (first | exact om_0a6ad2809a2b xlp8_1 r12.1 f28 hz72 | omega)) (show (V70 6 6).toInt ≤ (V70 6 5).toInt from by (first | exact om_1257dc0753d6 f44 hz69 pq73 pq74 | omega)) (show (V70 6 7).toInt ≤ z72.toInt from by (first | exact om_2cb4eafcf217 xlp8_1 hz72 pq75 | omega)) (by (first | exact om_7390df9cc880 hn hz72 | omega)) alL7 (agr.up (agr.tr agr.rf ajV6 (by decide) (by decide)) hV70 rfl) hMV70 hP hD hS (lv_sub hl [0, 1] rfl)
  have r76 : Int32.toInt 0 = 0 := by decide
  have pq77 : (V3 6 5).toInt = ((V 6 5)).toInt := congrArg Int32.toInt ((up2_k hV3 (by decide)).trans (up2_k hV1 (by decide)))
  have r78 : 0 ≤ ((V 6 5)).toInt ∧ ((V 6 5)).toInt ≤ 4000 := hMV 6 5
  have pq79 : (V3 6 6).toInt = 0 := (congrArg Int32.toInt ((up2_k hV3 (by decide)).trans (up2_s hV1))).trans (by decide)
  have pq80 : (V3 6 7).toInt = 0 := (congrArg Int32.toInt (up2_s hV3)).trans (by decide)
  exact lp8 ((4000 - (Int32.toInt 0) + 1 : Int).toNat) 0 V3 L H locs ls (by decide) (show (V3 6 6).toInt ≤ (V3 6 5).toInt from by (first | exact om_b0eb2bb83bb7 pq77 r78.1 pq79 | omega)) (show (V3 6 7).toInt ≤ (Int32.toInt 0) from by (first | exact om_0df9ae17f00b r76 pq80 | omega)) (by (first | exact om_be7e3b1de7fd | omega)) alL agr.rf hMV3 hP hD hS (lv_sub hl [0, 1] rfl)
end
