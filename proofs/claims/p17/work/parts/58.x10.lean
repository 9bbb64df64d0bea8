theorem n601 : lw_tbl[601]? = some (Cond.fieldLinkNest RX1 113 "WiringHouse$Book" "names" "LWiringHouse$Names;" "WiringHouse") := la9 (n := 155) (i := 446) lz9 (la9 (n := 240) (i := 206) ln9_1 (lb9 (i := 206) (by decide +kernel)))
theorem n616 : lw_tbl[616]? = some (Cond.fieldLinkNest RX1 116 "WiringHouse$Book" "components" "[LWiringHouse$Component;" "WiringHouse") := la9 (n := 155) (i := 461) lz9 (la9 (n := 240) (i := 221) ln9_1 (lb9 (i := 221) (by decide +kernel)))
theorem n484 : lw_tbl[484]? = some (Cond.fieldLinkNest RX1 120 "WiringHouse$Names" "size" "I" "WiringHouse") := la9 (n := 155) (i := 329) lz9 (la9 (n := 240) (i := 89) ln9_1 (lb9 (i := 89) (by decide +kernel)))
theorem w917 : Cond.code yX3_clear cX3_clear 1 none ∈ GW := gw_k tk9_4 42 (rfl) rfl
theorem w914 : Cond.methodLink RX1 123 yX3_clear ∈ GW := gw_k tk9_4 39 (by decide +kernel) rfl
theorem w915 : Cond.instanceMethod yX3_clear ∈ GW := gw_k tk9_4 40 (by decide +kernel) rfl
theorem w916 : Cond.selects RX3 yX3_clear yX3_clear ∈ GW := gw_k tk9_4 41 (by decide +kernel) rfl
theorem hdV_yX3_clear : yX3_clear.cls = RX3 ∧ yX3_clear.cls ≠ "java/lang/invoke/MethodHandle" ∧ yX3_clear.cls ≠ "java/lang/invoke/VarHandle" ∧ (parseMethodDescriptor yX3_clear.desc).map (fun d => d.parameters.length) = some 0 := by decide +kernel
theorem n516 : lw_tbl[516]? = some (Cond.fieldLinkNest RX1 126 "WiringHouse$Component" "under" "I" "WiringHouse") := la9 (n := 155) (i := 361) lz9 (la9 (n := 240) (i := 121) ln9_1 (lb9 (i := 121) (by decide +kernel)))
theorem n520 : lw_tbl[520]? = some (Cond.fieldLinkNest RX1 127 "WiringHouse$Component" "scope" "I" "WiringHouse") := la9 (n := 155) (i := 365) lz9 (la9 (n := 240) (i := 125) ln9_1 (lb9 (i := 125) (by decide +kernel)))
theorem w922 : Cond.code yX1_readExtras cX1_readExtras 2 (some .boolean) ∈ GW := gw_k tk9_4 47 (rfl) rfl
theorem w919 : Cond.methodLink RX1 130 yX1_readExtras ∈ GW := gw_k tk9_4 44 (by decide +kernel) rfl
theorem w921 : Cond.instanceMethod yX1_readExtras ∈ GW := gw_k tk9_4 46 (by decide +kernel) rfl
theorem w14 : Cond.selects RX1 yX1_readExtras yX1_readExtras ∈ GW := gw_mem 14 (by decide +kernel) rfl
theorem hdV_yX1_readExtras : yX1_readExtras.cls = RX1 ∧ yX1_readExtras.cls ≠ "java/lang/invoke/MethodHandle" ∧ yX1_readExtras.cls ≠ "java/lang/invoke/VarHandle" ∧ (parseMethodDescriptor yX1_readExtras.desc).map (fun d => d.parameters.length) = some 1 := by decide +kernel
theorem w862 : Cond.code yX1_readType cX1_readType 4 (some .boolean) ∈ GW := gw_k tk9_3 227 (rfl) rfl
theorem w859 : Cond.methodLink RX1 51 yX1_readType ∈ GW := gw_k tk9_3 224 (by decide +kernel) rfl
theorem w861 : Cond.instanceMethod yX1_readType ∈ GW := gw_k tk9_3 226 (by decide +kernel) rfl
theorem w5 : Cond.selects RX1 yX1_readType yX1_readType ∈ GW := gw_mem 5 (by decide +kernel) rfl
theorem hdV_yX1_readType : yX1_readType.cls = RX1 ∧ yX1_readType.cls ≠ "java/lang/invoke/MethodHandle" ∧ yX1_readType.cls ≠ "java/lang/invoke/VarHandle" ∧ (parseMethodDescriptor yX1_readType.desc).map (fun d => d.parameters.length) = some 0 := by decide +kernel
theorem w904 : Cond.code yX1_readSetting cX1_readSetting 4 (some .boolean) ∈ GW := gw_k tk9_4 29 (rfl) rfl
theorem w901 : Cond.methodLink RX1 54 yX1_readSetting ∈ GW := gw_k tk9_4 26 (by decide +kernel) rfl
theorem w903 : Cond.instanceMethod yX1_readSetting ∈ GW := gw_k tk9_4 28 (by decide +kernel) rfl
theorem w11 : Cond.selects RX1 yX1_readSetting yX1_readSetting ∈ GW := gw_mem 11 (by decide +kernel) rfl
theorem hdV_yX1_readSetting : yX1_readSetting.cls = RX1 ∧ yX1_readSetting.cls ≠ "java/lang/invoke/MethodHandle" ∧ yX1_readSetting.cls ≠ "java/lang/invoke/VarHandle" ∧ (parseMethodDescriptor yX1_readSetting.desc).map (fun d => d.parameters.length) = some 0 := by decide +kernel
theorem w913 : Cond.code yX1_readComponent cX1_readComponent 4 (some .boolean) ∈ GW := gw_k tk9_4 38 (rfl) rfl
theorem w910 : Cond.methodLink RX1 57 yX1_readComponent ∈ GW := gw_k tk9_4 35 (by decide +kernel) rfl
theorem w912 : Cond.instanceMethod yX1_readComponent ∈ GW := gw_k tk9_4 37 (by decide +kernel) rfl
theorem w13 : Cond.selects RX1 yX1_readComponent yX1_readComponent ∈ GW := gw_mem 13 (by decide +kernel) rfl
theorem hdV_yX1_readComponent : yX1_readComponent.cls = RX1 ∧ yX1_readComponent.cls ≠ "java/lang/invoke/MethodHandle" ∧ yX1_readComponent.cls ≠ "java/lang/invoke/VarHandle" ∧ (parseMethodDescriptor yX1_readComponent.desc).map (fun d => d.parameters.length) = some 0 := by decide +kernel
theorem w938 : Cond.code yX1_readWrap cX1_readWrap 6 (some .boolean) ∈ GW := gw_k tk9_4 63 (rfl) rfl
theorem w935 : Cond.methodLink RX1 60 yX1_readWrap ∈ GW := gw_k tk9_4 60 (by decide +kernel) rfl
theorem w937 : Cond.instanceMethod yX1_readWrap ∈ GW := gw_k tk9_4 62 (by decide +kernel) rfl
theorem w18 : Cond.selects RX1 yX1_readWrap yX1_readWrap ∈ GW := gw_mem 18 (by decide +kernel) rfl
theorem hdV_yX1_readWrap : yX1_readWrap.cls = RX1 ∧ yX1_readWrap.cls ≠ "java/lang/invoke/MethodHandle" ∧ yX1_readWrap.cls ≠ "java/lang/invoke/VarHandle" ∧ (parseMethodDescriptor yX1_readWrap.desc).map (fun d => d.parameters.length) = some 0 := by decide +kernel
theorem dk9_dX1_readComponent_0_0 : dOk cX1_readComponent [(0, .aload_n 0, 1), (1, .getfield 15, 3), (4, .getfield 113, 3), (7, .invokevirtual 67, 3), (10, .ifCond .eq 9, 3), (19, .aload_n 0, 1), (20, .getfield 9, 3), (23, .invokevirtual 72, 3), (26, .aload_n 0, 1), (27, .invokevirtual 75, 3), (30, .ifCond .ne 5, 3), (35, .aload_n 0, 1), (36, .getfield 78, 3), (39, .lstore_n 1, 1), (40, .aload_n 0, 1), (41, .sipush 132, 3), (44, .invokevirtual 88, 3), (47, .ifCond .eq 10, 3), (57, .iconst 0, 1), (58, .ireturn, 1), (50, .aload_n 0, 1), (51, .invokevirtual 85, 3), (54, .ifCond .ne 5, 3), (59, .aload_n 0, 1)] = true ∧ dOk cX1_readComponent [(60, .getfield 9, 3), (63, .getfield 37, 3), (66, .sipush 148, 3), (69, .if_icmp .lt 16, 3), (85, .aload_n 0, 1), (86, .iconst 1, 1), (87, .invokevirtual 47, 3), (90, .ireturn, 1), (72, .aload_n 0, 1), (73, .getfield 9, 3), (76, .getfield 37, 3), (79, .sipush 151, 3), (82, .if_icmp .le 9, 3), (91, .aload_n 0, 1), (92, .getfield 15, 3), (95, .getfield 116, 3), (98, .aload_n 0, 1), (99, .getfield 15, 3), (102, .getfield 113, 3), (105, .getfield 120, 3), (108, .aaload, 1), (109, .astore_n 3, 1), (110, .aload_n 3, 1), (111, .invokevirtual 123, 3)] = true ∧ dOk cX1_readComponent [(114, .aload_n 3, 1), (115, .aload_n 0, 1), (116, .getfield 82, 3), (119, .putfield 126, 3), (122, .aload_n 3, 1), (123, .aload_n 0, 1), (124, .getfield 9, 3), (127, .getfield 37, 3), (130, .sipush 148, 3), (133, .isub, 1), (134, .putfield 127, 3), (137, .aload_n 0, 1), (138, .getfield 9, 3), (141, .invokevirtual 72, 3), (144, .aload_n 0, 1), (145, .aload_n 3, 1), (146, .invokevirtual 130, 3), (149, .ifCond .eq 12, 3), (161, .iconst 0, 1), (162, .ireturn, 1), (152, .aload_n 0, 1), (153, .bipush 123, 2), (155, .invokevirtual 88, 3), (158, .ifCond .ne 5, 3)] = true ∧ dOk cX1_readComponent [(163, .aload_n 0, 1), (164, .getfield 15, 3), (167, .getfield 113, 3), (170, .lload_n 1, 1), (171, .invokevirtual 91, 3), (174, .pop, 1), (175, .aload_n 0, 1), (176, .aload_n 3, 1), (177, .putfield 24, 3), (180, .iconst 1, 1), (181, .ireturn, 1), (33, .iconst 0, 1), (34, .ireturn, 1), (13, .aload_n 0, 1), (14, .iconst 5, 1), (15, .invokevirtual 47, 3), (18, .ireturn, 1)] = true := by decide +kernel
theorem dX1_readComponent_0 : decode cX1_readComponent 0 = .ok (.aload_n 0, 1) := dr9 dk9_dX1_readComponent_0_0.1 0 (0, .aload_n 0, 1) rfl
theorem dX1_readComponent_1 : decode cX1_readComponent 1 = .ok (.getfield 15, 3) := dr9 dk9_dX1_readComponent_0_0.1 1 (1, .getfield 15, 3) rfl
theorem dX1_readComponent_4 : decode cX1_readComponent 4 = .ok (.getfield 113, 3) := dr9 dk9_dX1_readComponent_0_0.1 2 (4, .getfield 113, 3) rfl
theorem dX1_readComponent_7 : decode cX1_readComponent 7 = .ok (.invokevirtual 67, 3) := dr9 dk9_dX1_readComponent_0_0.1 3 (7, .invokevirtual 67, 3) rfl
theorem dX1_readComponent_10 : decode cX1_readComponent 10 = .ok (.ifCond .eq 9, 3) := dr9 dk9_dX1_readComponent_0_0.1 4 (10, .ifCond .eq 9, 3) rfl
theorem dX1_readComponent_19 : decode cX1_readComponent 19 = .ok (.aload_n 0, 1) := dr9 dk9_dX1_readComponent_0_0.1 5 (19, .aload_n 0, 1) rfl
theorem dX1_readComponent_20 : decode cX1_readComponent 20 = .ok (.getfield 9, 3) := dr9 dk9_dX1_readComponent_0_0.1 6 (20, .getfield 9, 3) rfl
theorem dX1_readComponent_23 : decode cX1_readComponent 23 = .ok (.invokevirtual 72, 3) := dr9 dk9_dX1_readComponent_0_0.1 7 (23, .invokevirtual 72, 3) rfl
theorem dX1_readComponent_26 : decode cX1_readComponent 26 = .ok (.aload_n 0, 1) := dr9 dk9_dX1_readComponent_0_0.1 8 (26, .aload_n 0, 1) rfl
theorem dX1_readComponent_27 : decode cX1_readComponent 27 = .ok (.invokevirtual 75, 3) := dr9 dk9_dX1_readComponent_0_0.1 9 (27, .invokevirtual 75, 3) rfl
theorem dX1_readComponent_30 : decode cX1_readComponent 30 = .ok (.ifCond .ne 5, 3) := dr9 dk9_dX1_readComponent_0_0.1 10 (30, .ifCond .ne 5, 3) rfl
theorem dX1_readComponent_35 : decode cX1_readComponent 35 = .ok (.aload_n 0, 1) := dr9 dk9_dX1_readComponent_0_0.1 11 (35, .aload_n 0, 1) rfl
theorem dX1_readComponent_36 : decode cX1_readComponent 36 = .ok (.getfield 78, 3) := dr9 dk9_dX1_readComponent_0_0.1 12 (36, .getfield 78, 3) rfl
theorem dX1_readComponent_39 : decode cX1_readComponent 39 = .ok (.lstore_n 1, 1) := dr9 dk9_dX1_readComponent_0_0.1 13 (39, .lstore_n 1, 1) rfl
theorem dX1_readComponent_40 : decode cX1_readComponent 40 = .ok (.aload_n 0, 1) := dr9 dk9_dX1_readComponent_0_0.1 14 (40, .aload_n 0, 1) rfl
theorem dX1_readComponent_41 : decode cX1_readComponent 41 = .ok (.sipush 132, 3) := dr9 dk9_dX1_readComponent_0_0.1 15 (41, .sipush 132, 3) rfl
theorem dX1_readComponent_44 : decode cX1_readComponent 44 = .ok (.invokevirtual 88, 3) := dr9 dk9_dX1_readComponent_0_0.1 16 (44, .invokevirtual 88, 3) rfl
theorem dX1_readComponent_47 : decode cX1_readComponent 47 = .ok (.ifCond .eq 10, 3) := dr9 dk9_dX1_readComponent_0_0.1 17 (47, .ifCond .eq 10, 3) rfl
theorem dX1_readComponent_57 : decode cX1_readComponent 57 = .ok (.iconst 0, 1) := dr9 dk9_dX1_readComponent_0_0.1 18 (57, .iconst 0, 1) rfl
theorem dX1_readComponent_58 : decode cX1_readComponent 58 = .ok (.ireturn, 1) := dr9 dk9_dX1_readComponent_0_0.1 19 (58, .ireturn, 1) rfl
theorem dX1_readComponent_50 : decode cX1_readComponent 50 = .ok (.aload_n 0, 1) := dr9 dk9_dX1_readComponent_0_0.1 20 (50, .aload_n 0, 1) rfl
theorem dX1_readComponent_51 : decode cX1_readComponent 51 = .ok (.invokevirtual 85, 3) := dr9 dk9_dX1_readComponent_0_0.1 21 (51, .invokevirtual 85, 3) rfl
theorem dX1_readComponent_54 : decode cX1_readComponent 54 = .ok (.ifCond .ne 5, 3) := dr9 dk9_dX1_readComponent_0_0.1 22 (54, .ifCond .ne 5, 3) rfl
theorem dX1_readComponent_59 : decode cX1_readComponent 59 = .ok (.aload_n 0, 1) := dr9 dk9_dX1_readComponent_0_0.1 23 (59, .aload_n 0, 1) rfl
theorem dX1_readComponent_60 : decode cX1_readComponent 60 = .ok (.getfield 9, 3) := dr9 dk9_dX1_readComponent_0_0.2.1 0 (60, .getfield 9, 3) rfl
theorem dX1_readComponent_63 : decode cX1_readComponent 63 = .ok (.getfield 37, 3) := dr9 dk9_dX1_readComponent_0_0.2.1 1 (63, .getfield 37, 3) rfl
theorem dX1_readComponent_66 : decode cX1_readComponent 66 = .ok (.sipush 148, 3) := dr9 dk9_dX1_readComponent_0_0.2.1 2 (66, .sipush 148, 3) rfl
theorem dX1_readComponent_69 : decode cX1_readComponent 69 = .ok (.if_icmp .lt 16, 3) := dr9 dk9_dX1_readComponent_0_0.2.1 3 (69, .if_icmp .lt 16, 3) rfl
theorem dX1_readComponent_85 : decode cX1_readComponent 85 = .ok (.aload_n 0, 1) := dr9 dk9_dX1_readComponent_0_0.2.1 4 (85, .aload_n 0, 1) rfl
theorem dX1_readComponent_86 : decode cX1_readComponent 86 = .ok (.iconst 1, 1) := dr9 dk9_dX1_readComponent_0_0.2.1 5 (86, .iconst 1, 1) rfl
theorem dX1_readComponent_87 : decode cX1_readComponent 87 = .ok (.invokevirtual 47, 3) := dr9 dk9_dX1_readComponent_0_0.2.1 6 (87, .invokevirtual 47, 3) rfl
theorem dX1_readComponent_90 : decode cX1_readComponent 90 = .ok (.ireturn, 1) := dr9 dk9_dX1_readComponent_0_0.2.1 7 (90, .ireturn, 1) rfl
theorem dX1_readComponent_72 : decode cX1_readComponent 72 = .ok (.aload_n 0, 1) := dr9 dk9_dX1_readComponent_0_0.2.1 8 (72, .aload_n 0, 1) rfl
theorem dX1_readComponent_73 : decode cX1_readComponent 73 = .ok (.getfield 9, 3) := dr9 dk9_dX1_readComponent_0_0.2.1 9 (73, .getfield 9, 3) rfl
theorem dX1_readComponent_76 : decode cX1_readComponent 76 = .ok (.getfield 37, 3) := dr9 dk9_dX1_readComponent_0_0.2.1 10 (76, .getfield 37, 3) rfl
theorem dX1_readComponent_79 : decode cX1_readComponent 79 = .ok (.sipush 151, 3) := dr9 dk9_dX1_readComponent_0_0.2.1 11 (79, .sipush 151, 3) rfl
theorem dX1_readComponent_82 : decode cX1_readComponent 82 = .ok (.if_icmp .le 9, 3) := dr9 dk9_dX1_readComponent_0_0.2.1 12 (82, .if_icmp .le 9, 3) rfl
theorem dX1_readComponent_91 : decode cX1_readComponent 91 = .ok (.aload_n 0, 1) := dr9 dk9_dX1_readComponent_0_0.2.1 13 (91, .aload_n 0, 1) rfl
theorem dX1_readComponent_92 : decode cX1_readComponent 92 = .ok (.getfield 15, 3) := dr9 dk9_dX1_readComponent_0_0.2.1 14 (92, .getfield 15, 3) rfl
theorem dX1_readComponent_95 : decode cX1_readComponent 95 = .ok (.getfield 116, 3) := dr9 dk9_dX1_readComponent_0_0.2.1 15 (95, .getfield 116, 3) rfl
theorem dX1_readComponent_98 : decode cX1_readComponent 98 = .ok (.aload_n 0, 1) := dr9 dk9_dX1_readComponent_0_0.2.1 16 (98, .aload_n 0, 1) rfl
theorem dX1_readComponent_99 : decode cX1_readComponent 99 = .ok (.getfield 15, 3) := dr9 dk9_dX1_readComponent_0_0.2.1 17 (99, .getfield 15, 3) rfl
theorem dX1_readComponent_102 : decode cX1_readComponent 102 = .ok (.getfield 113, 3) := dr9 dk9_dX1_readComponent_0_0.2.1 18 (102, .getfield 113, 3) rfl
theorem dX1_readComponent_105 : decode cX1_readComponent 105 = .ok (.getfield 120, 3) := dr9 dk9_dX1_readComponent_0_0.2.1 19 (105, .getfield 120, 3) rfl
theorem dX1_readComponent_108 : decode cX1_readComponent 108 = .ok (.aaload, 1) := dr9 dk9_dX1_readComponent_0_0.2.1 20 (108, .aaload, 1) rfl
theorem dX1_readComponent_109 : decode cX1_readComponent 109 = .ok (.astore_n 3, 1) := dr9 dk9_dX1_readComponent_0_0.2.1 21 (109, .astore_n 3, 1) rfl
theorem dX1_readComponent_110 : decode cX1_readComponent 110 = .ok (.aload_n 3, 1) := dr9 dk9_dX1_readComponent_0_0.2.1 22 (110, .aload_n 3, 1) rfl
theorem dX1_readComponent_111 : decode cX1_readComponent 111 = .ok (.invokevirtual 123, 3) := dr9 dk9_dX1_readComponent_0_0.2.1 23 (111, .invokevirtual 123, 3) rfl
theorem dX1_readComponent_114 : decode cX1_readComponent 114 = .ok (.aload_n 3, 1) := dr9 dk9_dX1_readComponent_0_0.2.2.1 0 (114, .aload_n 3, 1) rfl
theorem dX1_readComponent_115 : decode cX1_readComponent 115 = .ok (.aload_n 0, 1) := dr9 dk9_dX1_readComponent_0_0.2.2.1 1 (115, .aload_n 0, 1) rfl
theorem dX1_readComponent_116 : decode cX1_readComponent 116 = .ok (.getfield 82, 3) := dr9 dk9_dX1_readComponent_0_0.2.2.1 2 (116, .getfield 82, 3) rfl
theorem dX1_readComponent_119 : decode cX1_readComponent 119 = .ok (.putfield 126, 3) := dr9 dk9_dX1_readComponent_0_0.2.2.1 3 (119, .putfield 126, 3) rfl
theorem dX1_readComponent_122 : decode cX1_readComponent 122 = .ok (.aload_n 3, 1) := dr9 dk9_dX1_readComponent_0_0.2.2.1 4 (122, .aload_n 3, 1) rfl
theorem dX1_readComponent_123 : decode cX1_readComponent 123 = .ok (.aload_n 0, 1) := dr9 dk9_dX1_readComponent_0_0.2.2.1 5 (123, .aload_n 0, 1) rfl
theorem dX1_readComponent_124 : decode cX1_readComponent 124 = .ok (.getfield 9, 3) := dr9 dk9_dX1_readComponent_0_0.2.2.1 6 (124, .getfield 9, 3) rfl
theorem dX1_readComponent_127 : decode cX1_readComponent 127 = .ok (.getfield 37, 3) := dr9 dk9_dX1_readComponent_0_0.2.2.1 7 (127, .getfield 37, 3) rfl
theorem dX1_readComponent_130 : decode cX1_readComponent 130 = .ok (.sipush 148, 3) := dr9 dk9_dX1_readComponent_0_0.2.2.1 8 (130, .sipush 148, 3) rfl
theorem dX1_readComponent_133 : decode cX1_readComponent 133 = .ok (.isub, 1) := dr9 dk9_dX1_readComponent_0_0.2.2.1 9 (133, .isub, 1) rfl
theorem dX1_readComponent_134 : decode cX1_readComponent 134 = .ok (.putfield 127, 3) := dr9 dk9_dX1_readComponent_0_0.2.2.1 10 (134, .putfield 127, 3) rfl
theorem dX1_readComponent_137 : decode cX1_readComponent 137 = .ok (.aload_n 0, 1) := dr9 dk9_dX1_readComponent_0_0.2.2.1 11 (137, .aload_n 0, 1) rfl
theorem dX1_readComponent_138 : decode cX1_readComponent 138 = .ok (.getfield 9, 3) := dr9 dk9_dX1_readComponent_0_0.2.2.1 12 (138, .getfield 9, 3) rfl
theorem dX1_readComponent_141 : decode cX1_readComponent 141 = .ok (.invokevirtual 72, 3) := dr9 dk9_dX1_readComponent_0_0.2.2.1 13 (141, .invokevirtual 72, 3) rfl
theorem dX1_readComponent_144 : decode cX1_readComponent 144 = .ok (.aload_n 0, 1) := dr9 dk9_dX1_readComponent_0_0.2.2.1 14 (144, .aload_n 0, 1) rfl
theorem dX1_readComponent_145 : decode cX1_readComponent 145 = .ok (.aload_n 3, 1) := dr9 dk9_dX1_readComponent_0_0.2.2.1 15 (145, .aload_n 3, 1) rfl
theorem dX1_readComponent_146 : decode cX1_readComponent 146 = .ok (.invokevirtual 130, 3) := dr9 dk9_dX1_readComponent_0_0.2.2.1 16 (146, .invokevirtual 130, 3) rfl
theorem dX1_readComponent_149 : decode cX1_readComponent 149 = .ok (.ifCond .eq 12, 3) := dr9 dk9_dX1_readComponent_0_0.2.2.1 17 (149, .ifCond .eq 12, 3) rfl
theorem dX1_readComponent_161 : decode cX1_readComponent 161 = .ok (.iconst 0, 1) := dr9 dk9_dX1_readComponent_0_0.2.2.1 18 (161, .iconst 0, 1) rfl
theorem dX1_readComponent_162 : decode cX1_readComponent 162 = .ok (.ireturn, 1) := dr9 dk9_dX1_readComponent_0_0.2.2.1 19 (162, .ireturn, 1) rfl
theorem dX1_readComponent_152 : decode cX1_readComponent 152 = .ok (.aload_n 0, 1) := dr9 dk9_dX1_readComponent_0_0.2.2.1 20 (152, .aload_n 0, 1) rfl
theorem dX1_readComponent_153 : decode cX1_readComponent 153 = .ok (.bipush 123, 2) := dr9 dk9_dX1_readComponent_0_0.2.2.1 21 (153, .bipush 123, 2) rfl
theorem dX1_readComponent_155 : decode cX1_readComponent 155 = .ok (.invokevirtual 88, 3) := dr9 dk9_dX1_readComponent_0_0.2.2.1 22 (155, .invokevirtual 88, 3) rfl
theorem dX1_readComponent_158 : decode cX1_readComponent 158 = .ok (.ifCond .ne 5, 3) := dr9 dk9_dX1_readComponent_0_0.2.2.1 23 (158, .ifCond .ne 5, 3) rfl
theorem dX1_readComponent_163 : decode cX1_readComponent 163 = .ok (.aload_n 0, 1) := dr9 dk9_dX1_readComponent_0_0.2.2.2 0 (163, .aload_n 0, 1) rfl
theorem dX1_readComponent_164 : decode cX1_readComponent 164 = .ok (.getfield 15, 3) := dr9 dk9_dX1_readComponent_0_0.2.2.2 1 (164, .getfield 15, 3) rfl
theorem dX1_readComponent_167 : decode cX1_readComponent 167 = .ok (.getfield 113, 3) := dr9 dk9_dX1_readComponent_0_0.2.2.2 2 (167, .getfield 113, 3) rfl
theorem dX1_readComponent_170 : decode cX1_readComponent 170 = .ok (.lload_n 1, 1) := dr9 dk9_dX1_readComponent_0_0.2.2.2 3 (170, .lload_n 1, 1) rfl
theorem dX1_readComponent_171 : decode cX1_readComponent 171 = .ok (.invokevirtual 91, 3) := dr9 dk9_dX1_readComponent_0_0.2.2.2 4 (171, .invokevirtual 91, 3) rfl
theorem dX1_readComponent_174 : decode cX1_readComponent 174 = .ok (.pop, 1) := dr9 dk9_dX1_readComponent_0_0.2.2.2 5 (174, .pop, 1) rfl
theorem dX1_readComponent_175 : decode cX1_readComponent 175 = .ok (.aload_n 0, 1) := dr9 dk9_dX1_readComponent_0_0.2.2.2 6 (175, .aload_n 0, 1) rfl
theorem dX1_readComponent_176 : decode cX1_readComponent 176 = .ok (.aload_n 3, 1) := dr9 dk9_dX1_readComponent_0_0.2.2.2 7 (176, .aload_n 3, 1) rfl
theorem dX1_readComponent_177 : decode cX1_readComponent 177 = .ok (.putfield 24, 3) := dr9 dk9_dX1_readComponent_0_0.2.2.2 8 (177, .putfield 24, 3) rfl
theorem dX1_readComponent_180 : decode cX1_readComponent 180 = .ok (.iconst 1, 1) := dr9 dk9_dX1_readComponent_0_0.2.2.2 9 (180, .iconst 1, 1) rfl
theorem dX1_readComponent_181 : decode cX1_readComponent 181 = .ok (.ireturn, 1) := dr9 dk9_dX1_readComponent_0_0.2.2.2 10 (181, .ireturn, 1) rfl
theorem dX1_readComponent_33 : decode cX1_readComponent 33 = .ok (.iconst 0, 1) := dr9 dk9_dX1_readComponent_0_0.2.2.2 11 (33, .iconst 0, 1) rfl
theorem dX1_readComponent_34 : decode cX1_readComponent 34 = .ok (.ireturn, 1) := dr9 dk9_dX1_readComponent_0_0.2.2.2 12 (34, .ireturn, 1) rfl
theorem dX1_readComponent_13 : decode cX1_readComponent 13 = .ok (.aload_n 0, 1) := dr9 dk9_dX1_readComponent_0_0.2.2.2 13 (13, .aload_n 0, 1) rfl
theorem dX1_readComponent_14 : decode cX1_readComponent 14 = .ok (.iconst 5, 1) := dr9 dk9_dX1_readComponent_0_0.2.2.2 14 (14, .iconst 5, 1) rfl
theorem dX1_readComponent_15 : decode cX1_readComponent 15 = .ok (.invokevirtual 47, 3) := dr9 dk9_dX1_readComponent_0_0.2.2.2 15 (15, .invokevirtual 47, 3) rfl
theorem dX1_readComponent_18 : decode cX1_readComponent 18 = .ok (.ireturn, 1) := dr9 dk9_dX1_readComponent_0_0.2.2.2 16 (18, .ireturn, 1) rfl
theorem dk9_dX1_readStatement_0_0 : dOk cX1_readStatement [(0, .aload_n 0, 1), (1, .getfield 9, 3), (4, .getfield 37, 3), (7, .tableswitch 69 128 136 #[49, 69, 54, 59, 69, 69, 69, 69, 64], 49), (56, .aload_n 0, 1), (57, .invokevirtual 51, 3), (60, .ireturn, 1), (76, .aload_n 0, 1), (77, .iconst 1, 1), (78, .invokevirtual 47, 3), (81, .ireturn, 1), (61, .aload_n 0, 1), (62, .invokevirtual 54, 3), (65, .ireturn, 1), (66, .aload_n 0, 1), (67, .invokevirtual 57, 3), (70, .ireturn, 1), (71, .aload_n 0, 1), (72, .invokevirtual 60, 3), (75, .ireturn, 1)] = true := by decide +kernel
theorem dX1_readStatement_0 : decode cX1_readStatement 0 = .ok (.aload_n 0, 1) := dr9 dk9_dX1_readStatement_0_0 0 (0, .aload_n 0, 1) rfl
theorem dX1_readStatement_1 : decode cX1_readStatement 1 = .ok (.getfield 9, 3) := dr9 dk9_dX1_readStatement_0_0 1 (1, .getfield 9, 3) rfl
theorem dX1_readStatement_4 : decode cX1_readStatement 4 = .ok (.getfield 37, 3) := dr9 dk9_dX1_readStatement_0_0 2 (4, .getfield 37, 3) rfl
theorem dX1_readStatement_7 : decode cX1_readStatement 7 = .ok (.tableswitch 69 128 136 #[49, 69, 54, 59, 69, 69, 69, 69, 64], 49) := dr9 dk9_dX1_readStatement_0_0 3 (7, .tableswitch 69 128 136 #[49, 69, 54, 59, 69, 69, 69, 69, 64], 49) rfl
theorem dX1_readStatement_56 : decode cX1_readStatement 56 = .ok (.aload_n 0, 1) := dr9 dk9_dX1_readStatement_0_0 4 (56, .aload_n 0, 1) rfl
theorem dX1_readStatement_57 : decode cX1_readStatement 57 = .ok (.invokevirtual 51, 3) := dr9 dk9_dX1_readStatement_0_0 5 (57, .invokevirtual 51, 3) rfl
theorem dX1_readStatement_60 : decode cX1_readStatement 60 = .ok (.ireturn, 1) := dr9 dk9_dX1_readStatement_0_0 6 (60, .ireturn, 1) rfl
theorem dX1_readStatement_76 : decode cX1_readStatement 76 = .ok (.aload_n 0, 1) := dr9 dk9_dX1_readStatement_0_0 7 (76, .aload_n 0, 1) rfl
theorem dX1_readStatement_77 : decode cX1_readStatement 77 = .ok (.iconst 1, 1) := dr9 dk9_dX1_readStatement_0_0 8 (77, .iconst 1, 1) rfl
theorem dX1_readStatement_78 : decode cX1_readStatement 78 = .ok (.invokevirtual 47, 3) := dr9 dk9_dX1_readStatement_0_0 9 (78, .invokevirtual 47, 3) rfl
theorem dX1_readStatement_81 : decode cX1_readStatement 81 = .ok (.ireturn, 1) := dr9 dk9_dX1_readStatement_0_0 10 (81, .ireturn, 1) rfl
theorem dX1_readStatement_61 : decode cX1_readStatement 61 = .ok (.aload_n 0, 1) := dr9 dk9_dX1_readStatement_0_0 11 (61, .aload_n 0, 1) rfl
theorem dX1_readStatement_62 : decode cX1_readStatement 62 = .ok (.invokevirtual 54, 3) := dr9 dk9_dX1_readStatement_0_0 12 (62, .invokevirtual 54, 3) rfl
theorem dX1_readStatement_65 : decode cX1_readStatement 65 = .ok (.ireturn, 1) := dr9 dk9_dX1_readStatement_0_0 13 (65, .ireturn, 1) rfl
theorem dX1_readStatement_66 : decode cX1_readStatement 66 = .ok (.aload_n 0, 1) := dr9 dk9_dX1_readStatement_0_0 14 (66, .aload_n 0, 1) rfl
theorem dX1_readStatement_67 : decode cX1_readStatement 67 = .ok (.invokevirtual 57, 3) := dr9 dk9_dX1_readStatement_0_0 15 (67, .invokevirtual 57, 3) rfl
theorem dX1_readStatement_70 : decode cX1_readStatement 70 = .ok (.ireturn, 1) := dr9 dk9_dX1_readStatement_0_0 16 (70, .ireturn, 1) rfl
theorem dX1_readStatement_71 : decode cX1_readStatement 71 = .ok (.aload_n 0, 1) := dr9 dk9_dX1_readStatement_0_0 17 (71, .aload_n 0, 1) rfl
theorem dX1_readStatement_72 : decode cX1_readStatement 72 = .ok (.invokevirtual 60, 3) := dr9 dk9_dX1_readStatement_0_0 18 (72, .invokevirtual 60, 3) rfl
theorem dX1_readStatement_75 : decode cX1_readStatement 75 = .ok (.ireturn, 1) := dr9 dk9_dX1_readStatement_0_0 19 (75, .ireturn, 1) rfl
abbrev r_x_readComponent : Room := { frames := 4, cells := 0, slots := 0, locals := 85 }
abbrev q_x_readComponent (D : va_G) (ks : KS) (ad : Nat → Nat) (kk : Nat → ClassId) (V : Vf) (L : Lf) (Z : XZ) (b : Nat) (A : Nat → Prop) : Array Value → State → Outcome → State → Prop := va_Qi (fun (r : Int32) (u : Vf × Lf) => rgd bX u.1 ∧ agr [(1, 2), (1, 3), (1, 6), (1, 7), (1, 8), (6, 8), (6, 9), (6, 10)] [43, 44, 49, 50, 51, 52, 53, 54, 55, 56, 57, 61] V u.1 ∧ agL [1, 6, 44] L u.2 ∧ frX (xR b) V u.1 ∧ (0 ≤ r.toInt ∧ r.toInt ≤ 1) ∧ (Imp (r.toInt = 1) (TX u.1 b)) ∧ (CD u.1 b) ∧ (p0x V u.1 b) ∧ ((u.1 1 2).toInt = (V 1 2).toInt ∨ (24 * (b : Int) ≤ (u.1 1 2).toInt ∧ (u.1 1 2).toInt < 24 * (b : Int) + 24)) ∧ (Imp (r.toInt = 0) (1 ≤ (u.1 1 3).toInt))) (fun u t => gq D A (xw ad kk u.1 u.2 Z) (xty kk Z) t) A
set_option maxHeartbeats 4000000 in
set_option maxRecDepth 100000 in
theorem x_readComponent (l : Launch) (D : va_G) (ks : KS) (sz : Nat) (ad : Nat → Nat) (kk : Nat → ClassId) (V : Vf) (L : Lf) (Z : XZ) (b : Nat) (hMV : rgd bX V) (hb2 : b < 2) (rbk : (V 1 1).toInt = (b : Int)) (cd : CD V b) (tx : TX V b)  : Met l yX1_readComponent (Cond.code yX1_readComponent cX1_readComponent 4 (some .boolean) :: GW) r_x_readComponent (va_Pc [.ref (ad 1)] (gp D ks (xw ad kk V L Z) (xty kk Z) sz)) (q_x_readComponent D ks ad kk V L Z  b (va_A (xw ad kk V L Z) sz)) 0 0 (va_A (xw ad kk V L Z) sz) := by
  refine g_met (q_x_readComponent D ks ad kk V L Z  b) (by decide) (Nat.le_of_ble_eq_true rfl) ?_
  intro p e s m below meth c A ls H locs hx hb hr hml hown hg hlocks hin hnw hgk hP hK hD hS hA hl
  have hown : s.vm.findClass RX1 = some m.cls := hown
  have hl : lv_has ls 4 [(0, .ref (ad 1))] := hl
  have hP : va_P D vwCl (xw ad kk V L Z) H := hP
  have hD : va_D A (xw ad kk V L Z) := hD
  have hK : va_K D vwCl (xty kk Z) s := hK
  have agV : agr [(1, 2), (1, 3), (1, 6), (1, 7), (1, 8), (6, 8), (6, 9), (6, 10)] [43, 44, 49, 50, 51, 52, 53, 54, 55, 56, 57, 61] V V := agr.rf
  have alL : agL [1, 6, 44] L L := agL.rf
  have fwV : frX (xR b) V V := frX.rf
  have r1 : (-1) ≤ ((V 1 1)).toInt ∧ ((V 1 1)).toInt ≤ 1 := hMV 1 1
  refine lv_aload_n hx hb dX1_readComponent_0 rfl (lv_at hl 0 rfl) ?_
  refine va_get (D := D) (ci := 1) (v := rfN ad 38 (V 1 1)) (fs := (xfReader ad V L Z)) (C := RX1) (T := TX1) (N := 9) hx hb hg inX1 hown hK hP 1 xgReader rfl 1 (by decide) (hg _ w305) (fun _ h9 => h9) rfl dX1_readComponent_1 ?_
  refine g_topv (v := .ref (ad (38 + b))) (rfN_r (by first | omega | ((try (have i_tx := Imp.go tx (by omega))); (try (have i_cd := Imp.go cd (by omega))); (try (have i_cd := Imp.go cd (by omega))); (try (have i_tx := Imp.go tx (by omega))); omega))) ?_
  refine va_getN (D := D) (ci := 0) (v := .ref (ad (40 + (5 * b + 2)))) (fs := (xfBook ad V b)) (C := RX0) (T := TX0) (N := 13) hx hb hg inX0 hown hK hP (38 + b) (xgBook hb2) rfl 2 (by decide) (hnw.use 601 n601 rfl) (fun _ h9 => h9) rfl dX1_readComponent_4 ?_
  have il2 : (5 * b + 2) < 10 := by first | exact om_1478e52fbf50 hb2 | first | omega | ((try (have i_tx := Imp.go tx (by omega))); (try (have i_cd := Imp.go cd (by omega))); (try (have i_cd := Imp.go cd (by omega))); (try (have i_tx := Imp.go tx (by omega))); omega)
  refine gA_int (gA_runV (As := []) (rest := []) (ci := 6) (q0 := (40 + (5 * b + 2))) hx hb hml hown hg hP hD hK hS hA hnw hgk (x_isFull l D ks H.size ad kk V L Z ((5 * b + 2)) hMV (show (5 * b + 2) < 10 from by first | exact om_1478e52fbf50 hb2 | first | omega | ((try (have i_tx := Imp.go tx (by omega))); (try (have i_cd := Imp.go cd (by omega))); (try (have i_cd := Imp.go cd (by omega))); (try (have i_tx := Imp.go tx (by omega))); omega))) w863 w864 w865 w168 w866 rfl (xgNames il2) hdV_yX6_isFull ⟨Nat.le_of_ble_eq_true rfl, Nat.le_of_ble_eq_true rfl⟩ rfl hl.1 rfl (Nat.le_of_ble_eq_true rfl) dX1_readComponent_7 ⟨Nat.le_of_ble_eq_true rfl, Nat.le_of_ble_eq_true rfl⟩) hP hD hK hS hA (fun z3 u4 H locs w5 hP hD hK hS => ?_)
  obtain ⟨rgz3, t6⟩ := w5
  have rgz3 : 0 ≤ z3.toInt ∧ z3.toInt ≤ 1 := rgz3
  have t6 : Imp (z3.toInt = 0) ((V 43 (5 * b + 2)).toInt < ((xcap (5 * b + 2) : Nat) : Int)) := t6
  refine lv_if_eq (tgt := 19) hx hb dX1_readComponent_10 (by decide) (fun c7 => ?_) (fun c7 => ?_)
  · skip
    have f8 : z3.toInt = 0 := b_eq rfl (by decide) c7
    refine lv_aload_n hx hb dX1_readComponent_19 rfl (lv_at hl 0 rfl) ?_
    have r9 : xcap (5 * b + 2) = 24 := xcap_2
    refine va_get (D := D) (ci := 1) (v := .ref (ad 6)) (fs := (xfReader ad V L Z)) (C := RX1) (T := TX1) (N := 9) hx hb hg inX1 hown hK hP 1 xgReader rfl 0 (by decide) (hg _ w304) (fun _ h9 => h9) rfl dX1_readComponent_20 ?_
    refine gA_void (gA_runV (As := []) (rest := []) (ci := 9) (q0 := 6) hx hb hml hown hg hP hD hK hS hA hnw hgk (x_next l D ks H.size ad kk V L Z  hMV ) w871 w852 w853 w157 w854 rfl xgTape hdV_yX9_next ⟨Nat.le_of_ble_eq_true rfl, Nat.le_of_ble_eq_true rfl⟩ rfl hl.1 rfl (Nat.le_of_ble_eq_true rfl) dX1_readComponent_23 ⟨Nat.le_of_ble_eq_true rfl, Nat.le_of_ble_eq_true rfl⟩) hP hD hK hS hA (fun u11 H locs w12 hP hD hK hS => ?_)
    obtain ⟨V13, L14⟩ := u11
    obtain ⟨hMV13, ajV13, axL14⟩ := w12
    have alL14 : agL [1, 6, 44] L L14 := agL.tr alL axL14 (by decide)
    have hP : va_P D vwCl (xw ad kk V13 L14 Z) H := hP
    have hD : va_D A (xw ad kk V13 L14 Z) := hD
    have hMV13 : rgd bX V13 := hMV13
    have ajV13 : agr [(6, 8), (6, 9), (6, 10)] [] V V13 := ajV13
    have agV13 : agr [(1, 2), (1, 3), (1, 6), (1, 7), (1, 8), (6, 8), (6, 9), (6, 10)] [43, 44, 49, 50, 51, 52, 53, 54, 55, 56, 57, 61] V V13 := agV.tr ajV13 (by decide) (by decide)
    have fwV13 : frX (xR b) V V13 := frX.tr fwV (frX.ag ajV13 (by decide) (by decide))
    refine lv_aload_n hx hb dX1_readComponent_26 rfl (lv_at hl 0 rfl) ?_
    have pq15 : (V13 1 1).toInt = ((V 1 1)).toInt := congrArg Int32.toInt (ajV13 1 1 rfl)
    refine gA_int (gA_runV (As := []) (rest := []) (ci := 1) (q0 := 1) hx hb hml hown hg hP hD hK hS hA hnw hgk (x_takeNewName l D ks H.size ad kk V13 L14 Z (b) hMV13 (show b < 2 from by first | exact om_f940a4667dd6 hb2 | first | omega | ((try (have i_t6 := Imp.go t6 (by omega))); (try (have i_tx := Imp.go tx (by omega))); (try (have i_cd := Imp.go cd (by omega))); (try (have i_cd := Imp.go cd (by omega))); (try (have i_tx := Imp.go tx (by omega))); (try (have i_t6 := Imp.go t6 (by omega))); omega)) (show (V13 1 1).toInt = (b : Int) from by first | exact om_adf531c77a0d rbk pq15 | first | omega | ((try (have i_t6 := Imp.go t6 (by omega))); (try (have i_tx := Imp.go tx (by omega))); (try (have i_cd := Imp.go cd (by omega))); (try (have i_cd := Imp.go cd (by omega))); (try (have i_tx := Imp.go tx (by omega))); (try (have i_t6 := Imp.go t6 (by omega))); omega))) w872 w874 w7 w162 w875 rfl xgReader hdV_yX1_takeNewName ⟨Nat.le_of_ble_eq_true rfl, Nat.le_of_ble_eq_true rfl⟩ rfl hl.1 rfl (Nat.le_of_ble_eq_true rfl) dX1_readComponent_27 ⟨Nat.le_of_ble_eq_true rfl, Nat.le_of_ble_eq_true rfl⟩) hP hD hK hS hA (fun z16 u17 H locs w18 hP hD hK hS => ?_)
    obtain ⟨V20, L21⟩ := u17
    obtain ⟨hMV20, ajV20, axL21, rgz16, t19⟩ := w18
    have alL21 : agL [1, 6, 44] L L21 := agL.tr alL14 axL21 (by decide)
    have hP : va_P D vwCl (xw ad kk V20 L21 Z) H := hP
    have hD : va_D A (xw ad kk V20 L21 Z) := hD
    have hMV20 : rgd bX V20 := hMV20
    have ajV20 : agr [(1, 3), (6, 8), (6, 9), (6, 10)] [] V13 V20 := ajV20
    have agV20 : agr [(1, 2), (1, 3), (1, 6), (1, 7), (1, 8), (6, 8), (6, 9), (6, 10)] [43, 44, 49, 50, 51, 52, 53, 54, 55, 56, 57, 61] V V20 := agV13.tr ajV20 (by decide) (by decide)
    have fwV20 : frX (xR b) V V20 := frX.tr fwV13 (frX.ag ajV20 (by decide) (by decide))
    have rgz16 : 0 ≤ z16.toInt ∧ z16.toInt ≤ 1 := rgz16
    have t19 : Imp (z16.toInt = 0) (1 ≤ (V20 1 3).toInt) := t19
    refine lv_if_ne (tgt := 35) hx hb dX1_readComponent_30 (by decide) (fun c22 => ?_) (fun c22 => ?_)
    · skip
      have f23 : z16.toInt ≠ 0 := b_neq rfl (by decide) c22
      refine lv_aload_n hx hb dX1_readComponent_35 rfl (lv_at hl 0 rfl) ?_
      refine va_get (D := D) (ci := 1) (v := .long (L21 1 5)) (fs := (xfReader ad V20 L21 Z)) (C := RX1) (T := TX1) (N := 9) hx hb hg inX1 hown hK hP 1 xgReader rfl 5 (by decide) (hg _ w309) (fun _ h9 => h9) rfl dX1_readComponent_36 ?_
      refine lv_topl (fun w24 ew24 => ?_)
      refine lv_lstore_n (lv' := [(1, .long w24), (0, .ref (ad 1))]) hx hb dX1_readComponent_39 rfl hl (by decide) rfl (fun ls hl => ?_)
      refine lv_aload_n hx hb dX1_readComponent_40 rfl (lv_at hl 1 rfl) ?_
      refine lv_sipush (v := 132) hx hb dX1_readComponent_41 (by decide) ?_
      have r25 : Int32.toInt 132 = 132 := by decide
      refine gA_int (gA_runV (As := [.int 132]) (rest := []) (ci := 1) (q0 := 1) hx hb hml hown hg hP hD hK hS hA hnw hgk (x_take l D ks H.size ad kk V20 L21 Z 132 hMV20 ) w893 w895 w10 w162 w896 rfl xgReader hdV_yX1_take ⟨Nat.le_of_ble_eq_true rfl, Nat.le_of_ble_eq_true rfl⟩ rfl hl.1 rfl (Nat.le_of_ble_eq_true rfl) dX1_readComponent_44 ⟨Nat.le_of_ble_eq_true rfl, Nat.le_of_ble_eq_true rfl⟩) hP hD hK hS hA (fun z26 u27 H locs w28 hP hD hK hS => ?_)
      obtain ⟨V30, L31⟩ := u27
      obtain ⟨hMV30, ajV30, axL31, rgz26, t29⟩ := w28
      have alL31 : agL [1, 6, 44] L L31 := agL.tr alL21 axL31 (by decide)
      have hP : va_P D vwCl (xw ad kk V30 L31 Z) H := hP
      have hD : va_D A (xw ad kk V30 L31 Z) := hD
      have hMV30 : rgd bX V30 := hMV30
      have ajV30 : agr [(1, 3), (6, 8), (6, 9), (6, 10)] [] V20 V30 := ajV30
      have agV30 : agr [(1, 2), (1, 3), (1, 6), (1, 7), (1, 8), (6, 8), (6, 9), (6, 10)] [43, 44, 49, 50, 51, 52, 53, 54, 55, 56, 57, 61] V V30 := agV20.tr ajV30 (by decide) (by decide)
      have fwV30 : frX (xR b) V V30 := frX.tr fwV20 (frX.ag ajV30 (by decide) (by decide))
      have rgz26 : 0 ≤ z26.toInt ∧ z26.toInt ≤ 1 := rgz26
      have t29 : Imp (z26.toInt = 0) (1 ≤ (V30 1 3).toInt) := t29
      refine lv_if_eq (tgt := 57) hx hb dX1_readComponent_47 (by decide) (fun c32 => ?_) (fun c32 => ?_)
      · skip
        have f33 : z26.toInt = 0 := b_eq rfl (by decide) c32
        refine lv_iconst (v := 0) hx hb dX1_readComponent_57 (by decide) ?_
        have pq34 : (V30 1 2).toInt = ((V 1 2)).toInt := congrArg Int32.toInt ((ajV30 1 2 rfl).trans ((ajV20 1 2 rfl).trans (ajV13 1 2 rfl)))
        have r35 : (-1) ≤ ((V 1 2)).toInt ∧ ((V 1 2)).toInt ≤ 47 := hMV 1 2
        have cd36 : CD V30 b := ⟨CB.ag cd.1 (show agr [(1, 3), (6, 8), (6, 9), (6, 10)] [] V V30 from (agr.tr (agr.tr (agr.tr agr.rf ajV13 (by decide) (by decide)) ajV20 (by decide) (by decide)) ajV30 (by decide) (by decide))) (fun _ => rfl) (fun _ => rfl), CO.ag cd.2 (show agr [(1, 3), (6, 8), (6, 9), (6, 10)] [] V V30 from (agr.tr (agr.tr (agr.tr agr.rf ajV13 (by decide) (by decide)) ajV20 (by decide) (by decide)) ajV30 (by decide) (by decide))) (fun _ => rfl) (fun _ => rfl)⟩
        have p037 : p0x V V13 b := p0x.tr (p0x.rf : p0x V V b) (p0x.ag (show agr [(6, 8), (6, 9), (6, 10)] [] V V13 from (agr.tr agr.rf ajV13 (by decide) (by decide))) (fun _ => rfl) (fun _ => rfl))
        have p038 : p0x V V20 b := p0x.tr p037 (p0x.ag (show agr [(1, 3), (6, 8), (6, 9), (6, 10)] [] V13 V20 from (agr.tr agr.rf ajV20 (by decide) (by decide))) (fun _ => rfl) (fun _ => rfl))
        have p039 : p0x V V30 b := p0x.tr p038 (p0x.ag (show agr [(1, 3), (6, 8), (6, 9), (6, 10)] [] V20 V30 from (agr.tr agr.rf ajV30 (by decide) (by decide))) (fun _ => rfl) (fun _ => rfl))
        exact W.zret (v := 0) hx hb hr rfl (fun t ht hW => ⟨⟨0, (V30, L31), rfl, ⟨hMV30, agV30, alL31, fwV30, (by decide), (Imp.mk (fun hp => absurd hp (by decide))), cd36, p039, (show (V30 1 2).toInt = (V 1 2).toInt ∨ (24 * (b : Int) ≤ (V30 1 2).toInt ∧ (V30 1 2).toInt < 24 * (b : Int) + 24) from by first | omega | ((try (have i_t29 := Imp.go t29 (f33))); (try (have i_t6 := Imp.go t6 (f8))); omega) | ((try (have i_t29 := Imp.go t29 (by omega))); (try (have i_t19 := Imp.go t19 (by omega))); (try (have i_t6 := Imp.go t6 (by omega))); (try (have i_tx := Imp.go tx (by omega))); first | omega | ((try (have i_cd := Imp.go cd (by omega))); (try (have i_cd := Imp.go cd (by omega))); (try (have i_tx := Imp.go tx (by omega))); (try (have i_t6 := Imp.go t6 (by omega))); (try (have i_t19 := Imp.go t19 (by omega))); (try (have i_t29 := Imp.go t29 (by omega))); omega))), (Imp.mk (fun _ => (show 1 ≤ (V30 1 3).toInt from by first | exact om_f8d8213eda45 ((Imp.go t29 (f33))) | first | omega | ((try (have i_t29 := Imp.go t29 (f33))); (try (have i_t6 := Imp.go t6 (f8))); omega) | ((try (have i_t29 := Imp.go t29 (by omega))); (try (have i_t19 := Imp.go t19 (by omega))); (try (have i_t6 := Imp.go t6 (by omega))); (try (have i_tx := Imp.go tx (by omega))); first | omega | ((try (have i_cd := Imp.go cd (by omega))); (try (have i_cd := Imp.go cd (by omega))); (try (have i_tx := Imp.go tx (by omega))); (try (have i_t6 := Imp.go t6 (by omega))); (try (have i_t19 := Imp.go t19 (by omega))); (try (have i_t29 := Imp.go t29 (by omega))); omega)))))⟩, by rw [ht]; exact hP, va_K.moved hW.alike hK, hD⟩, hS.F ht⟩) hS.2.2 dX1_readComponent_58
      · skip
        have f40 : z26.toInt ≠ 0 := b_neq rfl (by decide) c32
        refine lv_aload_n hx hb dX1_readComponent_50 rfl (lv_at hl 1 rfl) ?_
        have pq41 : (V30 1 1).toInt = ((V 1 1)).toInt := congrArg Int32.toInt ((ajV30 1 1 rfl).trans ((ajV20 1 1 rfl).trans (ajV13 1 1 rfl)))
        refine gA_int (gA_runV (As := []) (rest := []) (ci := 1) (q0 := 1) hx hb hml hown hg hP hD hK hS hA hnw hgk (x_takeTypes l D ks H.size ad kk V30 L31 Z (b) hMV30 (show b < 2 from by first | exact om_f940a4667dd6 hb2 | first | omega | ((try (have i_t6 := Imp.go t6 (f8))); omega) | ((try (have i_t29 := Imp.go t29 (by omega))); (try (have i_t19 := Imp.go t19 (by omega))); (try (have i_t6 := Imp.go t6 (by omega))); (try (have i_tx := Imp.go tx (by omega))); first | omega | ((try (have i_cd := Imp.go cd (by omega))); (try (have i_cd := Imp.go cd (by omega))); (try (have i_tx := Imp.go tx (by omega))); (try (have i_t6 := Imp.go t6 (by omega))); (try (have i_t19 := Imp.go t19 (by omega))); (try (have i_t29 := Imp.go t29 (by omega))); omega))) (show (V30 1 1).toInt = (b : Int) from by first | exact om_adf531c77a0d rbk pq41 | first | omega | ((try (have i_t6 := Imp.go t6 (f8))); omega) | ((try (have i_t29 := Imp.go t29 (by omega))); (try (have i_t19 := Imp.go t19 (by omega))); (try (have i_t6 := Imp.go t6 (by omega))); (try (have i_tx := Imp.go tx (by omega))); first | omega | ((try (have i_cd := Imp.go cd (by omega))); (try (have i_cd := Imp.go cd (by omega))); (try (have i_tx := Imp.go tx (by omega))); (try (have i_t6 := Imp.go t6 (by omega))); (try (have i_t19 := Imp.go t19 (by omega))); (try (have i_t29 := Imp.go t29 (by omega))); omega)))) w884 w886 w8 w162 w887 rfl xgReader hdV_yX1_takeTypes ⟨Nat.le_of_ble_eq_true rfl, Nat.le_of_ble_eq_true rfl⟩ rfl hl.1 rfl (Nat.le_of_ble_eq_true rfl) dX1_readComponent_51 ⟨Nat.le_of_ble_eq_true rfl, Nat.le_of_ble_eq_true rfl⟩) hP hD hK hS hA (fun z42 u43 H locs w44 hP hD hK hS => ?_)
        obtain ⟨V46, L47⟩ := u43
        obtain ⟨hMV46, ajV46, axL47, rgz42, t45⟩ := w44
        have alL47 : agL [1, 6, 44] L L47 := agL.tr alL31 axL47 (by decide)
        have hP : va_P D vwCl (xw ad kk V46 L47 Z) H := hP
        have hD : va_D A (xw ad kk V46 L47 Z) := hD
        have hMV46 : rgd bX V46 := hMV46
        have ajV46 : agr [(1, 3), (1, 6), (1, 7), (6, 8), (6, 9), (6, 10)] [] V30 V46 := ajV46
        have agV46 : agr [(1, 2), (1, 3), (1, 6), (1, 7), (1, 8), (6, 8), (6, 9), (6, 10)] [43, 44, 49, 50, 51, 52, 53, 54, 55, 56, 57, 61] V V46 := agV30.tr ajV46 (by decide) (by decide)
        have fwV46 : frX (xR b) V V46 := frX.tr fwV30 (frX.ag ajV46 (by decide) (by decide))
        have rgz42 : 0 ≤ z42.toInt ∧ z42.toInt ≤ 1 := rgz42
        have t45 : Imp (z42.toInt = 0) (1 ≤ (V46 1 3).toInt) := t45
        refine lv_if_ne (tgt := 59) hx hb dX1_readComponent_54 (by decide) (fun c48 => ?_) (fun c48 => ?_)
        · skip
          have f49 : z42.toInt ≠ 0 := b_neq rfl (by decide) c48
          refine lv_aload_n hx hb dX1_readComponent_59 rfl (lv_at hl 1 rfl) ?_
          refine va_get (D := D) (ci := 1) (v := .ref (ad 6)) (fs := (xfReader ad V46 L47 Z)) (C := RX1) (T := TX1) (N := 9) hx hb hg inX1 hown hK hP 1 xgReader rfl 0 (by decide) (hg _ w304) (fun _ h9 => h9) rfl dX1_readComponent_60 ?_
          refine va_getN (D := D) (ci := 9) (v := .int (V46 6 9)) (fs := (xfTape ad V46 L47 Z)) (C := RX9) (T := TX9) (N := 12) hx hb hg inX9 hown hK hP 6 xgTape rfl 9 (by decide) (hnw.use 262 n262 rfl) (fun _ h9 => h9) rfl dX1_readComponent_63 ?_
          refine lv_sipush (v := 148) hx hb dX1_readComponent_66 (by decide) ?_
          refine lv_icmp_lt (tgt := 85) hx hb dX1_readComponent_69 (by decide) (fun c50 => ?_) (fun c50 => ?_)
          · skip
            have f51 : ((V46 6 9)).toInt < 148 := b_lt rfl (by decide) c50
            refine lv_aload_n hx hb dX1_readComponent_85 rfl (lv_at hl 1 rfl) ?_
            refine lv_iconst (v := 1) hx hb dX1_readComponent_86 (by decide) ?_
            have r52 : Int32.toInt 1 = 1 := by decide
            refine gA_int (gA_runV (As := [.int 1]) (rest := []) (ci := 1) (q0 := 1) hx hb hml hown hg hP hD hK hS hA hnw hgk (x_wrong l D ks H.size ad kk V46 L47 Z 1 hMV46 (by decide)) w867 w869 w6 w162 w870 rfl xgReader hdV_yX1_wrong ⟨Nat.le_of_ble_eq_true rfl, Nat.le_of_ble_eq_true rfl⟩ rfl hl.1 rfl (Nat.le_of_ble_eq_true rfl) dX1_readComponent_87 ⟨Nat.le_of_ble_eq_true rfl, Nat.le_of_ble_eq_true rfl⟩) hP hD hK hS hA (fun z53 u54 H locs w55 hP hD hK hS => ?_)
            obtain ⟨V57, L58⟩ := u54
            obtain ⟨hMV57, ajV57, axL58, rgz53, t56⟩ := w55
            have axL58 : L47 = L58 := Eq.symm axL58
            subst axL58
            have hP : va_P D vwCl (xw ad kk V57 L47 Z) H := hP
            have hD : va_D A (xw ad kk V57 L47 Z) := hD
            have hMV57 : rgd bX V57 := hMV57
            have ajV57 : agr [(1, 3)] [] V46 V57 := ajV57
            have agV57 : agr [(1, 2), (1, 3), (1, 6), (1, 7), (1, 8), (6, 8), (6, 9), (6, 10)] [43, 44, 49, 50, 51, 52, 53, 54, 55, 56, 57, 61] V V57 := agV46.tr ajV57 (by decide) (by decide)
            have fwV57 : frX (xR b) V V57 := frX.tr fwV46 (frX.ag ajV57 (by decide) (by decide))
            have rgz53 : 0 ≤ z53.toInt ∧ z53.toInt ≤ 0 := rgz53
            have t56 : 1 ≤ (V57 1 3).toInt := t56
            have pq59 : (V57 1 2).toInt = ((V 1 2)).toInt := congrArg Int32.toInt ((ajV57 1 2 rfl).trans ((ajV46 1 2 rfl).trans ((ajV30 1 2 rfl).trans ((ajV20 1 2 rfl).trans (ajV13 1 2 rfl)))))
            have r60 : (-1) ≤ ((V 1 2)).toInt ∧ ((V 1 2)).toInt ≤ 47 := hMV 1 2
            have cd61 : CD V57 b := ⟨CB.ag cd.1 (show agr [(1, 3), (1, 6), (1, 7), (6, 8), (6, 9), (6, 10)] [] V V57 from (agr.tr (agr.tr (agr.tr (agr.tr (agr.tr agr.rf ajV13 (by decide) (by decide)) ajV20 (by decide) (by decide)) ajV30 (by decide) (by decide)) ajV46 (by decide) (by decide)) ajV57 (by decide) (by decide))) (fun _ => rfl) (fun _ => rfl), CO.ag cd.2 (show agr [(1, 3), (1, 6), (1, 7), (6, 8), (6, 9), (6, 10)] [] V V57 from (agr.tr (agr.tr (agr.tr (agr.tr (agr.tr agr.rf ajV13 (by decide) (by decide)) ajV20 (by decide) (by decide)) ajV30 (by decide) (by decide)) ajV46 (by decide) (by decide)) ajV57 (by decide) (by decide))) (fun _ => rfl) (fun _ => rfl)⟩
            have p062 : p0x V V13 b := p0x.tr (p0x.rf : p0x V V b) (p0x.ag (show agr [(6, 8), (6, 9), (6, 10)] [] V V13 from (agr.tr agr.rf ajV13 (by decide) (by decide))) (fun _ => rfl) (fun _ => rfl))
            have p063 : p0x V V20 b := p0x.tr p062 (p0x.ag (show agr [(1, 3), (6, 8), (6, 9), (6, 10)] [] V13 V20 from (agr.tr agr.rf ajV20 (by decide) (by decide))) (fun _ => rfl) (fun _ => rfl))
            have p064 : p0x V V30 b := p0x.tr p063 (p0x.ag (show agr [(1, 3), (6, 8), (6, 9), (6, 10)] [] V20 V30 from (agr.tr agr.rf ajV30 (by decide) (by decide))) (fun _ => rfl) (fun _ => rfl))
            have p065 : p0x V V46 b := p0x.tr p064 (p0x.ag (show agr [(1, 3), (1, 6), (1, 7), (6, 8), (6, 9), (6, 10)] [] V30 V46 from (agr.tr agr.rf ajV46 (by decide) (by decide))) (fun _ => rfl) (fun _ => rfl))
            have p066 : p0x V V57 b := p0x.tr p065 (p0x.ag (show agr [(1, 3)] [] V46 V57 from (agr.tr agr.rf ajV57 (by decide) (by decide))) (fun _ => rfl) (fun _ => rfl))
            exact W.zret (v := z53) hx hb hr (nb_ok (by omega)) (fun t ht hW => ⟨⟨z53, (V57, L47), rfl, ⟨hMV57, agV57, alL47, fwV57, (show 0 ≤ z53.toInt ∧ z53.toInt ≤ 1 from by first | exact om_641b3f05f166 rgz53.1 rgz53.2 | first | omega | ((try (have i_t6 := Imp.go t6 (f8))); omega) | ((try (have i_t45 := Imp.go t45 (by omega))); (try (have i_t29 := Imp.go t29 (by omega))); (try (have i_t19 := Imp.go t19 (by omega))); (try (have i_t6 := Imp.go t6 (by omega))); first | omega | ((try (have i_tx := Imp.go tx (by omega))); (try (have i_cd := Imp.go cd (by omega))); (try (have i_cd := Imp.go cd (by omega))); (try (have i_tx := Imp.go tx (by omega))); first | omega | ((try (have i_t6 := Imp.go t6 (by omega))); (try (have i_t19 := Imp.go t19 (by omega))); (try (have i_t29 := Imp.go t29 (by omega))); (try (have i_t45 := Imp.go t45 (by omega))); omega)))), (Imp.mk (fun hp => by exfalso; first | omega | ((try (have i_t6 := Imp.go t6 (f8))); omega) | ((try (have i_t45 := Imp.go t45 (by omega))); (try (have i_t29 := Imp.go t29 (by omega))); (try (have i_t19 := Imp.go t19 (by omega))); (try (have i_t6 := Imp.go t6 (by omega))); first | omega | ((try (have i_tx := Imp.go tx (by omega))); (try (have i_cd := Imp.go cd (by omega))); (try (have i_cd := Imp.go cd (by omega))); (try (have i_tx := Imp.go tx (by omega))); first | omega | ((try (have i_t6 := Imp.go t6 (by omega))); (try (have i_t19 := Imp.go t19 (by omega))); (try (have i_t29 := Imp.go t29 (by omega))); (try (have i_t45 := Imp.go t45 (by omega))); omega))))), cd61, p066, (show (V57 1 2).toInt = (V 1 2).toInt ∨ (24 * (b : Int) ≤ (V57 1 2).toInt ∧ (V57 1 2).toInt < 24 * (b : Int) + 24) from by first | omega | ((try (have i_t6 := Imp.go t6 (f8))); omega) | ((try (have i_t45 := Imp.go t45 (by omega))); (try (have i_t29 := Imp.go t29 (by omega))); (try (have i_t19 := Imp.go t19 (by omega))); (try (have i_t6 := Imp.go t6 (by omega))); first | omega | ((try (have i_tx := Imp.go tx (by omega))); (try (have i_cd := Imp.go cd (by omega))); (try (have i_cd := Imp.go cd (by omega))); (try (have i_tx := Imp.go tx (by omega))); first | omega | ((try (have i_t6 := Imp.go t6 (by omega))); (try (have i_t19 := Imp.go t19 (by omega))); (try (have i_t29 := Imp.go t29 (by omega))); (try (have i_t45 := Imp.go t45 (by omega))); omega)))), (Imp.mk (fun hp => have hp : z53.toInt = 0 := hp; (show 1 ≤ (V57 1 3).toInt from by first | exact om_f8d8213eda45 t56 | first | omega | ((try (have i_t6 := Imp.go t6 (f8))); omega) | ((try (have i_t45 := Imp.go t45 (by omega))); (try (have i_t29 := Imp.go t29 (by omega))); (try (have i_t19 := Imp.go t19 (by omega))); (try (have i_t6 := Imp.go t6 (by omega))); first | omega | ((try (have i_tx := Imp.go tx (by omega))); (try (have i_cd := Imp.go cd (by omega))); (try (have i_cd := Imp.go cd (by omega))); (try (have i_tx := Imp.go tx (by omega))); first | omega | ((try (have i_t6 := Imp.go t6 (by omega))); (try (have i_t19 := Imp.go t19 (by omega))); (try (have i_t29 := Imp.go t29 (by omega))); (try (have i_t45 := Imp.go t45 (by omega))); omega))))))⟩, by rw [ht]; exact hP, va_K.moved hW.alike hK, hD⟩, hS.F ht⟩) hS.2.2 dX1_readComponent_90
          · skip
            have f67 : 148 ≤ ((V46 6 9)).toInt := b_nlt rfl (by decide) c50
            refine lv_aload_n hx hb dX1_readComponent_72 rfl (lv_at hl 1 rfl) ?_
            refine va_get (D := D) (ci := 1) (v := .ref (ad 6)) (fs := (xfReader ad V46 L47 Z)) (C := RX1) (T := TX1) (N := 9) hx hb hg inX1 hown hK hP 1 xgReader rfl 0 (by decide) (hg _ w304) (fun _ h9 => h9) rfl dX1_readComponent_73 ?_
            refine va_getN (D := D) (ci := 9) (v := .int (V46 6 9)) (fs := (xfTape ad V46 L47 Z)) (C := RX9) (T := TX9) (N := 12) hx hb hg inX9 hown hK hP 6 xgTape rfl 9 (by decide) (hnw.use 262 n262 rfl) (fun _ h9 => h9) rfl dX1_readComponent_76 ?_
            refine lv_sipush (v := 151) hx hb dX1_readComponent_79 (by decide) ?_
            refine lv_icmp_le (tgt := 91) hx hb dX1_readComponent_82 (by decide) (fun c68 => ?_) (fun c68 => ?_)
            · skip
              have f69 : ((V46 6 9)).toInt ≤ 151 := b_le rfl (by decide) c68
              refine lv_aload_n hx hb dX1_readComponent_91 rfl (lv_at hl 1 rfl) ?_
              refine va_get (D := D) (ci := 1) (v := rfN ad 38 (V46 1 1)) (fs := (xfReader ad V46 L47 Z)) (C := RX1) (T := TX1) (N := 9) hx hb hg inX1 hown hK hP 1 xgReader rfl 1 (by decide) (hg _ w305) (fun _ h9 => h9) rfl dX1_readComponent_92 ?_
              have pq70 : (V46 1 1).toInt = ((V 1 1)).toInt := congrArg Int32.toInt ((ajV46 1 1 rfl).trans ((ajV30 1 1 rfl).trans ((ajV20 1 1 rfl).trans (ajV13 1 1 rfl))))
              refine g_topv (v := .ref (ad (38 + b))) (rfN_r (by first | omega | ((try (have i_t6 := Imp.go t6 (f8))); omega) | ((try (have i_t45 := Imp.go t45 (by omega))); (try (have i_t29 := Imp.go t29 (by omega))); (try (have i_t19 := Imp.go t19 (by omega))); (try (have i_t6 := Imp.go t6 (by omega))); first | omega | ((try (have i_tx := Imp.go tx (by omega))); (try (have i_cd := Imp.go cd (by omega))); (try (have i_cd := Imp.go cd (by omega))); (try (have i_tx := Imp.go tx (by omega))); first | omega | ((try (have i_t6 := Imp.go t6 (by omega))); (try (have i_t19 := Imp.go t19 (by omega))); (try (have i_t29 := Imp.go t29 (by omega))); (try (have i_t45 := Imp.go t45 (by omega))); omega))))) ?_
              refine va_getN (D := D) (ci := 0) (v := .ref (ad (64 + b))) (fs := (xfBook ad V46 b)) (C := RX0) (T := TX0) (N := 13) hx hb hg inX0 hown hK hP (38 + b) (xgBook hb2) rfl 7 (by decide) (hnw.use 616 n616 rfl) (fun _ h9 => h9) rfl dX1_readComponent_95 ?_
              refine lv_aload_n hx hb dX1_readComponent_98 rfl (lv_at hl 1 rfl) ?_
              refine va_get (D := D) (ci := 1) (v := rfN ad 38 (V46 1 1)) (fs := (xfReader ad V46 L47 Z)) (C := RX1) (T := TX1) (N := 9) hx hb hg inX1 hown hK hP 1 xgReader rfl 1 (by decide) (hg _ w305) (fun _ h9 => h9) rfl dX1_readComponent_99 ?_
              refine g_topv (v := .ref (ad (38 + b))) (rfN_r (by first | omega | ((try (have i_t6 := Imp.go t6 (f8))); omega) | ((try (have i_t45 := Imp.go t45 (by omega))); (try (have i_t29 := Imp.go t29 (by omega))); (try (have i_t19 := Imp.go t19 (by omega))); (try (have i_t6 := Imp.go t6 (by omega))); first | omega | ((try (have i_tx := Imp.go tx (by omega))); (try (have i_cd := Imp.go cd (by omega))); (try (have i_cd := Imp.go cd (by omega))); (try (have i_tx := Imp.go tx (by omega))); first | omega | ((try (have i_t6 := Imp.go t6 (by omega))); (try (have i_t19 := Imp.go t19 (by omega))); (try (have i_t29 := Imp.go t29 (by omega))); (try (have i_t45 := Imp.go t45 (by omega))); omega))))) ?_
              refine va_getN (D := D) (ci := 0) (v := .ref (ad (40 + (5 * b + 2)))) (fs := (xfBook ad V46 b)) (C := RX0) (T := TX0) (N := 13) hx hb hg inX0 hown hK hP (38 + b) (xgBook hb2) rfl 2 (by decide) (hnw.use 601 n601 rfl) (fun _ h9 => h9) rfl dX1_readComponent_102 ?_
              refine va_getN (D := D) (ci := 6) (v := .int (V46 43 (5 * b + 2))) (fs := (xfNames ad V46 (5 * b + 2))) (C := RX6) (T := TX6) (N := 2) hx hb hg inX6 hown hK hP (40 + (5 * b + 2)) (xgNames il2) rfl 1 (by decide) (hnw.use 484 n484 rfl) (fun _ h9 => h9) rfl dX1_readComponent_105 ?_
              refine g_top (v := (V 43 (5 * b + 2))) ((ajV46 43 (5 * b + 2) rfl).trans ((ajV30 43 (5 * b + 2) rfl).trans ((ajV20 43 (5 * b + 2) rfl).trans (ajV13 43 (5 * b + 2) rfl)))) ?_
              have r71 : 0 ≤ ((V 43 (5 * b + 2))).toInt ∧ ((V 43 (5 * b + 2))).toInt ≤ ((xcap (5 * b + 2) : Nat) : Int) := hMV 43 (5 * b + 2)
              have il72 : b < 2 := by first | exact om_f940a4667dd6 hb2 | first | omega | ((try (have i_t6 := Imp.go t6 (f8))); omega) | ((try (have i_t45 := Imp.go t45 (by omega))); (try (have i_t29 := Imp.go t29 (by omega))); (try (have i_t19 := Imp.go t19 (by omega))); (try (have i_t6 := Imp.go t6 (by omega))); first | omega | ((try (have i_tx := Imp.go tx (by omega))); (try (have i_cd := Imp.go cd (by omega))); (try (have i_cd := Imp.go cd (by omega))); (try (have i_tx := Imp.go tx (by omega))); first | omega | ((try (have i_t6 := Imp.go t6 (by omega))); (try (have i_t19 := Imp.go t19 (by omega))); (try (have i_t29 := Imp.go t29 (by omega))); (try (have i_t45 := Imp.go t45 (by omega))); omega)))
              refine va_aldq (D := D) (i := (V 43 (5 * b + 2))) hx hb hK hP (64 + b) (57 + b) (xgcomps il72) (xtcomps il72) (i_in (a := ((V 43 (5 * b + 2))).toInt) rfl (by first | exact om_c5e92f2423eb r9 r71.1 ((Imp.go t6 (f8))) | first | omega | ((try (have i_t6 := Imp.go t6 (f8))); omega) | ((try (have i_t45 := Imp.go t45 (by omega))); (try (have i_t29 := Imp.go t29 (by omega))); (try (have i_t19 := Imp.go t19 (by omega))); (try (have i_t6 := Imp.go t6 (by omega))); first | omega | ((try (have i_tx := Imp.go tx (by omega))); (try (have i_cd := Imp.go cd (by omega))); (try (have i_cd := Imp.go cd (by omega))); (try (have i_tx := Imp.go tx (by omega))); first | omega | ((try (have i_t6 := Imp.go t6 (by omega))); (try (have i_t19 := Imp.go t19 (by omega))); (try (have i_t29 := Imp.go t29 (by omega))); (try (have i_t45 := Imp.go t45 (by omega))); omega))))) dX1_readComponent_108 ?_
              have kc73 := i_clamp (x := (V 43 (5 * b + 2))) rfl (by first | exact om_eafa9039069c r71.1 | first | omega | ((try (have i_t6 := Imp.go t6 (f8))); omega) | ((try (have i_t45 := Imp.go t45 (by omega))); (try (have i_t29 := Imp.go t29 (by omega))); (try (have i_t19 := Imp.go t19 (by omega))); (try (have i_t6 := Imp.go t6 (by omega))); first | omega | ((try (have i_tx := Imp.go tx (by omega))); (try (have i_cd := Imp.go cd (by omega))); (try (have i_cd := Imp.go cd (by omega))); (try (have i_tx := Imp.go tx (by omega))); first | omega | ((try (have i_t6 := Imp.go t6 (by omega))); (try (have i_t19 := Imp.go t19 (by omega))); (try (have i_t29 := Imp.go t29 (by omega))); (try (have i_t45 := Imp.go t45 (by omega))); omega))))
              refine g_topv (v := .ref (ad (72 + (24 * b + (Int32.toNatClampNeg (V 43 (5 * b + 2))))))) (congrArg va_rf (if_pos (by first | omega | ((try (have i_t6 := Imp.go t6 (f8))); omega) | ((try (have i_t45 := Imp.go t45 (by omega))); (try (have i_t29 := Imp.go t29 (by omega))); (try (have i_t19 := Imp.go t19 (by omega))); (try (have i_t6 := Imp.go t6 (by omega))); first | omega | ((try (have i_tx := Imp.go tx (by omega))); (try (have i_cd := Imp.go cd (by omega))); (try (have i_cd := Imp.go cd (by omega))); (try (have i_tx := Imp.go tx (by omega))); first | omega | ((try (have i_t6 := Imp.go t6 (by omega))); (try (have i_t19 := Imp.go t19 (by omega))); (try (have i_t29 := Imp.go t29 (by omega))); (try (have i_t45 := Imp.go t45 (by omega))); omega)))))) ?_
              have il74 : (24 * b + (Int32.toNatClampNeg (V 43 (5 * b + 2)))) < 48 := by first | exact om_7a5ac9328048 hb2 r9 kc73 ((Imp.go t6 (f8))) | first | omega | ((try (have i_t6 := Imp.go t6 (f8))); omega) | ((try (have i_t45 := Imp.go t45 (by omega))); (try (have i_t29 := Imp.go t29 (by omega))); (try (have i_t19 := Imp.go t19 (by omega))); (try (have i_t6 := Imp.go t6 (by omega))); first | omega | ((try (have i_tx := Imp.go tx (by omega))); (try (have i_cd := Imp.go cd (by omega))); (try (have i_cd := Imp.go cd (by omega))); (try (have i_tx := Imp.go tx (by omega))); first | omega | ((try (have i_t6 := Imp.go t6 (by omega))); (try (have i_t19 := Imp.go t19 (by omega))); (try (have i_t29 := Imp.go t29 (by omega))); (try (have i_t45 := Imp.go t45 (by omega))); omega)))
              refine lv_astore_n (lv' := [(3, .ref (ad (72 + (24 * b + (Int32.toNatClampNeg (V 43 (5 * b + 2))))))), (1, .long w24), (0, .ref (ad 1))]) hx hb dX1_readComponent_109 rfl hl (by decide) rfl (fun ls hl => ?_)
              refine lv_aload_n hx hb dX1_readComponent_110 rfl (lv_at hl 0 rfl) ?_
              have px75 : px V V46 b := px.tr (px.rf : px V V b) (px.ag (show agr [(1, 3), (1, 6), (1, 7), (6, 8), (6, 9), (6, 10)] [] V V46 from (agr.tr (agr.tr (agr.tr (agr.tr agr.rf ajV13 (by decide) (by decide)) ajV20 (by decide) (by decide)) ajV30 (by decide) (by decide)) ajV46 (by decide) (by decide))) (fun _ => rfl) (fun _ => rfl) (fun _ => rfl))
              have tx76 : TX V46 b := TX.ag tx (show agr [(1, 3), (1, 6), (1, 7), (6, 8), (6, 9), (6, 10)] [] V V46 from (agr.tr (agr.tr (agr.tr (agr.tr agr.rf ajV13 (by decide) (by decide)) ajV20 (by decide) (by decide)) ajV30 (by decide) (by decide)) ajV46 (by decide) (by decide))) px75 (fun _ => rfl) (fun _ => rfl) (fun _ => rfl) (fun _ => rfl) (fun _ => rfl) (fun _ => rfl)
              refine gA_void (gA_runV (As := []) (rest := []) (ci := 3) (q0 := (72 + (24 * b + (Int32.toNatClampNeg (V 43 (5 * b + 2)))))) hx hb hml hown hg hP hD hK hS hA hnw hgk (x_cclear l D ks H.size ad kk V46 L47 Z ((24 * b + (Int32.toNatClampNeg (V 43 (5 * b + 2))))) hMV46 (show (24 * b + (Int32.toNatClampNeg (V 43 (5 * b + 2)))) < 48 from by first | exact om_7a5ac9328048 hb2 r9 kc73 ((Imp.go t6 (f8))) | first | omega | ((try (have i_t6 := Imp.go t6 (f8))); omega) | ((try (have i_t45 := Imp.go t45 (by omega))); (try (have i_t29 := Imp.go t29 (by omega))); (try (have i_t19 := Imp.go t19 (by omega))); (try (have i_t6 := Imp.go t6 (by omega))); first | omega | ((try (have i_tx := Imp.go tx (by omega))); (try (have i_cd := Imp.go cd (by omega))); (try (have i_cd := Imp.go cd (by omega))); (try (have i_tx := Imp.go tx (by omega))); first | omega | ((try (have i_t6 := Imp.go t6 (by omega))); (try (have i_t19 := Imp.go t19 (by omega))); (try (have i_t29 := Imp.go t29 (by omega))); (try (have i_t45 := Imp.go t45 (by omega))); omega))))) w914 w915 w916 w169 w917 rfl (xgComp il74) hdV_yX3_clear ⟨Nat.le_of_ble_eq_true rfl, Nat.le_of_ble_eq_true rfl⟩ rfl hl.1 rfl (Nat.le_of_ble_eq_true rfl) dX1_readComponent_111 ⟨Nat.le_of_ble_eq_true rfl, Nat.le_of_ble_eq_true rfl⟩) hP hD hK hS hA (fun u78 H locs w79 hP hD hK hS => ?_)
              obtain ⟨V88, L89⟩ := u78
              obtain ⟨hMV88, ajV88, axL89, fyV88, t80, t81, t82, t83, t84, t85, t86, t87⟩ := w79
              have axL89 : L47 = L89 := Eq.symm axL89
              subst axL89
              have hP : va_P D vwCl (xw ad kk V88 L47 Z) H := hP
              have hD : va_D A (xw ad kk V88 L47 Z) := hD
              have hMV88 : rgd bX V88 := hMV88
              have ajV88 : agr [] [49, 50, 51, 52, 53, 54, 55, 56, 57, 61] V46 V88 := ajV88
              have agV88 : agr [(1, 2), (1, 3), (1, 6), (1, 7), (1, 8), (6, 8), (6, 9), (6, 10)] [43, 44, 49, 50, 51, 52, 53, 54, 55, 56, 57, 61] V V88 := agV46.tr ajV88 (by decide) (by decide)
              have fwV88 : frX (xR b) V V88 := frX.tr fwV46 (frX_IB fyV88 (by first | omega | ((try (have i_t6 := Imp.go t6 (f8))); omega) | ((try (have i_t45 := Imp.go t45 (by omega))); (try (have i_t29 := Imp.go t29 (by omega))); (try (have i_t19 := Imp.go t19 (by omega))); (try (have i_t6 := Imp.go t6 (by omega))); first | omega | ((try (have i_tx := Imp.go tx (by omega))); (try (have i_cd := Imp.go cd (by omega))); (try (have i_cd := Imp.go cd (by omega))); (try (have i_tx := Imp.go tx (by omega))); first | omega | ((try (have i_t6 := Imp.go t6 (by omega))); (try (have i_t19 := Imp.go t19 (by omega))); (try (have i_t29 := Imp.go t29 (by omega))); (try (have i_t45 := Imp.go t45 (by omega))); omega)))) (by first | omega | ((try (have i_t6 := Imp.go t6 (f8))); omega) | ((try (have i_t45 := Imp.go t45 (by omega))); (try (have i_t29 := Imp.go t29 (by omega))); (try (have i_t19 := Imp.go t19 (by omega))); (try (have i_t6 := Imp.go t6 (by omega))); first | omega | ((try (have i_tx := Imp.go tx (by omega))); (try (have i_cd := Imp.go cd (by omega))); (try (have i_cd := Imp.go cd (by omega))); (try (have i_tx := Imp.go tx (by omega))); first | omega | ((try (have i_t6 := Imp.go t6 (by omega))); (try (have i_t19 := Imp.go t19 (by omega))); (try (have i_t29 := Imp.go t29 (by omega))); (try (have i_t45 := Imp.go t45 (by omega))); omega)))))
              have t80 : (V88 56 (24 * b + (Int32.toNatClampNeg (V 43 (5 * b + 2))))).toInt = -1 := t80
              have t81 : (V88 57 (24 * b + (Int32.toNatClampNeg (V 43 (5 * b + 2))))).toInt = -1 := t81
              have t82 : (V88 49 (24 * b + (Int32.toNatClampNeg (V 43 (5 * b + 2))))).toInt = 0 := t82
              have t83 : (∀ q : Nat, (q : Int) < 20 → (V88 61 (20 * (24 * b + (Int32.toNatClampNeg (V 43 (5 * b + 2)))) + q)).toInt = -1) := t83
              have t84 : (∀ q : Nat, ¬ (20 * (24 * b + (Int32.toNatClampNeg (V 43 (5 * b + 2)))) ≤ q ∧ q < 20 * (24 * b + (Int32.toNatClampNeg (V 43 (5 * b + 2)))) + 20) → V88 61 q = V46 61 q) := t84
              have t85 : (∀ q : Nat, ¬ q = (24 * b + (Int32.toNatClampNeg (V 43 (5 * b + 2)))) → V88 56 q = V46 56 q) := t85
              have t86 : (∀ q : Nat, ¬ q = (24 * b + (Int32.toNatClampNeg (V 43 (5 * b + 2)))) → V88 57 q = V46 57 q) := t86
              have t87 : (∀ q : Nat, ¬ q = (24 * b + (Int32.toNatClampNeg (V 43 (5 * b + 2)))) → V88 49 q = V46 49 q) := t87
              refine lv_aload_n hx hb dX1_readComponent_114 rfl (lv_at hl 0 rfl) ?_
              refine lv_aload_n hx hb dX1_readComponent_115 rfl (lv_at hl 2 rfl) ?_
              refine va_get (D := D) (ci := 1) (v := .int (V88 1 7)) (fs := (xfReader ad V88 L47 Z)) (C := RX1) (T := TX1) (N := 9) hx hb hg inX1 hown hK hP 1 xgReader rfl 7 (by decide) (hg _ w311) (fun _ h9 => h9) rfl dX1_readComponent_116 ?_
              refine g_top (v := (V46 1 7)) (ajV88 1 7 rfl) ?_
              refine va_putN (D := D) (ci := 3) (v := .int (V46 1 7)) (ty := tyX3 5) (fs := (xfComp ad V88 (24 * b + (Int32.toNatClampNeg (V 43 (5 * b + 2)))))) (C := RX3) (T := TX3) (N := 13) hx hb hg inX3 tyX3 tyX3_ok nmX3 hown hK hP hD hS (72 + (24 * b + (Int32.toNatClampNeg (V 43 (5 * b + 2))))) (xgComp il74) rfl 5 (by decide) (hnw.use 516 n516 rfl) (fun _ h9 => h9) rfl (tyX3_ok 5 (by decide)) rfl rfl (Nat.le_of_ble_eq_true rfl) dX1_readComponent_119 (fun H locs hP hD hS => ?_)
              obtain ⟨V90, hV90⟩ : ∃ z, z = up2 V88 50 (24 * b + (Int32.toNatClampNeg (V 43 (5 * b + 2)))) (V46 1 7) := ⟨_, rfl⟩
              have ew91 : (xw ad kk V88 L47 Z).set (72 + (24 * b + (Int32.toNatClampNeg (V 43 (5 * b + 2))))) ((ad (72 + (24 * b + (Int32.toNatClampNeg (V 43 (5 * b + 2)))))), .inr (3, (xfComp ad V88 (24 * b + (Int32.toNatClampNeg (V 43 (5 * b + 2))))).set 5 (.int (V46 1 7)))) = xw ad kk V90 L47 Z := by rw [hV90]; exact xpComp_under il74
              have hP : va_P D vwCl (xw ad kk V90 L47 Z) H := by rw [← ew91]; exact hP
              have hD : va_D A (xw ad kk V90 L47 Z) := by rw [← ew91]; exact hD
              have hMV90 : rgd bX V90 := hMV88.put hV90 (i_full _)
              have agV90 : agr [(1, 2), (1, 3), (1, 6), (1, 7), (1, 8), (6, 8), (6, 9), (6, 10)] [43, 44, 49, 50, 51, 52, 53, 54, 55, 56, 57, 61] V V90 := agV88.up hV90 rfl
              have fwV90 : frX (xR b) V V90 := frX.up fwV88 hV90 (Or.inr ⟨(by show 24 * b ≤ (24 * b + (Int32.toNatClampNeg (V 43 (5 * b + 2)))); first | exact om_8f00918b7f46 | first | omega | ((try (have i_t6 := Imp.go t6 (f8))); omega) | ((try (have i_t45 := Imp.go t45 (by omega))); (try (have i_t29 := Imp.go t29 (by omega))); (try (have i_t19 := Imp.go t19 (by omega))); (try (have i_t6 := Imp.go t6 (by omega))); first | omega | ((try (have i_tx := Imp.go tx (by omega))); (try (have i_cd := Imp.go cd (by omega))); (try (have i_cd := Imp.go cd (by omega))); (try (have i_tx := Imp.go tx (by omega))); first | omega | ((try (have i_t6 := Imp.go t6 (by omega))); (try (have i_t19 := Imp.go t19 (by omega))); (try (have i_t29 := Imp.go t29 (by omega))); (try (have i_t45 := Imp.go t45 (by omega))); omega)))), (by show (24 * b + (Int32.toNatClampNeg (V 43 (5 * b + 2)))) < 24 * b + 24; first | exact om_2cb391d8ee49 r9 kc73 ((Imp.go t6 (f8))) | first | omega | ((try (have i_t6 := Imp.go t6 (f8))); omega) | ((try (have i_t45 := Imp.go t45 (by omega))); (try (have i_t29 := Imp.go t29 (by omega))); (try (have i_t19 := Imp.go t19 (by omega))); (try (have i_t6 := Imp.go t6 (by omega))); first | omega | ((try (have i_tx := Imp.go tx (by omega))); (try (have i_cd := Imp.go cd (by omega))); (try (have i_cd := Imp.go cd (by omega))); (try (have i_tx := Imp.go tx (by omega))); first | omega | ((try (have i_t6 := Imp.go t6 (by omega))); (try (have i_t19 := Imp.go t19 (by omega))); (try (have i_t29 := Imp.go t29 (by omega))); (try (have i_t45 := Imp.go t45 (by omega))); omega))))⟩)
              refine lv_aload_n hx hb dX1_readComponent_122 rfl (lv_at hl 0 rfl) ?_
              refine lv_aload_n hx hb dX1_readComponent_123 rfl (lv_at hl 2 rfl) ?_
              refine va_get (D := D) (ci := 1) (v := .ref (ad 6)) (fs := (xfReader ad V90 L47 Z)) (C := RX1) (T := TX1) (N := 9) hx hb hg inX1 hown hK hP 1 xgReader rfl 0 (by decide) (hg _ w304) (fun _ h9 => h9) rfl dX1_readComponent_124 ?_
              refine va_getN (D := D) (ci := 9) (v := .int (V90 6 9)) (fs := (xfTape ad V90 L47 Z)) (C := RX9) (T := TX9) (N := 12) hx hb hg inX9 hown hK hP 6 xgTape rfl 9 (by decide) (hnw.use 262 n262 rfl) (fun _ h9 => h9) rfl dX1_readComponent_127 ?_
              refine g_top (v := (V46 6 9)) ((up2_o hV90 (by decide)).trans (ajV88 6 9 rfl)) ?_
              refine lv_sipush (v := 148) hx hb dX1_readComponent_130 (by decide) ?_
              refine lv_isub hx hb dX1_readComponent_133 ?_
              refine lv_topi (fun z92 ez92 => ?_)
              have hz92 : z92.toInt = ((V46 6 9)).toInt - 148 := i_sub ez92 rfl (by decide) (by (first | exact om_84b3fe0a5662 f67 f69 | omega))
              refine va_putN (D := D) (ci := 3) (v := .int z92) (ty := tyX3 6) (fs := (xfComp ad V90 (24 * b + (Int32.toNatClampNeg (V 43 (5 * b + 2)))))) (C := RX3) (T := TX3) (N := 13) hx hb hg inX3 tyX3 tyX3_ok nmX3 hown hK hP hD hS (72 + (24 * b + (Int32.toNatClampNeg (V 43 (5 * b + 2))))) (xgComp il74) rfl 6 (by decide) (hnw.use 520 n520 rfl) (fun _ h9 => h9) rfl (tyX3_ok 6 (by decide)) rfl rfl (Nat.le_of_ble_eq_true rfl) dX1_readComponent_134 (fun H locs hP hD hS => ?_)
              obtain ⟨V93, hV93⟩ : ∃ z, z = up2 V90 51 (24 * b + (Int32.toNatClampNeg (V 43 (5 * b + 2)))) z92 := ⟨_, rfl⟩
              have ew94 : (xw ad kk V90 L47 Z).set (72 + (24 * b + (Int32.toNatClampNeg (V 43 (5 * b + 2))))) ((ad (72 + (24 * b + (Int32.toNatClampNeg (V 43 (5 * b + 2)))))), .inr (3, (xfComp ad V90 (24 * b + (Int32.toNatClampNeg (V 43 (5 * b + 2))))).set 6 (.int z92))) = xw ad kk V93 L47 Z := by rw [hV93]; exact xpComp_scope il74
              have hP : va_P D vwCl (xw ad kk V93 L47 Z) H := by rw [← ew94]; exact hP
              have hD : va_D A (xw ad kk V93 L47 Z) := by rw [← ew94]; exact hD
              have hMV93 : rgd bX V93 := hMV90.put hV93 (show 0 ≤ z92.toInt ∧ z92.toInt ≤ 3 from by first | exact om_23728566a369 f67 f69 hz92 | first | omega | ((try (have i_t6 := Imp.go t6 (f8))); omega) | ((try (have i_t45 := Imp.go t45 (by omega))); (try (have i_t29 := Imp.go t29 (by omega))); (try (have i_t19 := Imp.go t19 (by omega))); (try (have i_t6 := Imp.go t6 (by omega))); first | omega | ((try (have i_tx := Imp.go tx (by omega))); (try (have i_cd := Imp.go cd (by omega))); (try (have i_cd := Imp.go cd (by omega))); (try (have i_tx := Imp.go tx (by omega))); first | omega | ((try (have i_t6 := Imp.go t6 (by omega))); (try (have i_t19 := Imp.go t19 (by omega))); (try (have i_t29 := Imp.go t29 (by omega))); (try (have i_t45 := Imp.go t45 (by omega))); omega))))
              have agV93 : agr [(1, 2), (1, 3), (1, 6), (1, 7), (1, 8), (6, 8), (6, 9), (6, 10)] [43, 44, 49, 50, 51, 52, 53, 54, 55, 56, 57, 61] V V93 := agV90.up hV93 rfl
              have fwV93 : frX (xR b) V V93 := frX.up fwV90 hV93 (Or.inr ⟨(by show 24 * b ≤ (24 * b + (Int32.toNatClampNeg (V 43 (5 * b + 2)))); first | exact om_8f00918b7f46 | first | omega | ((try (have i_t6 := Imp.go t6 (f8))); omega) | ((try (have i_t45 := Imp.go t45 (by omega))); (try (have i_t29 := Imp.go t29 (by omega))); (try (have i_t19 := Imp.go t19 (by omega))); (try (have i_t6 := Imp.go t6 (by omega))); first | omega | ((try (have i_tx := Imp.go tx (by omega))); (try (have i_cd := Imp.go cd (by omega))); (try (have i_cd := Imp.go cd (by omega))); (try (have i_tx := Imp.go tx (by omega))); first | omega | ((try (have i_t6 := Imp.go t6 (by omega))); (try (have i_t19 := Imp.go t19 (by omega))); (try (have i_t29 := Imp.go t29 (by omega))); (try (have i_t45 := Imp.go t45 (by omega))); omega)))), (by show (24 * b + (Int32.toNatClampNeg (V 43 (5 * b + 2)))) < 24 * b + 24; first | exact om_2cb391d8ee49 r9 kc73 ((Imp.go t6 (f8))) | first | omega | ((try (have i_t6 := Imp.go t6 (f8))); omega) | ((try (have i_t45 := Imp.go t45 (by omega))); (try (have i_t29 := Imp.go t29 (by omega))); (try (have i_t19 := Imp.go t19 (by omega))); (try (have i_t6 := Imp.go t6 (by omega))); first | omega | ((try (have i_tx := Imp.go tx (by omega))); (try (have i_cd := Imp.go cd (by omega))); (try (have i_cd := Imp.go cd (by omega))); (try (have i_tx := Imp.go tx (by omega))); first | omega | ((try (have i_t6 := Imp.go t6 (by omega))); (try (have i_t19 := Imp.go t19 (by omega))); (try (have i_t29 := Imp.go t29 (by omega))); (try (have i_t45 := Imp.go t45 (by omega))); omega))))⟩)
              refine lv_aload_n hx hb dX1_readComponent_137 rfl (lv_at hl 2 rfl) ?_
              refine va_get (D := D) (ci := 1) (v := .ref (ad 6)) (fs := (xfReader ad V93 L47 Z)) (C := RX1) (T := TX1) (N := 9) hx hb hg inX1 hown hK hP 1 xgReader rfl 0 (by decide) (hg _ w304) (fun _ h9 => h9) rfl dX1_readComponent_138 ?_
              refine gA_void (gA_runV (As := []) (rest := []) (ci := 9) (q0 := 6) hx hb hml hown hg hP hD hK hS hA hnw hgk (x_next l D ks H.size ad kk V93 L47 Z  hMV93 ) w871 w852 w853 w157 w854 rfl xgTape hdV_yX9_next ⟨Nat.le_of_ble_eq_true rfl, Nat.le_of_ble_eq_true rfl⟩ rfl hl.1 rfl (Nat.le_of_ble_eq_true rfl) dX1_readComponent_141 ⟨Nat.le_of_ble_eq_true rfl, Nat.le_of_ble_eq_true rfl⟩) hP hD hK hS hA (fun u96 H locs w97 hP hD hK hS => ?_)
              obtain ⟨V98, L99⟩ := u96
              obtain ⟨hMV98, ajV98, axL99⟩ := w97
              have alL99 : agL [1, 6, 44] L L99 := agL.tr alL47 axL99 (by decide)
              have hP : va_P D vwCl (xw ad kk V98 L99 Z) H := hP
              have hD : va_D A (xw ad kk V98 L99 Z) := hD
              have hMV98 : rgd bX V98 := hMV98
              have ajV98 : agr [(6, 8), (6, 9), (6, 10)] [] V93 V98 := ajV98
              have agV98 : agr [(1, 2), (1, 3), (1, 6), (1, 7), (1, 8), (6, 8), (6, 9), (6, 10)] [43, 44, 49, 50, 51, 52, 53, 54, 55, 56, 57, 61] V V98 := agV93.tr ajV98 (by decide) (by decide)
              have fwV98 : frX (xR b) V V98 := frX.tr fwV93 (frX.ag ajV98 (by decide) (by decide))
              refine lv_aload_n hx hb dX1_readComponent_144 rfl (lv_at hl 2 rfl) ?_
              refine lv_aload_n hx hb dX1_readComponent_145 rfl (lv_at hl 0 rfl) ?_
              have pq100 : (V98 1 1).toInt = ((V 1 1)).toInt := congrArg Int32.toInt ((ajV98 1 1 rfl).trans ((up2_o hV93 (by decide)).trans ((up2_o hV90 (by decide)).trans ((ajV88 1 1 rfl).trans ((ajV46 1 1 rfl).trans ((ajV30 1 1 rfl).trans ((ajV20 1 1 rfl).trans (ajV13 1 1 rfl))))))))
              refine gA_int (gA_runV (As := [.ref (ad (72 + (24 * b + (Int32.toNatClampNeg (V 43 (5 * b + 2))))))]) (rest := []) (ci := 1) (q0 := 1) hx hb hml hown hg hP hD hK hS hA hnw hgk (x_readExtras l D ks H.size ad kk V98 L99 Z (b) ((24 * b + (Int32.toNatClampNeg (V 43 (5 * b + 2))))) hMV98 (show b < 2 from by first | exact om_f940a4667dd6 hb2 | first | omega | ((try (have i_t6 := Imp.go t6 (f8))); omega) | ((try (have i_t45 := Imp.go t45 (by omega))); (try (have i_t29 := Imp.go t29 (by omega))); (try (have i_t19 := Imp.go t19 (by omega))); (try (have i_t6 := Imp.go t6 (by omega))); first | omega | ((try (have i_tx := Imp.go tx (by omega))); (try (have i_cd := Imp.go cd (by omega))); (try (have i_cd := Imp.go cd (by omega))); (try (have i_tx := Imp.go tx (by omega))); first | omega | ((try (have i_t6 := Imp.go t6 (by omega))); (try (have i_t19 := Imp.go t19 (by omega))); (try (have i_t29 := Imp.go t29 (by omega))); (try (have i_t45 := Imp.go t45 (by omega))); omega)))) (show (V98 1 1).toInt = (b : Int) from by first | exact om_adf531c77a0d rbk pq100 | first | omega | ((try (have i_t6 := Imp.go t6 (f8))); omega) | ((try (have i_t45 := Imp.go t45 (by omega))); (try (have i_t29 := Imp.go t29 (by omega))); (try (have i_t19 := Imp.go t19 (by omega))); (try (have i_t6 := Imp.go t6 (by omega))); first | omega | ((try (have i_tx := Imp.go tx (by omega))); (try (have i_cd := Imp.go cd (by omega))); (try (have i_cd := Imp.go cd (by omega))); (try (have i_tx := Imp.go tx (by omega))); first | omega | ((try (have i_t6 := Imp.go t6 (by omega))); (try (have i_t19 := Imp.go t19 (by omega))); (try (have i_t29 := Imp.go t29 (by omega))); (try (have i_t45 := Imp.go t45 (by omega))); omega)))) (show (24 * b + (Int32.toNatClampNeg (V 43 (5 * b + 2)))) < 48 from by first | exact om_7a5ac9328048 hb2 r9 kc73 ((Imp.go t6 (f8))) | first | omega | ((try (have i_t6 := Imp.go t6 (f8))); omega) | ((try (have i_t45 := Imp.go t45 (by omega))); (try (have i_t29 := Imp.go t29 (by omega))); (try (have i_t19 := Imp.go t19 (by omega))); (try (have i_t6 := Imp.go t6 (by omega))); first | omega | ((try (have i_tx := Imp.go tx (by omega))); (try (have i_cd := Imp.go cd (by omega))); (try (have i_cd := Imp.go cd (by omega))); (try (have i_tx := Imp.go tx (by omega))); first | omega | ((try (have i_t6 := Imp.go t6 (by omega))); (try (have i_t19 := Imp.go t19 (by omega))); (try (have i_t29 := Imp.go t29 (by omega))); (try (have i_t45 := Imp.go t45 (by omega))); omega)))) (show 24 * b ≤ (24 * b + (Int32.toNatClampNeg (V 43 (5 * b + 2)))) from by first | exact om_8f00918b7f46 | first | omega | ((try (have i_t6 := Imp.go t6 (f8))); omega) | ((try (have i_t45 := Imp.go t45 (by omega))); (try (have i_t29 := Imp.go t29 (by omega))); (try (have i_t19 := Imp.go t19 (by omega))); (try (have i_t6 := Imp.go t6 (by omega))); first | omega | ((try (have i_tx := Imp.go tx (by omega))); (try (have i_cd := Imp.go cd (by omega))); (try (have i_cd := Imp.go cd (by omega))); (try (have i_tx := Imp.go tx (by omega))); first | omega | ((try (have i_t6 := Imp.go t6 (by omega))); (try (have i_t19 := Imp.go t19 (by omega))); (try (have i_t29 := Imp.go t29 (by omega))); (try (have i_t45 := Imp.go t45 (by omega))); omega)))) (show (24 * b + (Int32.toNatClampNeg (V 43 (5 * b + 2)))) < 24 * b + 24 from by first | exact om_2cb391d8ee49 r9 kc73 ((Imp.go t6 (f8))) | first | omega | ((try (have i_t6 := Imp.go t6 (f8))); omega) | ((try (have i_t45 := Imp.go t45 (by omega))); (try (have i_t29 := Imp.go t29 (by omega))); (try (have i_t19 := Imp.go t19 (by omega))); (try (have i_t6 := Imp.go t6 (by omega))); first | omega | ((try (have i_tx := Imp.go tx (by omega))); (try (have i_cd := Imp.go cd (by omega))); (try (have i_cd := Imp.go cd (by omega))); (try (have i_tx := Imp.go tx (by omega))); first | omega | ((try (have i_t6 := Imp.go t6 (by omega))); (try (have i_t19 := Imp.go t19 (by omega))); (try (have i_t29 := Imp.go t29 (by omega))); (try (have i_t45 := Imp.go t45 (by omega))); omega))))) w919 w921 w14 w162 w922 rfl xgReader hdV_yX1_readExtras ⟨Nat.le_of_ble_eq_true rfl, Nat.le_of_ble_eq_true rfl⟩ rfl hl.1 rfl (Nat.le_of_ble_eq_true rfl) dX1_readComponent_146 ⟨Nat.le_of_ble_eq_true rfl, Nat.le_of_ble_eq_true rfl⟩) hP hD hK hS hA (fun z101 u102 H locs w103 hP hD hK hS => ?_)
              obtain ⟨V106, L107⟩ := u102
              obtain ⟨hMV106, ajV106, axL107, fyV106, rgz101, t104, t105⟩ := w103
              have alL107 : agL [1, 6, 44] L L107 := agL.tr alL99 axL107 (by decide)
              have hP : va_P D vwCl (xw ad kk V106 L107 Z) H := hP
              have hD : va_D A (xw ad kk V106 L107 Z) := hD
              have hMV106 : rgd bX V106 := hMV106
              have ajV106 : agr [(1, 3), (1, 6), (1, 8), (6, 8), (6, 9), (6, 10)] [43, 44, 52, 53, 54, 55] V98 V106 := ajV106
              have agV106 : agr [(1, 2), (1, 3), (1, 6), (1, 7), (1, 8), (6, 8), (6, 9), (6, 10)] [43, 44, 49, 50, 51, 52, 53, 54, 55, 56, 57, 61] V V106 := agV98.tr ajV106 (by decide) (by decide)
              have fwV106 : frX (xR b) V V106 := frX.tr fwV98 (fyV106)
              have rgz101 : 0 ≤ z101.toInt ∧ z101.toInt ≤ 1 := rgz101
              have t104 : px V98 V106 b := t104
              have t105 : Imp (z101.toInt = 0) (1 ≤ (V106 1 3).toInt) := t105
              refine lv_if_eq (tgt := 161) hx hb dX1_readComponent_149 (by decide) (fun c108 => ?_) (fun c108 => ?_)
              · skip
                have f109 : z101.toInt = 0 := b_eq rfl (by decide) c108
                refine lv_iconst (v := 0) hx hb dX1_readComponent_161 (by decide) ?_
                have pq110 : (V106 1 2).toInt = ((V 1 2)).toInt := congrArg Int32.toInt ((ajV106 1 2 rfl).trans ((ajV98 1 2 rfl).trans ((up2_o hV93 (by decide)).trans ((up2_o hV90 (by decide)).trans ((ajV88 1 2 rfl).trans ((ajV46 1 2 rfl).trans ((ajV30 1 2 rfl).trans ((ajV20 1 2 rfl).trans (ajV13 1 2 rfl)))))))))
                have r111 : (-1) ≤ ((V 1 2)).toInt ∧ ((V 1 2)).toInt ≤ 47 := hMV 1 2
                have cd112 : CD V106 b := ⟨CB.ag cd.1 (show agr [(1, 3), (1, 6), (1, 7), (1, 8), (6, 8), (6, 9), (6, 10)] [43, 44, 49, 50, 51, 52, 53, 54, 55, 56, 57, 61] V V106 from (agr.tr (agr.tr (agr.up (agr.up (agr.tr (agr.tr (agr.tr (agr.tr (agr.tr agr.rf ajV13 (by decide) (by decide)) ajV20 (by decide) (by decide)) ajV30 (by decide) (by decide)) ajV46 (by decide) (by decide)) ajV88 (by decide) (by decide)) hV90 rfl) hV93 rfl) ajV98 (by decide) (by decide)) ajV106 (by decide) (by decide))) (fun _ => rfl) (fun _ => rfl), CO.ag cd.2 (show agr [(1, 3), (1, 6), (1, 7), (1, 8), (6, 8), (6, 9), (6, 10)] [43, 44, 49, 50, 51, 52, 53, 54, 55, 56, 57, 61] V V106 from (agr.tr (agr.tr (agr.up (agr.up (agr.tr (agr.tr (agr.tr (agr.tr (agr.tr agr.rf ajV13 (by decide) (by decide)) ajV20 (by decide) (by decide)) ajV30 (by decide) (by decide)) ajV46 (by decide) (by decide)) ajV88 (by decide) (by decide)) hV90 rfl) hV93 rfl) ajV98 (by decide) (by decide)) ajV106 (by decide) (by decide))) (fun _ => rfl) (fun _ => rfl)⟩
                have p0113 : p0x V V13 b := p0x.tr (p0x.rf : p0x V V b) (p0x.ag (show agr [(6, 8), (6, 9), (6, 10)] [] V V13 from (agr.tr agr.rf ajV13 (by decide) (by decide))) (fun _ => rfl) (fun _ => rfl))
                have p0114 : p0x V V20 b := p0x.tr p0113 (p0x.ag (show agr [(1, 3), (6, 8), (6, 9), (6, 10)] [] V13 V20 from (agr.tr agr.rf ajV20 (by decide) (by decide))) (fun _ => rfl) (fun _ => rfl))
                have p0115 : p0x V V30 b := p0x.tr p0114 (p0x.ag (show agr [(1, 3), (6, 8), (6, 9), (6, 10)] [] V20 V30 from (agr.tr agr.rf ajV30 (by decide) (by decide))) (fun _ => rfl) (fun _ => rfl))
                have p0116 : p0x V V46 b := p0x.tr p0115 (p0x.ag (show agr [(1, 3), (1, 6), (1, 7), (6, 8), (6, 9), (6, 10)] [] V30 V46 from (agr.tr agr.rf ajV46 (by decide) (by decide))) (fun _ => rfl) (fun _ => rfl))
                have p0117 : p0x V V88 b := p0x.tr p0116 (p0x.ag (show agr [] [49, 50, 51, 52, 53, 54, 55, 56, 57, 61] V46 V88 from (agr.tr agr.rf ajV88 (by decide) (by decide))) (fun _ => rfl) (fun _ => rfl))
                have p0118 : p0x V V90 b := p0x.tr p0117 (p0x.ag (show agr [] [50] V88 V90 from (agr.up agr.rf hV90 rfl)) (fun _ => rfl) (fun _ => rfl))
                have p0119 : p0x V V93 b := p0x.tr p0118 (p0x.ag (show agr [] [51] V90 V93 from (agr.up agr.rf hV93 rfl)) (fun _ => rfl) (fun _ => rfl))
                have p0120 : p0x V V98 b := p0x.tr p0119 (p0x.ag (show agr [(6, 8), (6, 9), (6, 10)] [] V93 V98 from (agr.tr agr.rf ajV98 (by decide) (by decide))) (fun _ => rfl) (fun _ => rfl))
                have p0121 : p0x V V106 b := p0x.tr p0120 t104.1
                exact W.zret (v := 0) hx hb hr rfl (fun t ht hW => ⟨⟨0, (V106, L107), rfl, ⟨hMV106, agV106, alL107, fwV106, (by decide), (Imp.mk (fun hp => absurd hp (by decide))), cd112, p0121, (show (V106 1 2).toInt = (V 1 2).toInt ∨ (24 * (b : Int) ≤ (V106 1 2).toInt ∧ (V106 1 2).toInt < 24 * (b : Int) + 24) from by first | omega | ((try (have i_t105 := Imp.go t105 (f109))); (try (have i_t6 := Imp.go t6 (f8))); omega) | ((try (have i_t105 := Imp.go t105 (by omega))); (try (have i_t45 := Imp.go t45 (by omega))); (try (have i_t29 := Imp.go t29 (by omega))); (try (have i_t19 := Imp.go t19 (by omega))); first | omega | ((try (have i_t6 := Imp.go t6 (by omega))); (try (have i_tx := Imp.go tx (by omega))); (try (have i_cd := Imp.go cd (by omega))); (try (have i_cd := Imp.go cd (by omega))); first | omega | ((try (have i_tx := Imp.go tx (by omega))); (try (have i_t6 := Imp.go t6 (by omega))); (try (have i_t19 := Imp.go t19 (by omega))); (try (have i_t29 := Imp.go t29 (by omega))); (try (have i_t45 := Imp.go t45 (by omega))); (try (have i_t105 := Imp.go t105 (by omega))); omega)))), (Imp.mk (fun _ => (show 1 ≤ (V106 1 3).toInt from by first | exact om_f8d8213eda45 ((Imp.go t105 (f109))) | first | omega | ((try (have i_t105 := Imp.go t105 (f109))); (try (have i_t6 := Imp.go t6 (f8))); omega) | ((try (have i_t105 := Imp.go t105 (by omega))); (try (have i_t45 := Imp.go t45 (by omega))); (try (have i_t29 := Imp.go t29 (by omega))); (try (have i_t19 := Imp.go t19 (by omega))); first | omega | ((try (have i_t6 := Imp.go t6 (by omega))); (try (have i_tx := Imp.go tx (by omega))); (try (have i_cd := Imp.go cd (by omega))); (try (have i_cd := Imp.go cd (by omega))); first | omega | ((try (have i_tx := Imp.go tx (by omega))); (try (have i_t6 := Imp.go t6 (by omega))); (try (have i_t19 := Imp.go t19 (by omega))); (try (have i_t29 := Imp.go t29 (by omega))); (try (have i_t45 := Imp.go t45 (by omega))); (try (have i_t105 := Imp.go t105 (by omega))); omega))))))⟩, by rw [ht]; exact hP, va_K.moved hW.alike hK, hD⟩, hS.F ht⟩) hS.2.2 dX1_readComponent_162
              · skip
                have f122 : z101.toInt ≠ 0 := b_neq rfl (by decide) c108
                refine lv_aload_n hx hb dX1_readComponent_152 rfl (lv_at hl 2 rfl) ?_
                refine lv_bipush (v := 123) hx hb dX1_readComponent_153 (by decide) ?_
                have r123 : Int32.toInt 123 = 123 := by decide
                refine gA_int (gA_runV (As := [.int 123]) (rest := []) (ci := 1) (q0 := 1) hx hb hml hown hg hP hD hK hS hA hnw hgk (x_take l D ks H.size ad kk V106 L107 Z 123 hMV106 ) w893 w895 w10 w162 w896 rfl xgReader hdV_yX1_take ⟨Nat.le_of_ble_eq_true rfl, Nat.le_of_ble_eq_true rfl⟩ rfl hl.1 rfl (Nat.le_of_ble_eq_true rfl) dX1_readComponent_155 ⟨Nat.le_of_ble_eq_true rfl, Nat.le_of_ble_eq_true rfl⟩) hP hD hK hS hA (fun z124 u125 H locs w126 hP hD hK hS => ?_)
                obtain ⟨V128, L129⟩ := u125
                obtain ⟨hMV128, ajV128, axL129, rgz124, t127⟩ := w126
                have alL129 : agL [1, 6, 44] L L129 := agL.tr alL107 axL129 (by decide)
                have hP : va_P D vwCl (xw ad kk V128 L129 Z) H := hP
                have hD : va_D A (xw ad kk V128 L129 Z) := hD
                have hMV128 : rgd bX V128 := hMV128
                have ajV128 : agr [(1, 3), (6, 8), (6, 9), (6, 10)] [] V106 V128 := ajV128
                have agV128 : agr [(1, 2), (1, 3), (1, 6), (1, 7), (1, 8), (6, 8), (6, 9), (6, 10)] [43, 44, 49, 50, 51, 52, 53, 54, 55, 56, 57, 61] V V128 := agV106.tr ajV128 (by decide) (by decide)
                have fwV128 : frX (xR b) V V128 := frX.tr fwV106 (frX.ag ajV128 (by decide) (by decide))
                have rgz124 : 0 ≤ z124.toInt ∧ z124.toInt ≤ 1 := rgz124
                have t127 : Imp (z124.toInt = 0) (1 ≤ (V128 1 3).toInt) := t127
                refine lv_if_ne (tgt := 163) hx hb dX1_readComponent_158 (by decide) (fun c130 => ?_) (fun c130 => ?_)
                · skip
                  have f131 : z124.toInt ≠ 0 := b_neq rfl (by decide) c130
                  refine lv_aload_n hx hb dX1_readComponent_163 rfl (lv_at hl 2 rfl) ?_
                  refine va_get (D := D) (ci := 1) (v := rfN ad 38 (V128 1 1)) (fs := (xfReader ad V128 L129 Z)) (C := RX1) (T := TX1) (N := 9) hx hb hg inX1 hown hK hP 1 xgReader rfl 1 (by decide) (hg _ w305) (fun _ h9 => h9) rfl dX1_readComponent_164 ?_
                  have pq132 : (V128 1 1).toInt = ((V 1 1)).toInt := congrArg Int32.toInt ((ajV128 1 1 rfl).trans ((ajV106 1 1 rfl).trans ((ajV98 1 1 rfl).trans ((up2_o hV93 (by decide)).trans ((up2_o hV90 (by decide)).trans ((ajV88 1 1 rfl).trans ((ajV46 1 1 rfl).trans ((ajV30 1 1 rfl).trans ((ajV20 1 1 rfl).trans (ajV13 1 1 rfl))))))))))
                  refine g_topv (v := .ref (ad (38 + b))) (rfN_r (by first | omega | ((try (have i_t6 := Imp.go t6 (f8))); omega) | ((try (have i_t127 := Imp.go t127 (by omega))); (try (have i_t105 := Imp.go t105 (by omega))); (try (have i_t45 := Imp.go t45 (by omega))); (try (have i_t29 := Imp.go t29 (by omega))); first | omega | ((try (have i_t19 := Imp.go t19 (by omega))); (try (have i_t6 := Imp.go t6 (by omega))); (try (have i_tx := Imp.go tx (by omega))); (try (have i_cd := Imp.go cd (by omega))); first | omega | ((try (have i_cd := Imp.go cd (by omega))); (try (have i_tx := Imp.go tx (by omega))); (try (have i_t6 := Imp.go t6 (by omega))); (try (have i_t19 := Imp.go t19 (by omega))); first | omega | ((try (have i_t29 := Imp.go t29 (by omega))); (try (have i_t45 := Imp.go t45 (by omega))); (try (have i_t105 := Imp.go t105 (by omega))); (try (have i_t127 := Imp.go t127 (by omega))); omega)))))) ?_
                  refine va_getN (D := D) (ci := 0) (v := .ref (ad (40 + (5 * b + 2)))) (fs := (xfBook ad V128 b)) (C := RX0) (T := TX0) (N := 13) hx hb hg inX0 hown hK hP (38 + b) (xgBook hb2) rfl 2 (by decide) (hnw.use 601 n601 rfl) (fun _ h9 => h9) rfl dX1_readComponent_167 ?_
                  refine lv_lload_n hx hb dX1_readComponent_170 rfl (lv_at hl 1 rfl) ?_
                  refine gA_int (gA_runV (As := [.long w24]) (rest := []) (ci := 6) (q0 := (40 + (5 * b + 2))) hx hb hml hown hg hP hD hK hS hA hnw hgk (x_add l D ks H.size ad kk V128 L129 Z w24 ((5 * b + 2)) hMV128 (show (5 * b + 2) < 10 from by first | exact om_1478e52fbf50 hb2 | first | omega | ((try (have i_t6 := Imp.go t6 (f8))); omega) | ((try (have i_t127 := Imp.go t127 (by omega))); (try (have i_t105 := Imp.go t105 (by omega))); (try (have i_t45 := Imp.go t45 (by omega))); (try (have i_t29 := Imp.go t29 (by omega))); first | omega | ((try (have i_t19 := Imp.go t19 (by omega))); (try (have i_t6 := Imp.go t6 (by omega))); (try (have i_tx := Imp.go tx (by omega))); (try (have i_cd := Imp.go cd (by omega))); first | omega | ((try (have i_cd := Imp.go cd (by omega))); (try (have i_tx := Imp.go tx (by omega))); (try (have i_t6 := Imp.go t6 (by omega))); (try (have i_t19 := Imp.go t19 (by omega))); first | omega | ((try (have i_t29 := Imp.go t29 (by omega))); (try (have i_t45 := Imp.go t45 (by omega))); (try (have i_t105 := Imp.go t105 (by omega))); (try (have i_t127 := Imp.go t127 (by omega))); omega)))))) w897 w898 w899 w168 w900 rfl (xgNames il2) hdV_yX6_add ⟨Nat.le_of_ble_eq_true rfl, Nat.le_of_ble_eq_true rfl⟩ rfl hl.1 rfl (Nat.le_of_ble_eq_true rfl) dX1_readComponent_171 ⟨Nat.le_of_ble_eq_true rfl, Nat.le_of_ble_eq_true rfl⟩) hP hD hK hS hA (fun z133 u134 H locs w135 hP hD hK hS => ?_)
                  obtain ⟨V139, L140⟩ := u134
                  obtain ⟨hMV139, ajV139, axL140, fyV139, rgz133, t136, t137, t138⟩ := w135
                  have alL140 : agL [1, 6, 44] L L140 := agL.tr alL129 axL140 (by decide)
                  have hP : va_P D vwCl (xw ad kk V139 L140 Z) H := hP
                  have hD : va_D A (xw ad kk V139 L140 Z) := hD
                  have hMV139 : rgd bX V139 := hMV139
                  have ajV139 : agr [] [43, 44] V128 V139 := ajV139
                  have agV139 : agr [(1, 2), (1, 3), (1, 6), (1, 7), (1, 8), (6, 8), (6, 9), (6, 10)] [43, 44, 49, 50, 51, 52, 53, 54, 55, 56, 57, 61] V V139 := agV128.tr ajV139 (by decide) (by decide)
                  have fwV139 : frX (xR b) V V139 := frX.tr fwV128 (frX_NB fyV139 (by first | omega | ((try (have i_t6 := Imp.go t6 (f8))); omega) | ((try (have i_t127 := Imp.go t127 (by omega))); (try (have i_t105 := Imp.go t105 (by omega))); (try (have i_t45 := Imp.go t45 (by omega))); (try (have i_t29 := Imp.go t29 (by omega))); first | omega | ((try (have i_t19 := Imp.go t19 (by omega))); (try (have i_t6 := Imp.go t6 (by omega))); (try (have i_tx := Imp.go tx (by omega))); (try (have i_cd := Imp.go cd (by omega))); first | omega | ((try (have i_cd := Imp.go cd (by omega))); (try (have i_tx := Imp.go tx (by omega))); (try (have i_t6 := Imp.go t6 (by omega))); (try (have i_t19 := Imp.go t19 (by omega))); first | omega | ((try (have i_t29 := Imp.go t29 (by omega))); (try (have i_t45 := Imp.go t45 (by omega))); (try (have i_t105 := Imp.go t105 (by omega))); (try (have i_t127 := Imp.go t127 (by omega))); omega))))) (by first | omega | ((try (have i_t6 := Imp.go t6 (f8))); omega) | ((try (have i_t127 := Imp.go t127 (by omega))); (try (have i_t105 := Imp.go t105 (by omega))); (try (have i_t45 := Imp.go t45 (by omega))); (try (have i_t29 := Imp.go t29 (by omega))); first | omega | ((try (have i_t19 := Imp.go t19 (by omega))); (try (have i_t6 := Imp.go t6 (by omega))); (try (have i_tx := Imp.go tx (by omega))); (try (have i_cd := Imp.go cd (by omega))); first | omega | ((try (have i_cd := Imp.go cd (by omega))); (try (have i_tx := Imp.go tx (by omega))); (try (have i_t6 := Imp.go t6 (by omega))); (try (have i_t19 := Imp.go t19 (by omega))); first | omega | ((try (have i_t29 := Imp.go t29 (by omega))); (try (have i_t45 := Imp.go t45 (by omega))); (try (have i_t105 := Imp.go t105 (by omega))); (try (have i_t127 := Imp.go t127 (by omega))); omega))))))
                  have rgz133 : (-1) ≤ z133.toInt ∧ z133.toInt ≤ 23 := rgz133
                  have t136 : z133.toInt < (V139 43 (5 * b + 2)).toInt := t136
                  have t137 : Imp ((V128 43 (5 * b + 2)).toInt < ((xcap (5 * b + 2) : Nat) : Int)) (z133.toInt = (V128 43 (5 * b + 2)).toInt ∧ (V139 43 (5 * b + 2)).toInt = (V128 43 (5 * b + 2)).toInt + 1) := t137
                  have t138 : (∀ n : Nat, ¬ n = (5 * b + 2) → V139 43 n = V128 43 n) := t138
                  refine lv_pop hx hb dX1_readComponent_174 rfl ?_
                  refine lv_aload_n hx hb dX1_readComponent_175 rfl (lv_at hl 2 rfl) ?_
                  refine lv_aload_n hx hb dX1_readComponent_176 rfl (lv_at hl 0 rfl) ?_
                  refine va_put (D := D) (ci := 1) (v := .ref (ad (72 + (24 * b + (Int32.toNatClampNeg (V 43 (5 * b + 2))))))) (ty := tyX1 2) (fs := (xfReader ad V139 L140 Z)) (C := RX1) (T := TX1) (N := 9) hx hb hg inX1 tyX1 tyX1_ok nmX1 hown hK hP hD hS 1 xgReader rfl 2 (by decide) (hg _ w306) (fun _ h9 => h9) rfl (tyX1_ok 2 (by decide)) rfl rfl (Nat.le_of_ble_eq_true rfl) dX1_readComponent_177 (fun H locs hP hD hS => ?_)
                  have r141 : (nI (24 * b + (Int32.toNatClampNeg (V 43 (5 * b + 2))))).toInt = (((24 * b + (Int32.toNatClampNeg (V 43 (5 * b + 2)))) : Nat) : Int) := nI_toInt (by omega)
                  obtain ⟨V142, hV142⟩ : ∃ z, z = up2 V139 1 2 (nI (24 * b + (Int32.toNatClampNeg (V 43 (5 * b + 2))))) := ⟨_, rfl⟩
                  have ew143 : (xw ad kk V139 L140 Z).set 1 ((ad 1), .inr (1, (xfReader ad V139 L140 Z).set 2 (.ref (ad (72 + (24 * b + (Int32.toNatClampNeg (V 43 (5 * b + 2))))))))) = xw ad kk V142 L140 Z := by rw [hV142]; exact xr_owner il74
                  have hP : va_P D vwCl (xw ad kk V142 L140 Z) H := by rw [← ew143]; exact hP
                  have hD : va_D A (xw ad kk V142 L140 Z) := by rw [← ew143]; exact hD
                  have hMV142 : rgd bX V142 := hMV139.put hV142 (show (-1) ≤ ((nI (24 * b + (Int32.toNatClampNeg (V 43 (5 * b + 2)))))).toInt ∧ ((nI (24 * b + (Int32.toNatClampNeg (V 43 (5 * b + 2)))))).toInt ≤ 47 from by first | exact om_673d720b062f hb2 r9 kc73 r141 ((Imp.go t6 (f8))) | first | omega | ((try (have i_t6 := Imp.go t6 (f8))); omega) | ((try (have i_t137 := Imp.go t137 (by omega))); (try (have i_t127 := Imp.go t127 (by omega))); (try (have i_t105 := Imp.go t105 (by omega))); (try (have i_t45 := Imp.go t45 (by omega))); first | omega | ((try (have i_t29 := Imp.go t29 (by omega))); (try (have i_t19 := Imp.go t19 (by omega))); (try (have i_t6 := Imp.go t6 (by omega))); (try (have i_tx := Imp.go tx (by omega))); first | omega | ((try (have i_cd := Imp.go cd (by omega))); (try (have i_cd := Imp.go cd (by omega))); (try (have i_tx := Imp.go tx (by omega))); (try (have i_t6 := Imp.go t6 (by omega))); first | omega | ((try (have i_t19 := Imp.go t19 (by omega))); (try (have i_t29 := Imp.go t29 (by omega))); (try (have i_t45 := Imp.go t45 (by omega))); (try (have i_t105 := Imp.go t105 (by omega))); (try (have i_t127 := Imp.go t127 (by omega))); (try (have i_t137 := Imp.go t137 (by omega))); omega)))))
                  have agV142 : agr [(1, 2), (1, 3), (1, 6), (1, 7), (1, 8), (6, 8), (6, 9), (6, 10)] [43, 44, 49, 50, 51, 52, 53, 54, 55, 56, 57, 61] V V142 := agV139.up hV142 rfl
                  have fwV142 : frX (xR b) V V142 := frX.up fwV139 hV142 (Or.inl (by decide))
                  refine lv_iconst (v := 1) hx hb dX1_readComponent_180 (by decide) ?_
                  have pq144 : (V142 1 2).toInt = ((nI (24 * b + (Int32.toNatClampNeg (V 43 (5 * b + 2)))))).toInt := congrArg Int32.toInt (up2_s hV142)
                  have pq145 : (V142 1 3).toInt = ((V128 1 3)).toInt := congrArg Int32.toInt ((up2_k hV142 (by decide)).trans (ajV139 1 3 rfl))
                  have pq146 : (V46 43 (5 * b + 2)).toInt = ((V 43 (5 * b + 2))).toInt := congrArg Int32.toInt ((ajV46 43 (5 * b + 2) rfl).trans ((ajV30 43 (5 * b + 2) rfl).trans ((ajV20 43 (5 * b + 2) rfl).trans (ajV13 43 (5 * b + 2) rfl))))
                  have pq147 : (V128 43 (5 * b + 2)).toInt = ((V106 43 (5 * b + 2))).toInt := congrArg Int32.toInt (ajV128 43 (5 * b + 2) rfl)
                  have r148 : 0 ≤ ((V106 43 (5 * b + 2))).toInt ∧ ((V106 43 (5 * b + 2))).toInt ≤ ((xcap (5 * b + 2) : Nat) : Int) := hMV106 43 (5 * b + 2)
                  have pq149 : (V142 43 (5 * b + 2)).toInt = ((V139 43 (5 * b + 2))).toInt := congrArg Int32.toInt (up2_o hV142 (by decide))
                  have r150 : 0 ≤ ((V139 43 (5 * b + 2))).toInt ∧ ((V139 43 (5 * b + 2))).toInt ≤ ((xcap (5 * b + 2) : Nat) : Int) := hMV139 43 (5 * b + 2)
                  have px151 : px V46 V98 b := px.tr (px.rf : px V46 V46 b) (px.ag (show agr [(6, 8), (6, 9), (6, 10)] [49, 50, 51, 52, 53, 54, 55, 56, 57, 61] V46 V98 from (agr.tr (agr.up (agr.up (agr.tr agr.rf ajV88 (by decide) (by decide)) hV90 rfl) hV93 rfl) ajV98 (by decide) (by decide))) (fun _ => rfl) (fun _ => rfl) (fun _ => rfl))
                  have px152 : px V46 V106 b := px.tr px151 t104
                  have px153 : px V46 V128 b := px.tr px152 (px.ag (show agr [(1, 3), (6, 8), (6, 9), (6, 10)] [] V106 V128 from (agr.tr agr.rf ajV128 (by decide) (by decide))) (fun _ => rfl) (fun _ => rfl) (fun _ => rfl))
                  have e43 := congrArg Int32.toInt px153.2
                  have px154 : px V V46 b := px.tr (px.rf : px V V b) (px.ag (show agr [(1, 3), (1, 6), (1, 7), (6, 8), (6, 9), (6, 10)] [] V V46 from (agr.tr (agr.tr (agr.tr (agr.tr agr.rf ajV13 (by decide) (by decide)) ajV20 (by decide) (by decide)) ajV30 (by decide) (by decide)) ajV46 (by decide) (by decide))) (fun _ => rfl) (fun _ => rfl) (fun _ => rfl))
                  have e44 := congrArg Int32.toInt px154.2
                  have ks9 := i_clamp (x := V46 43 (5 * b + 2)) rfl (by have h9 : 0 ≤ (V46 43 (5 * b + 2)).toInt := (hMV46 43 (5 * b + 2)).1; omega)
                  have tx155 : TX V142 b := TX.add (n := (Int32.toNatClampNeg (V 43 (5 * b + 2)))) tx76 (by omega) (by first | omega | ((try (have i_t6 := Imp.go t6 (f8))); omega) | ((try (have i_t137 := Imp.go t137 (by omega))); (try (have i_t127 := Imp.go t127 (by omega))); (try (have i_t105 := Imp.go t105 (by omega))); (try (have i_t45 := Imp.go t45 (by omega))); first | omega | ((try (have i_t29 := Imp.go t29 (by omega))); (try (have i_t19 := Imp.go t19 (by omega))); (try (have i_t6 := Imp.go t6 (by omega))); (try (have i_tx := Imp.go tx (by omega))); first | omega | ((try (have i_cd := Imp.go cd (by omega))); (try (have i_cd := Imp.go cd (by omega))); (try (have i_tx := Imp.go tx (by omega))); (try (have i_t6 := Imp.go t6 (by omega))); first | omega | ((try (have i_t19 := Imp.go t19 (by omega))); (try (have i_t29 := Imp.go t29 (by omega))); (try (have i_t45 := Imp.go t45 (by omega))); (try (have i_t105 := Imp.go t105 (by omega))); (try (have i_t127 := Imp.go t127 (by omega))); (try (have i_t137 := Imp.go t137 (by omega))); omega))))) (p0x.ag (show agr [(1, 2), (1, 3), (1, 6), (1, 8), (6, 8), (6, 9), (6, 10)] [43, 44, 49, 50, 51, 52, 53, 54, 55, 56, 57, 61] V46 V142 from (agr.up (agr.tr (agr.tr (agr.tr (agr.tr (agr.up (agr.up (agr.tr agr.rf ajV88 (by decide) (by decide)) hV90 rfl) hV93 rfl) ajV98 (by decide) (by decide)) ajV106 (by decide) (by decide)) ajV128 (by decide) (by decide)) ajV139 (by decide) (by decide)) hV142 rfl)) (fun _ => rfl) (fun _ => rfl)) (fun q hq => ((show agr [(1, 2), (1, 3), (1, 6), (1, 8), (6, 8), (6, 9), (6, 10)] [43, 44, 50, 51, 52, 53, 54, 55] V88 V142 from (agr.up (agr.tr (agr.tr (agr.tr (agr.tr (agr.up (agr.up agr.rf hV90 rfl) hV93 rfl) ajV98 (by decide) (by decide)) ajV106 (by decide) (by decide)) ajV128 (by decide) (by decide)) ajV139 (by decide) (by decide)) hV142 rfl)) 56 _ rfl).trans (t85 q hq)) (fun q hq => ((show agr [(1, 2), (1, 3), (1, 6), (1, 8), (6, 8), (6, 9), (6, 10)] [43, 44, 50, 51, 52, 53, 54, 55] V88 V142 from (agr.up (agr.tr (agr.tr (agr.tr (agr.tr (agr.up (agr.up agr.rf hV90 rfl) hV93 rfl) ajV98 (by decide) (by decide)) ajV106 (by decide) (by decide)) ajV128 (by decide) (by decide)) ajV139 (by decide) (by decide)) hV142 rfl)) 57 _ rfl).trans (t86 q hq)) (fun q hq => ((show agr [(1, 2), (1, 3), (1, 6), (1, 8), (6, 8), (6, 9), (6, 10)] [43, 44, 50, 51, 52, 53, 54, 55] V88 V142 from (agr.up (agr.tr (agr.tr (agr.tr (agr.tr (agr.up (agr.up agr.rf hV90 rfl) hV93 rfl) ajV98 (by decide) (by decide)) ajV106 (by decide) (by decide)) ajV128 (by decide) (by decide)) ajV139 (by decide) (by decide)) hV142 rfl)) 61 _ rfl).trans (t84 q hq)) (by rw [(show agr [(1, 2), (1, 3), (1, 6), (1, 8), (6, 8), (6, 9), (6, 10)] [43, 44, 50, 51, 52, 53, 54, 55] V88 V142 from (agr.up (agr.tr (agr.tr (agr.tr (agr.tr (agr.up (agr.up agr.rf hV90 rfl) hV93 rfl) ajV98 (by decide) (by decide)) ajV106 (by decide) (by decide)) ajV128 (by decide) (by decide)) ajV139 (by decide) (by decide)) hV142 rfl)) 56 _ rfl]; exact t80) (by rw [(show agr [(1, 2), (1, 3), (1, 6), (1, 8), (6, 8), (6, 9), (6, 10)] [43, 44, 50, 51, 52, 53, 54, 55] V88 V142 from (agr.up (agr.tr (agr.tr (agr.tr (agr.tr (agr.up (agr.up agr.rf hV90 rfl) hV93 rfl) ajV98 (by decide) (by decide)) ajV106 (by decide) (by decide)) ajV128 (by decide) (by decide)) ajV139 (by decide) (by decide)) hV142 rfl)) 57 _ rfl]; exact t81) (fun m hm => by rw [(show agr [(1, 2), (1, 3), (1, 6), (1, 8), (6, 8), (6, 9), (6, 10)] [43, 44, 50, 51, 52, 53, 54, 55] V88 V142 from (agr.up (agr.tr (agr.tr (agr.tr (agr.tr (agr.up (agr.up agr.rf hV90 rfl) hV93 rfl) ajV98 (by decide) (by decide)) ajV106 (by decide) (by decide)) ajV128 (by decide) (by decide)) ajV139 (by decide) (by decide)) hV142 rfl)) 61 _ rfl]; exact t83 m hm) ((show agr [(1, 2), (1, 3), (1, 6), (1, 8), (6, 8), (6, 9), (6, 10)] [43, 44, 49, 50, 51, 52, 53, 54, 55, 56, 57, 61] V46 V142 from (agr.up (agr.tr (agr.tr (agr.tr (agr.tr (agr.up (agr.up (agr.tr agr.rf ajV88 (by decide) (by decide)) hV90 rfl) hV93 rfl) ajV98 (by decide) (by decide)) ajV106 (by decide) (by decide)) ajV128 (by decide) (by decide)) ajV139 (by decide) (by decide)) hV142 rfl)) 41 _ rfl) (fun _ => (show agr [(1, 2), (1, 3), (1, 6), (1, 8), (6, 8), (6, 9), (6, 10)] [43, 44, 49, 50, 51, 52, 53, 54, 55, 56, 57, 61] V46 V142 from (agr.up (agr.tr (agr.tr (agr.tr (agr.tr (agr.up (agr.up (agr.tr agr.rf ajV88 (by decide) (by decide)) hV90 rfl) hV93 rfl) ajV98 (by decide) (by decide)) ajV106 (by decide) (by decide)) ajV128 (by decide) (by decide)) ajV139 (by decide) (by decide)) hV142 rfl)) 66 _ rfl) (fun _ => (show agr [(1, 2), (1, 3), (1, 6), (1, 8), (6, 8), (6, 9), (6, 10)] [43, 44, 49, 50, 51, 52, 53, 54, 55, 56, 57, 61] V46 V142 from (agr.up (agr.tr (agr.tr (agr.tr (agr.tr (agr.up (agr.up (agr.tr agr.rf ajV88 (by decide) (by decide)) hV90 rfl) hV93 rfl) ajV98 (by decide) (by decide)) ajV106 (by decide) (by decide)) ajV128 (by decide) (by decide)) ajV139 (by decide) (by decide)) hV142 rfl)) 47 _ rfl)
                  have cd156 : CD V142 b := ⟨CB.ag cd.1 (show agr [(1, 2), (1, 3), (1, 6), (1, 7), (1, 8), (6, 8), (6, 9), (6, 10)] [43, 44, 49, 50, 51, 52, 53, 54, 55, 56, 57, 61] V V142 from (agr.up (agr.tr (agr.tr (agr.tr (agr.tr (agr.up (agr.up (agr.tr (agr.tr (agr.tr (agr.tr (agr.tr agr.rf ajV13 (by decide) (by decide)) ajV20 (by decide) (by decide)) ajV30 (by decide) (by decide)) ajV46 (by decide) (by decide)) ajV88 (by decide) (by decide)) hV90 rfl) hV93 rfl) ajV98 (by decide) (by decide)) ajV106 (by decide) (by decide)) ajV128 (by decide) (by decide)) ajV139 (by decide) (by decide)) hV142 rfl)) (fun _ => rfl) (fun _ => rfl), CO.ag cd.2 (show agr [(1, 2), (1, 3), (1, 6), (1, 7), (1, 8), (6, 8), (6, 9), (6, 10)] [43, 44, 49, 50, 51, 52, 53, 54, 55, 56, 57, 61] V V142 from (agr.up (agr.tr (agr.tr (agr.tr (agr.tr (agr.up (agr.up (agr.tr (agr.tr (agr.tr (agr.tr (agr.tr agr.rf ajV13 (by decide) (by decide)) ajV20 (by decide) (by decide)) ajV30 (by decide) (by decide)) ajV46 (by decide) (by decide)) ajV88 (by decide) (by decide)) hV90 rfl) hV93 rfl) ajV98 (by decide) (by decide)) ajV106 (by decide) (by decide)) ajV128 (by decide) (by decide)) ajV139 (by decide) (by decide)) hV142 rfl)) (fun _ => rfl) (fun _ => rfl)⟩
                  have p0157 : p0x V V13 b := p0x.tr (p0x.rf : p0x V V b) (p0x.ag (show agr [(6, 8), (6, 9), (6, 10)] [] V V13 from (agr.tr agr.rf ajV13 (by decide) (by decide))) (fun _ => rfl) (fun _ => rfl))
                  have p0158 : p0x V V20 b := p0x.tr p0157 (p0x.ag (show agr [(1, 3), (6, 8), (6, 9), (6, 10)] [] V13 V20 from (agr.tr agr.rf ajV20 (by decide) (by decide))) (fun _ => rfl) (fun _ => rfl))
                  have p0159 : p0x V V30 b := p0x.tr p0158 (p0x.ag (show agr [(1, 3), (6, 8), (6, 9), (6, 10)] [] V20 V30 from (agr.tr agr.rf ajV30 (by decide) (by decide))) (fun _ => rfl) (fun _ => rfl))
                  have p0160 : p0x V V46 b := p0x.tr p0159 (p0x.ag (show agr [(1, 3), (1, 6), (1, 7), (6, 8), (6, 9), (6, 10)] [] V30 V46 from (agr.tr agr.rf ajV46 (by decide) (by decide))) (fun _ => rfl) (fun _ => rfl))
                  have p0161 : p0x V V88 b := p0x.tr p0160 (p0x.ag (show agr [] [49, 50, 51, 52, 53, 54, 55, 56, 57, 61] V46 V88 from (agr.tr agr.rf ajV88 (by decide) (by decide))) (fun _ => rfl) (fun _ => rfl))
                  have p0162 : p0x V V90 b := p0x.tr p0161 (p0x.ag (show agr [] [50] V88 V90 from (agr.up agr.rf hV90 rfl)) (fun _ => rfl) (fun _ => rfl))
                  have p0163 : p0x V V93 b := p0x.tr p0162 (p0x.ag (show agr [] [51] V90 V93 from (agr.up agr.rf hV93 rfl)) (fun _ => rfl) (fun _ => rfl))
                  have p0164 : p0x V V98 b := p0x.tr p0163 (p0x.ag (show agr [(6, 8), (6, 9), (6, 10)] [] V93 V98 from (agr.tr agr.rf ajV98 (by decide) (by decide))) (fun _ => rfl) (fun _ => rfl))
                  have p0165 : p0x V V106 b := p0x.tr p0164 t104.1
                  have p0166 : p0x V V128 b := p0x.tr p0165 (p0x.ag (show agr [(1, 3), (6, 8), (6, 9), (6, 10)] [] V106 V128 from (agr.tr agr.rf ajV128 (by decide) (by decide))) (fun _ => rfl) (fun _ => rfl))
                  have p0167 : p0x V V139 b := p0x.tr p0166 (p0x.ag (show agr [] [43, 44] V128 V139 from (agr.tr agr.rf ajV139 (by decide) (by decide))) (fun _ => rfl) (fun _ => rfl))
                  have p0168 : p0x V V142 b := p0x.tr p0167 (p0x.ag (show agr [(1, 2)] [] V139 V142 from (agr.up agr.rf hV142 rfl)) (fun _ => rfl) (fun _ => rfl))
                  exact W.zret (v := 1) hx hb hr rfl (fun t ht hW => ⟨⟨1, (V142, L140), rfl, ⟨hMV142, agV142, alL140, fwV142, (by decide), (Imp.mk (fun _ => tx155)), cd156, p0168, (show (V142 1 2).toInt = (V 1 2).toInt ∨ (24 * (b : Int) ≤ (V142 1 2).toInt ∧ (V142 1 2).toInt < 24 * (b : Int) + 24) from by first | omega | ((try (have i_t6 := Imp.go t6 (f8))); omega) | ((try (have i_t137 := Imp.go t137 (by omega))); (try (have i_t127 := Imp.go t127 (by omega))); (try (have i_t105 := Imp.go t105 (by omega))); (try (have i_t45 := Imp.go t45 (by omega))); first | omega | ((try (have i_t29 := Imp.go t29 (by omega))); (try (have i_t19 := Imp.go t19 (by omega))); (try (have i_t6 := Imp.go t6 (by omega))); (try (have i_tx := Imp.go tx (by omega))); first | omega | ((try (have i_cd := Imp.go cd (by omega))); (try (have i_cd := Imp.go cd (by omega))); (try (have i_tx := Imp.go tx (by omega))); (try (have i_t6 := Imp.go t6 (by omega))); first | omega | ((try (have i_t19 := Imp.go t19 (by omega))); (try (have i_t29 := Imp.go t29 (by omega))); (try (have i_t45 := Imp.go t45 (by omega))); (try (have i_t105 := Imp.go t105 (by omega))); (try (have i_t127 := Imp.go t127 (by omega))); (try (have i_t137 := Imp.go t137 (by omega))); omega))))), (Imp.mk (fun hp => absurd hp (by decide)))⟩, by rw [ht]; exact hP, va_K.moved hW.alike hK, hD⟩, hS.F ht⟩) hS.2.2 dX1_readComponent_181
                · skip
                  have f169 : z124.toInt = 0 := b_eq rfl (by decide) c130
                  refine lv_iconst (v := 0) hx hb dX1_readComponent_161 (by decide) ?_
                  have pq170 : (V128 1 2).toInt = ((V 1 2)).toInt := congrArg Int32.toInt ((ajV128 1 2 rfl).trans ((ajV106 1 2 rfl).trans ((ajV98 1 2 rfl).trans ((up2_o hV93 (by decide)).trans ((up2_o hV90 (by decide)).trans ((ajV88 1 2 rfl).trans ((ajV46 1 2 rfl).trans ((ajV30 1 2 rfl).trans ((ajV20 1 2 rfl).trans (ajV13 1 2 rfl))))))))))
                  have r171 : (-1) ≤ ((V 1 2)).toInt ∧ ((V 1 2)).toInt ≤ 47 := hMV 1 2
                  have cd172 : CD V128 b := ⟨CB.ag cd.1 (show agr [(1, 3), (1, 6), (1, 7), (1, 8), (6, 8), (6, 9), (6, 10)] [43, 44, 49, 50, 51, 52, 53, 54, 55, 56, 57, 61] V V128 from (agr.tr (agr.tr (agr.tr (agr.up (agr.up (agr.tr (agr.tr (agr.tr (agr.tr (agr.tr agr.rf ajV13 (by decide) (by decide)) ajV20 (by decide) (by decide)) ajV30 (by decide) (by decide)) ajV46 (by decide) (by decide)) ajV88 (by decide) (by decide)) hV90 rfl) hV93 rfl) ajV98 (by decide) (by decide)) ajV106 (by decide) (by decide)) ajV128 (by decide) (by decide))) (fun _ => rfl) (fun _ => rfl), CO.ag cd.2 (show agr [(1, 3), (1, 6), (1, 7), (1, 8), (6, 8), (6, 9), (6, 10)] [43, 44, 49, 50, 51, 52, 53, 54, 55, 56, 57, 61] V V128 from (agr.tr (agr.tr (agr.tr (agr.up (agr.up (agr.tr (agr.tr (agr.tr (agr.tr (agr.tr agr.rf ajV13 (by decide) (by decide)) ajV20 (by decide) (by decide)) ajV30 (by decide) (by decide)) ajV46 (by decide) (by decide)) ajV88 (by decide) (by decide)) hV90 rfl) hV93 rfl) ajV98 (by decide) (by decide)) ajV106 (by decide) (by decide)) ajV128 (by decide) (by decide))) (fun _ => rfl) (fun _ => rfl)⟩
                  have p0173 : p0x V V13 b := p0x.tr (p0x.rf : p0x V V b) (p0x.ag (show agr [(6, 8), (6, 9), (6, 10)] [] V V13 from (agr.tr agr.rf ajV13 (by decide) (by decide))) (fun _ => rfl) (fun _ => rfl))
                  have p0174 : p0x V V20 b := p0x.tr p0173 (p0x.ag (show agr [(1, 3), (6, 8), (6, 9), (6, 10)] [] V13 V20 from (agr.tr agr.rf ajV20 (by decide) (by decide))) (fun _ => rfl) (fun _ => rfl))
                  have p0175 : p0x V V30 b := p0x.tr p0174 (p0x.ag (show agr [(1, 3), (6, 8), (6, 9), (6, 10)] [] V20 V30 from (agr.tr agr.rf ajV30 (by decide) (by decide))) (fun _ => rfl) (fun _ => rfl))
                  have p0176 : p0x V V46 b := p0x.tr p0175 (p0x.ag (show agr [(1, 3), (1, 6), (1, 7), (6, 8), (6, 9), (6, 10)] [] V30 V46 from (agr.tr agr.rf ajV46 (by decide) (by decide))) (fun _ => rfl) (fun _ => rfl))
                  have p0177 : p0x V V88 b := p0x.tr p0176 (p0x.ag (show agr [] [49, 50, 51, 52, 53, 54, 55, 56, 57, 61] V46 V88 from (agr.tr agr.rf ajV88 (by decide) (by decide))) (fun _ => rfl) (fun _ => rfl))
                  have p0178 : p0x V V90 b := p0x.tr p0177 (p0x.ag (show agr [] [50] V88 V90 from (agr.up agr.rf hV90 rfl)) (fun _ => rfl) (fun _ => rfl))
                  have p0179 : p0x V V93 b := p0x.tr p0178 (p0x.ag (show agr [] [51] V90 V93 from (agr.up agr.rf hV93 rfl)) (fun _ => rfl) (fun _ => rfl))
                  have p0180 : p0x V V98 b := p0x.tr p0179 (p0x.ag (show agr [(6, 8), (6, 9), (6, 10)] [] V93 V98 from (agr.tr agr.rf ajV98 (by decide) (by decide))) (fun _ => rfl) (fun _ => rfl))
                  have p0181 : p0x V V106 b := p0x.tr p0180 t104.1
                  have p0182 : p0x V V128 b := p0x.tr p0181 (p0x.ag (show agr [(1, 3), (6, 8), (6, 9), (6, 10)] [] V106 V128 from (agr.tr agr.rf ajV128 (by decide) (by decide))) (fun _ => rfl) (fun _ => rfl))
                  exact W.zret (v := 0) hx hb hr rfl (fun t ht hW => ⟨⟨0, (V128, L129), rfl, ⟨hMV128, agV128, alL129, fwV128, (by decide), (Imp.mk (fun hp => absurd hp (by decide))), cd172, p0182, (show (V128 1 2).toInt = (V 1 2).toInt ∨ (24 * (b : Int) ≤ (V128 1 2).toInt ∧ (V128 1 2).toInt < 24 * (b : Int) + 24) from by first | omega | ((try (have i_t127 := Imp.go t127 (f169))); (try (have i_t6 := Imp.go t6 (f8))); omega) | ((try (have i_t127 := Imp.go t127 (by omega))); (try (have i_t105 := Imp.go t105 (by omega))); (try (have i_t45 := Imp.go t45 (by omega))); (try (have i_t29 := Imp.go t29 (by omega))); first | omega | ((try (have i_t19 := Imp.go t19 (by omega))); (try (have i_t6 := Imp.go t6 (by omega))); (try (have i_tx := Imp.go tx (by omega))); (try (have i_cd := Imp.go cd (by omega))); first | omega | ((try (have i_cd := Imp.go cd (by omega))); (try (have i_tx := Imp.go tx (by omega))); (try (have i_t6 := Imp.go t6 (by omega))); (try (have i_t19 := Imp.go t19 (by omega))); first | omega | ((try (have i_t29 := Imp.go t29 (by omega))); (try (have i_t45 := Imp.go t45 (by omega))); (try (have i_t105 := Imp.go t105 (by omega))); (try (have i_t127 := Imp.go t127 (by omega))); omega))))), (Imp.mk (fun _ => (show 1 ≤ (V128 1 3).toInt from by first | exact om_f8d8213eda45 ((Imp.go t127 (f169))) | first | omega | ((try (have i_t127 := Imp.go t127 (f169))); (try (have i_t6 := Imp.go t6 (f8))); omega) | ((try (have i_t127 := Imp.go t127 (by omega))); (try (have i_t105 := Imp.go t105 (by omega))); (try (have i_t45 := Imp.go t45 (by omega))); (try (have i_t29 := Imp.go t29 (by omega))); first | omega | ((try (have i_t19 := Imp.go t19 (by omega))); (try (have i_t6 := Imp.go t6 (by omega))); (try (have i_tx := Imp.go tx (by omega))); (try (have i_cd := Imp.go cd (by omega))); first | omega | ((try (have i_cd := Imp.go cd (by omega))); (try (have i_tx := Imp.go tx (by omega))); (try (have i_t6 := Imp.go t6 (by omega))); (try (have i_t19 := Imp.go t19 (by omega))); first | omega | ((try (have i_t29 := Imp.go t29 (by omega))); (try (have i_t45 := Imp.go t45 (by omega))); (try (have i_t105 := Imp.go t105 (by omega))); (try (have i_t127 := Imp.go t127 (by omega))); omega)))))))⟩, by rw [ht]; exact hP, va_K.moved hW.alike hK, hD⟩, hS.F ht⟩) hS.2.2 dX1_readComponent_162
            · skip
              have f183 : 151 < ((V46 6 9)).toInt := b_nle rfl (by decide) c68
              refine lv_aload_n hx hb dX1_readComponent_85 rfl (lv_at hl 1 rfl) ?_
              refine lv_iconst (v := 1) hx hb dX1_readComponent_86 (by decide) ?_
              have r184 : Int32.toInt 1 = 1 := by decide
              refine gA_int (gA_runV (As := [.int 1]) (rest := []) (ci := 1) (q0 := 1) hx hb hml hown hg hP hD hK hS hA hnw hgk (x_wrong l D ks H.size ad kk V46 L47 Z 1 hMV46 (by decide)) w867 w869 w6 w162 w870 rfl xgReader hdV_yX1_wrong ⟨Nat.le_of_ble_eq_true rfl, Nat.le_of_ble_eq_true rfl⟩ rfl hl.1 rfl (Nat.le_of_ble_eq_true rfl) dX1_readComponent_87 ⟨Nat.le_of_ble_eq_true rfl, Nat.le_of_ble_eq_true rfl⟩) hP hD hK hS hA (fun z185 u186 H locs w187 hP hD hK hS => ?_)
              obtain ⟨V189, L190⟩ := u186
              obtain ⟨hMV189, ajV189, axL190, rgz185, t188⟩ := w187
              have axL190 : L47 = L190 := Eq.symm axL190
              subst axL190
              have hP : va_P D vwCl (xw ad kk V189 L47 Z) H := hP
              have hD : va_D A (xw ad kk V189 L47 Z) := hD
              have hMV189 : rgd bX V189 := hMV189
              have ajV189 : agr [(1, 3)] [] V46 V189 := ajV189
              have agV189 : agr [(1, 2), (1, 3), (1, 6), (1, 7), (1, 8), (6, 8), (6, 9), (6, 10)] [43, 44, 49, 50, 51, 52, 53, 54, 55, 56, 57, 61] V V189 := agV46.tr ajV189 (by decide) (by decide)
              have fwV189 : frX (xR b) V V189 := frX.tr fwV46 (frX.ag ajV189 (by decide) (by decide))
              have rgz185 : 0 ≤ z185.toInt ∧ z185.toInt ≤ 0 := rgz185
              have t188 : 1 ≤ (V189 1 3).toInt := t188
              have pq191 : (V189 1 2).toInt = ((V 1 2)).toInt := congrArg Int32.toInt ((ajV189 1 2 rfl).trans ((ajV46 1 2 rfl).trans ((ajV30 1 2 rfl).trans ((ajV20 1 2 rfl).trans (ajV13 1 2 rfl)))))
              have r192 : (-1) ≤ ((V 1 2)).toInt ∧ ((V 1 2)).toInt ≤ 47 := hMV 1 2
              have cd193 : CD V189 b := ⟨CB.ag cd.1 (show agr [(1, 3), (1, 6), (1, 7), (6, 8), (6, 9), (6, 10)] [] V V189 from (agr.tr (agr.tr (agr.tr (agr.tr (agr.tr agr.rf ajV13 (by decide) (by decide)) ajV20 (by decide) (by decide)) ajV30 (by decide) (by decide)) ajV46 (by decide) (by decide)) ajV189 (by decide) (by decide))) (fun _ => rfl) (fun _ => rfl), CO.ag cd.2 (show agr [(1, 3), (1, 6), (1, 7), (6, 8), (6, 9), (6, 10)] [] V V189 from (agr.tr (agr.tr (agr.tr (agr.tr (agr.tr agr.rf ajV13 (by decide) (by decide)) ajV20 (by decide) (by decide)) ajV30 (by decide) (by decide)) ajV46 (by decide) (by decide)) ajV189 (by decide) (by decide))) (fun _ => rfl) (fun _ => rfl)⟩
              have p0194 : p0x V V13 b := p0x.tr (p0x.rf : p0x V V b) (p0x.ag (show agr [(6, 8), (6, 9), (6, 10)] [] V V13 from (agr.tr agr.rf ajV13 (by decide) (by decide))) (fun _ => rfl) (fun _ => rfl))
              have p0195 : p0x V V20 b := p0x.tr p0194 (p0x.ag (show agr [(1, 3), (6, 8), (6, 9), (6, 10)] [] V13 V20 from (agr.tr agr.rf ajV20 (by decide) (by decide))) (fun _ => rfl) (fun _ => rfl))
              have p0196 : p0x V V30 b := p0x.tr p0195 (p0x.ag (show agr [(1, 3), (6, 8), (6, 9), (6, 10)] [] V20 V30 from (agr.tr agr.rf ajV30 (by decide) (by decide))) (fun _ => rfl) (fun _ => rfl))
              have p0197 : p0x V V46 b := p0x.tr p0196 (p0x.ag (show agr [(1, 3), (1, 6), (1, 7), (6, 8), (6, 9), (6, 10)] [] V30 V46 from (agr.tr agr.rf ajV46 (by decide) (by decide))) (fun _ => rfl) (fun _ => rfl))
              have p0198 : p0x V V189 b := p0x.tr p0197 (p0x.ag (show agr [(1, 3)] [] V46 V189 from (agr.tr agr.rf ajV189 (by decide) (by decide))) (fun _ => rfl) (fun _ => rfl))
              exact W.zret (v := z185) hx hb hr (nb_ok (by omega)) (fun t ht hW => ⟨⟨z185, (V189, L47), rfl, ⟨hMV189, agV189, alL47, fwV189, (show 0 ≤ z185.toInt ∧ z185.toInt ≤ 1 from by first | exact om_641b3f05f166 rgz185.1 rgz185.2 | first | omega | ((try (have i_t6 := Imp.go t6 (f8))); omega) | ((try (have i_t45 := Imp.go t45 (by omega))); (try (have i_t29 := Imp.go t29 (by omega))); (try (have i_t19 := Imp.go t19 (by omega))); (try (have i_t6 := Imp.go t6 (by omega))); first | omega | ((try (have i_tx := Imp.go tx (by omega))); (try (have i_cd := Imp.go cd (by omega))); (try (have i_cd := Imp.go cd (by omega))); (try (have i_tx := Imp.go tx (by omega))); first | omega | ((try (have i_t6 := Imp.go t6 (by omega))); (try (have i_t19 := Imp.go t19 (by omega))); (try (have i_t29 := Imp.go t29 (by omega))); (try (have i_t45 := Imp.go t45 (by omega))); omega)))), (Imp.mk (fun hp => by exfalso; first | omega | ((try (have i_t6 := Imp.go t6 (f8))); omega) | ((try (have i_t45 := Imp.go t45 (by omega))); (try (have i_t29 := Imp.go t29 (by omega))); (try (have i_t19 := Imp.go t19 (by omega))); (try (have i_t6 := Imp.go t6 (by omega))); first | omega | ((try (have i_tx := Imp.go tx (by omega))); (try (have i_cd := Imp.go cd (by omega))); (try (have i_cd := Imp.go cd (by omega))); (try (have i_tx := Imp.go tx (by omega))); first | omega | ((try (have i_t6 := Imp.go t6 (by omega))); (try (have i_t19 := Imp.go t19 (by omega))); (try (have i_t29 := Imp.go t29 (by omega))); (try (have i_t45 := Imp.go t45 (by omega))); omega))))), cd193, p0198, (show (V189 1 2).toInt = (V 1 2).toInt ∨ (24 * (b : Int) ≤ (V189 1 2).toInt ∧ (V189 1 2).toInt < 24 * (b : Int) + 24) from by first | omega | ((try (have i_t6 := Imp.go t6 (f8))); omega) | ((try (have i_t45 := Imp.go t45 (by omega))); (try (have i_t29 := Imp.go t29 (by omega))); (try (have i_t19 := Imp.go t19 (by omega))); (try (have i_t6 := Imp.go t6 (by omega))); first | omega | ((try (have i_tx := Imp.go tx (by omega))); (try (have i_cd := Imp.go cd (by omega))); (try (have i_cd := Imp.go cd (by omega))); (try (have i_tx := Imp.go tx (by omega))); first | omega | ((try (have i_t6 := Imp.go t6 (by omega))); (try (have i_t19 := Imp.go t19 (by omega))); (try (have i_t29 := Imp.go t29 (by omega))); (try (have i_t45 := Imp.go t45 (by omega))); omega)))), (Imp.mk (fun hp => have hp : z185.toInt = 0 := hp; (show 1 ≤ (V189 1 3).toInt from by first | exact om_f8d8213eda45 t188 | first | omega | ((try (have i_t6 := Imp.go t6 (f8))); omega) | ((try (have i_t45 := Imp.go t45 (by omega))); (try (have i_t29 := Imp.go t29 (by omega))); (try (have i_t19 := Imp.go t19 (by omega))); (try (have i_t6 := Imp.go t6 (by omega))); first | omega | ((try (have i_tx := Imp.go tx (by omega))); (try (have i_cd := Imp.go cd (by omega))); (try (have i_cd := Imp.go cd (by omega))); (try (have i_tx := Imp.go tx (by omega))); first | omega | ((try (have i_t6 := Imp.go t6 (by omega))); (try (have i_t19 := Imp.go t19 (by omega))); (try (have i_t29 := Imp.go t29 (by omega))); (try (have i_t45 := Imp.go t45 (by omega))); omega))))))⟩, by rw [ht]; exact hP, va_K.moved hW.alike hK, hD⟩, hS.F ht⟩) hS.2.2 dX1_readComponent_90
        · skip
          have f199 : z42.toInt = 0 := b_eq rfl (by decide) c48
          refine lv_iconst (v := 0) hx hb dX1_readComponent_57 (by decide) ?_
          have pq200 : (V46 1 2).toInt = ((V 1 2)).toInt := congrArg Int32.toInt ((ajV46 1 2 rfl).trans ((ajV30 1 2 rfl).trans ((ajV20 1 2 rfl).trans (ajV13 1 2 rfl))))
          have r201 : (-1) ≤ ((V 1 2)).toInt ∧ ((V 1 2)).toInt ≤ 47 := hMV 1 2
          have cd202 : CD V46 b := ⟨CB.ag cd.1 (show agr [(1, 3), (1, 6), (1, 7), (6, 8), (6, 9), (6, 10)] [] V V46 from (agr.tr (agr.tr (agr.tr (agr.tr agr.rf ajV13 (by decide) (by decide)) ajV20 (by decide) (by decide)) ajV30 (by decide) (by decide)) ajV46 (by decide) (by decide))) (fun _ => rfl) (fun _ => rfl), CO.ag cd.2 (show agr [(1, 3), (1, 6), (1, 7), (6, 8), (6, 9), (6, 10)] [] V V46 from (agr.tr (agr.tr (agr.tr (agr.tr agr.rf ajV13 (by decide) (by decide)) ajV20 (by decide) (by decide)) ajV30 (by decide) (by decide)) ajV46 (by decide) (by decide))) (fun _ => rfl) (fun _ => rfl)⟩
          have p0203 : p0x V V13 b := p0x.tr (p0x.rf : p0x V V b) (p0x.ag (show agr [(6, 8), (6, 9), (6, 10)] [] V V13 from (agr.tr agr.rf ajV13 (by decide) (by decide))) (fun _ => rfl) (fun _ => rfl))
          have p0204 : p0x V V20 b := p0x.tr p0203 (p0x.ag (show agr [(1, 3), (6, 8), (6, 9), (6, 10)] [] V13 V20 from (agr.tr agr.rf ajV20 (by decide) (by decide))) (fun _ => rfl) (fun _ => rfl))
          have p0205 : p0x V V30 b := p0x.tr p0204 (p0x.ag (show agr [(1, 3), (6, 8), (6, 9), (6, 10)] [] V20 V30 from (agr.tr agr.rf ajV30 (by decide) (by decide))) (fun _ => rfl) (fun _ => rfl))
          have p0206 : p0x V V46 b := p0x.tr p0205 (p0x.ag (show agr [(1, 3), (1, 6), (1, 7), (6, 8), (6, 9), (6, 10)] [] V30 V46 from (agr.tr agr.rf ajV46 (by decide) (by decide))) (fun _ => rfl) (fun _ => rfl))
          exact W.zret (v := 0) hx hb hr rfl (fun t ht hW => ⟨⟨0, (V46, L47), rfl, ⟨hMV46, agV46, alL47, fwV46, (by decide), (Imp.mk (fun hp => absurd hp (by decide))), cd202, p0206, (show (V46 1 2).toInt = (V 1 2).toInt ∨ (24 * (b : Int) ≤ (V46 1 2).toInt ∧ (V46 1 2).toInt < 24 * (b : Int) + 24) from by first | omega | ((try (have i_t45 := Imp.go t45 (f199))); (try (have i_t6 := Imp.go t6 (f8))); omega) | ((try (have i_t45 := Imp.go t45 (by omega))); (try (have i_t29 := Imp.go t29 (by omega))); (try (have i_t19 := Imp.go t19 (by omega))); (try (have i_t6 := Imp.go t6 (by omega))); first | omega | ((try (have i_tx := Imp.go tx (by omega))); (try (have i_cd := Imp.go cd (by omega))); (try (have i_cd := Imp.go cd (by omega))); (try (have i_tx := Imp.go tx (by omega))); first | omega | ((try (have i_t6 := Imp.go t6 (by omega))); (try (have i_t19 := Imp.go t19 (by omega))); (try (have i_t29 := Imp.go t29 (by omega))); (try (have i_t45 := Imp.go t45 (by omega))); omega)))), (Imp.mk (fun _ => (show 1 ≤ (V46 1 3).toInt from by first | exact om_f8d8213eda45 ((Imp.go t45 (f199))) | first | omega | ((try (have i_t45 := Imp.go t45 (f199))); (try (have i_t6 := Imp.go t6 (f8))); omega) | ((try (have i_t45 := Imp.go t45 (by omega))); (try (have i_t29 := Imp.go t29 (by omega))); (try (have i_t19 := Imp.go t19 (by omega))); (try (have i_t6 := Imp.go t6 (by omega))); first | omega | ((try (have i_tx := Imp.go tx (by omega))); (try (have i_cd := Imp.go cd (by omega))); (try (have i_cd := Imp.go cd (by omega))); (try (have i_tx := Imp.go tx (by omega))); first | omega | ((try (have i_t6 := Imp.go t6 (by omega))); (try (have i_t19 := Imp.go t19 (by omega))); (try (have i_t29 := Imp.go t29 (by omega))); (try (have i_t45 := Imp.go t45 (by omega))); omega))))))⟩, by rw [ht]; exact hP, va_K.moved hW.alike hK, hD⟩, hS.F ht⟩) hS.2.2 dX1_readComponent_58
    · skip
      have f207 : z16.toInt = 0 := b_eq rfl (by decide) c22
      refine lv_iconst (v := 0) hx hb dX1_readComponent_33 (by decide) ?_
      have pq208 : (V20 1 2).toInt = ((V 1 2)).toInt := congrArg Int32.toInt ((ajV20 1 2 rfl).trans (ajV13 1 2 rfl))
      have r209 : (-1) ≤ ((V 1 2)).toInt ∧ ((V 1 2)).toInt ≤ 47 := hMV 1 2
      have cd210 : CD V20 b := ⟨CB.ag cd.1 (show agr [(1, 3), (6, 8), (6, 9), (6, 10)] [] V V20 from (agr.tr (agr.tr agr.rf ajV13 (by decide) (by decide)) ajV20 (by decide) (by decide))) (fun _ => rfl) (fun _ => rfl), CO.ag cd.2 (show agr [(1, 3), (6, 8), (6, 9), (6, 10)] [] V V20 from (agr.tr (agr.tr agr.rf ajV13 (by decide) (by decide)) ajV20 (by decide) (by decide))) (fun _ => rfl) (fun _ => rfl)⟩
      have p0211 : p0x V V13 b := p0x.tr (p0x.rf : p0x V V b) (p0x.ag (show agr [(6, 8), (6, 9), (6, 10)] [] V V13 from (agr.tr agr.rf ajV13 (by decide) (by decide))) (fun _ => rfl) (fun _ => rfl))
      have p0212 : p0x V V20 b := p0x.tr p0211 (p0x.ag (show agr [(1, 3), (6, 8), (6, 9), (6, 10)] [] V13 V20 from (agr.tr agr.rf ajV20 (by decide) (by decide))) (fun _ => rfl) (fun _ => rfl))
      exact W.zret (v := 0) hx hb hr rfl (fun t ht hW => ⟨⟨0, (V20, L21), rfl, ⟨hMV20, agV20, alL21, fwV20, (by decide), (Imp.mk (fun hp => absurd hp (by decide))), cd210, p0212, (show (V20 1 2).toInt = (V 1 2).toInt ∨ (24 * (b : Int) ≤ (V20 1 2).toInt ∧ (V20 1 2).toInt < 24 * (b : Int) + 24) from by first | omega | ((try (have i_t19 := Imp.go t19 (f207))); (try (have i_t6 := Imp.go t6 (f8))); omega) | ((try (have i_t19 := Imp.go t19 (by omega))); (try (have i_t6 := Imp.go t6 (by omega))); (try (have i_tx := Imp.go tx (by omega))); (try (have i_cd := Imp.go cd (by omega))); first | omega | ((try (have i_cd := Imp.go cd (by omega))); (try (have i_tx := Imp.go tx (by omega))); (try (have i_t6 := Imp.go t6 (by omega))); (try (have i_t19 := Imp.go t19 (by omega))); omega))), (Imp.mk (fun _ => (show 1 ≤ (V20 1 3).toInt from by first | exact om_f8d8213eda45 ((Imp.go t19 (f207))) | first | omega | ((try (have i_t19 := Imp.go t19 (f207))); (try (have i_t6 := Imp.go t6 (f8))); omega) | ((try (have i_t19 := Imp.go t19 (by omega))); (try (have i_t6 := Imp.go t6 (by omega))); (try (have i_tx := Imp.go tx (by omega))); (try (have i_cd := Imp.go cd (by omega))); first | omega | ((try (have i_cd := Imp.go cd (by omega))); (try (have i_tx := Imp.go tx (by omega))); (try (have i_t6 := Imp.go t6 (by omega))); (try (have i_t19 := Imp.go t19 (by omega))); omega)))))⟩, by rw [ht]; exact hP, va_K.moved hW.alike hK, hD⟩, hS.F ht⟩) hS.2.2 dX1_readComponent_34
  · skip
    have f213 : z3.toInt ≠ 0 := b_neq rfl (by decide) c7
    refine lv_aload_n hx hb dX1_readComponent_13 rfl (lv_at hl 0 rfl) ?_
    refine lv_iconst (v := 5) hx hb dX1_readComponent_14 (by decide) ?_
    have r214 : Int32.toInt 5 = 5 := by decide
    refine gA_int (gA_runV (As := [.int 5]) (rest := []) (ci := 1) (q0 := 1) hx hb hml hown hg hP hD hK hS hA hnw hgk (x_wrong l D ks H.size ad kk V L Z 5 hMV (by decide)) w867 w869 w6 w162 w870 rfl xgReader hdV_yX1_wrong ⟨Nat.le_of_ble_eq_true rfl, Nat.le_of_ble_eq_true rfl⟩ rfl hl.1 rfl (Nat.le_of_ble_eq_true rfl) dX1_readComponent_15 ⟨Nat.le_of_ble_eq_true rfl, Nat.le_of_ble_eq_true rfl⟩) hP hD hK hS hA (fun z215 u216 H locs w217 hP hD hK hS => ?_)
    obtain ⟨V219, L220⟩ := u216
    obtain ⟨hMV219, ajV219, axL220, rgz215, t218⟩ := w217
    have axL220 : L = L220 := Eq.symm axL220
    subst axL220
    have hP : va_P D vwCl (xw ad kk V219 L Z) H := hP
    have hD : va_D A (xw ad kk V219 L Z) := hD
    have hMV219 : rgd bX V219 := hMV219
    have ajV219 : agr [(1, 3)] [] V V219 := ajV219
    have agV219 : agr [(1, 2), (1, 3), (1, 6), (1, 7), (1, 8), (6, 8), (6, 9), (6, 10)] [43, 44, 49, 50, 51, 52, 53, 54, 55, 56, 57, 61] V V219 := agV.tr ajV219 (by decide) (by decide)
    have fwV219 : frX (xR b) V V219 := frX.tr fwV (frX.ag ajV219 (by decide) (by decide))
    have rgz215 : 0 ≤ z215.toInt ∧ z215.toInt ≤ 0 := rgz215
    have t218 : 1 ≤ (V219 1 3).toInt := t218
    have pq221 : (V219 1 2).toInt = ((V 1 2)).toInt := congrArg Int32.toInt (ajV219 1 2 rfl)
    have r222 : (-1) ≤ ((V 1 2)).toInt ∧ ((V 1 2)).toInt ≤ 47 := hMV 1 2
    have cd223 : CD V219 b := ⟨CB.ag cd.1 (show agr [(1, 3)] [] V V219 from (agr.tr agr.rf ajV219 (by decide) (by decide))) (fun _ => rfl) (fun _ => rfl), CO.ag cd.2 (show agr [(1, 3)] [] V V219 from (agr.tr agr.rf ajV219 (by decide) (by decide))) (fun _ => rfl) (fun _ => rfl)⟩
    have p0224 : p0x V V219 b := p0x.tr (p0x.rf : p0x V V b) (p0x.ag (show agr [(1, 3)] [] V V219 from (agr.tr agr.rf ajV219 (by decide) (by decide))) (fun _ => rfl) (fun _ => rfl))
    exact W.zret (v := z215) hx hb hr (nb_ok (by omega)) (fun t ht hW => ⟨⟨z215, (V219, L), rfl, ⟨hMV219, agV219, alL, fwV219, (show 0 ≤ z215.toInt ∧ z215.toInt ≤ 1 from by first | exact om_641b3f05f166 rgz215.1 rgz215.2 | first | omega | ((try (have i_t6 := Imp.go t6 (by omega))); (try (have i_tx := Imp.go tx (by omega))); (try (have i_cd := Imp.go cd (by omega))); (try (have i_cd := Imp.go cd (by omega))); (try (have i_tx := Imp.go tx (by omega))); (try (have i_t6 := Imp.go t6 (by omega))); omega)), (Imp.mk (fun hp => by exfalso; first | omega | ((try (have i_t6 := Imp.go t6 (by omega))); (try (have i_tx := Imp.go tx (by omega))); (try (have i_cd := Imp.go cd (by omega))); (try (have i_cd := Imp.go cd (by omega))); (try (have i_tx := Imp.go tx (by omega))); (try (have i_t6 := Imp.go t6 (by omega))); omega))), cd223, p0224, (show (V219 1 2).toInt = (V 1 2).toInt ∨ (24 * (b : Int) ≤ (V219 1 2).toInt ∧ (V219 1 2).toInt < 24 * (b : Int) + 24) from by first | omega | ((try (have i_t6 := Imp.go t6 (by omega))); (try (have i_tx := Imp.go tx (by omega))); (try (have i_cd := Imp.go cd (by omega))); (try (have i_cd := Imp.go cd (by omega))); (try (have i_tx := Imp.go tx (by omega))); (try (have i_t6 := Imp.go t6 (by omega))); omega)), (Imp.mk (fun hp => have hp : z215.toInt = 0 := hp; (show 1 ≤ (V219 1 3).toInt from by first | exact om_f8d8213eda45 t218 | first | omega | ((try (have i_t6 := Imp.go t6 (by omega))); (try (have i_tx := Imp.go tx (by omega))); (try (have i_cd := Imp.go cd (by omega))); (try (have i_cd := Imp.go cd (by omega))); (try (have i_tx := Imp.go tx (by omega))); (try (have i_t6 := Imp.go t6 (by omega))); omega))))⟩, by rw [ht]; exact hP, va_K.moved hW.alike hK, hD⟩, hS.F ht⟩) hS.2.2 dX1_readComponent_18
abbrev r_x_readStatement : Room := { frames := 92, cells := 0, slots := 0, locals := 2708 }
abbrev q_x_readStatement (D : va_G) (ks : KS) (ad : Nat → Nat) (kk : Nat → ClassId) (V : Vf) (L : Lf) (Z : XZ) (b : Nat) (A : Nat → Prop) : Array Value → State → Outcome → State → Prop := va_Qi (fun (r : Int32) (u : Vf × Lf) => rgd bX u.1 ∧ agr [(1, 2), (1, 3), (1, 4), (1, 6), (1, 7), (1, 8), (6, 8), (6, 9), (6, 10)] [41, 42, 43, 44, 45, 46, 47, 48, 49, 50, 51, 52, 53, 54, 55, 56, 57, 61, 62, 63, 64, 65, 66] V u.1 ∧ agL [1, 6, 44] L u.2 ∧ frX (xR b) V u.1 ∧ (0 ≤ r.toInt ∧ r.toInt ≤ 1) ∧ (Imp (r.toInt = 1) (TX u.1 b)) ∧ (CD u.1 b) ∧ (p0x V u.1 b) ∧ ((u.1 1 2).toInt = (V 1 2).toInt ∨ (24 * (b : Int) ≤ (u.1 1 2).toInt ∧ (u.1 1 2).toInt < 24 * (b : Int) + 24)) ∧ (Imp (r.toInt = 0) (1 ≤ (u.1 1 3).toInt))) (fun u t => gq D A (xw ad kk u.1 u.2 Z) (xty kk Z) t) A
set_option maxHeartbeats 4000000 in
set_option maxRecDepth 100000 in
theorem x_readStatement (l : Launch) (D : va_G) (ks : KS) (sz : Nat) (ad : Nat → Nat) (kk : Nat → ClassId) (V : Vf) (L : Lf) (Z : XZ) (b : Nat) (hMV : rgd bX V) (hb2 : b < 2) (rbk : (V 1 1).toInt = (b : Int)) (own : (V 1 2).toInt = -1) (cd : CD V b) (tx : TX V b)  : Met l yX1_readStatement (Cond.code yX1_readStatement cX1_readStatement 1 (some .boolean) :: GW) r_x_readStatement (va_Pc [.ref (ad 1)] (gp D ks (xw ad kk V L Z) (xty kk Z) sz)) (q_x_readStatement D ks ad kk V L Z  b (va_A (xw ad kk V L Z) sz)) 0 0 (va_A (xw ad kk V L Z) sz) := by
  refine g_met (q_x_readStatement D ks ad kk V L Z  b) (by decide) (Nat.le_of_ble_eq_true rfl) ?_
  intro p e s m below meth c A ls H locs hx hb hr hml hown hg hlocks hin hnw hgk hP hK hD hS hA hl
  have hown : s.vm.findClass RX1 = some m.cls := hown
  have hl : lv_has ls 1 [(0, .ref (ad 1))] := hl
  have hP : va_P D vwCl (xw ad kk V L Z) H := hP
  have hD : va_D A (xw ad kk V L Z) := hD
  have hK : va_K D vwCl (xty kk Z) s := hK
  have agV : agr [(1, 2), (1, 3), (1, 4), (1, 6), (1, 7), (1, 8), (6, 8), (6, 9), (6, 10)] [41, 42, 43, 44, 45, 46, 47, 48, 49, 50, 51, 52, 53, 54, 55, 56, 57, 61, 62, 63, 64, 65, 66] V V := agr.rf
  have alL : agL [1, 6, 44] L L := agL.rf
  have fwV : frX (xR b) V V := frX.rf
  have r1 : (-1) ≤ ((V 1 1)).toInt ∧ ((V 1 1)).toInt ≤ 1 := hMV 1 1
  have r2 : (-1) ≤ ((V 1 2)).toInt ∧ ((V 1 2)).toInt ≤ 47 := hMV 1 2
  refine lv_aload_n hx hb dX1_readStatement_0 rfl (lv_at hl 0 rfl) ?_
  refine va_get (D := D) (ci := 1) (v := .ref (ad 6)) (fs := (xfReader ad V L Z)) (C := RX1) (T := TX1) (N := 9) hx hb hg inX1 hown hK hP 1 xgReader rfl 0 (by decide) (hg _ w304) (fun _ h9 => h9) rfl dX1_readStatement_1 ?_
  refine va_getN (D := D) (ci := 9) (v := .int (V 6 9)) (fs := (xfTape ad V L Z)) (C := RX9) (T := TX9) (N := 12) hx hb hg inX9 hown hK hP 6 xgTape rfl 9 (by decide) (hnw.use 262 n262 rfl) (fun _ h9 => h9) rfl dX1_readStatement_4 ?_
  by_cases q3 : (V 6 9) = 128
  · refine g_top (v := 128) q3 ?_
    have fq3 : ((V 6 9)).toInt = 128 := b_eq rfl (by decide) q3
    refine lv_tableIn (x := 128) (off := 49) (tgt := 56) hx hb dX1_readStatement_7 (by decide) (by decide) (by decide) (by decide) ?_
    refine lv_aload_n hx hb dX1_readStatement_56 rfl (lv_at hl 0 rfl) ?_
    refine gA_int (gA_runV (As := []) (rest := []) (ci := 1) (q0 := 1) hx hb hml hown hg hP hD hK hS hA hnw hgk (x_readType l D ks H.size ad kk V L Z (b) hMV (show b < 2 from by first | exact om_f940a4667dd6 hb2 | first | omega | ((try (have i_tx := Imp.go tx (by omega))); (try (have i_cd := Imp.go cd (by omega))); (try (have i_cd := Imp.go cd (by omega))); (try (have i_tx := Imp.go tx (by omega))); omega)) (show (V 1 1).toInt = (b : Int) from by first | exact om_08e0c9701055 rbk | first | omega | ((try (have i_tx := Imp.go tx (by omega))); (try (have i_cd := Imp.go cd (by omega))); (try (have i_cd := Imp.go cd (by omega))); (try (have i_tx := Imp.go tx (by omega))); omega)) cd tx) w859 w861 w5 w162 w862 rfl xgReader hdV_yX1_readType ⟨Nat.le_of_ble_eq_true rfl, Nat.le_of_ble_eq_true rfl⟩ rfl hl.1 rfl (Nat.le_of_ble_eq_true rfl) dX1_readStatement_57 ⟨Nat.le_of_ble_eq_true rfl, Nat.le_of_ble_eq_true rfl⟩) hP hD hK hS hA (fun z4 u5 H locs w6 hP hD hK hS => ?_)
    obtain ⟨V11, L12⟩ := u5
    obtain ⟨hMV11, ajV11, axL12, fyV11, rgz4, t7, t8, t9, t10⟩ := w6
    have alL12 : agL [1, 6, 44] L L12 := agL.tr alL axL12 (by decide)
    have hP : va_P D vwCl (xw ad kk V11 L12 Z) H := hP
    have hD : va_D A (xw ad kk V11 L12 Z) := hD
    have hMV11 : rgd bX V11 := hMV11
    have ajV11 : agr [(1, 3), (1, 6), (1, 7), (6, 8), (6, 9), (6, 10)] [43, 44, 45] V V11 := ajV11
    have agV11 : agr [(1, 2), (1, 3), (1, 4), (1, 6), (1, 7), (1, 8), (6, 8), (6, 9), (6, 10)] [41, 42, 43, 44, 45, 46, 47, 48, 49, 50, 51, 52, 53, 54, 55, 56, 57, 61, 62, 63, 64, 65, 66] V V11 := agV.tr ajV11 (by decide) (by decide)
    have fwV11 : frX (xR b) V V11 := frX.tr fwV (fyV11)
    have rgz4 : 0 ≤ z4.toInt ∧ z4.toInt ≤ 1 := rgz4
    have t7 : TX V11 b := t7
    have t8 : CD V11 b := t8
    have t9 : px V V11 b := t9
    have t10 : Imp (z4.toInt = 0) (1 ≤ (V11 1 3).toInt) := t10
    have pq13 : (V11 1 2).toInt = ((V 1 2)).toInt := congrArg Int32.toInt (ajV11 1 2 rfl)
    have p014 : p0x V V11 b := p0x.tr (p0x.rf : p0x V V b) t9.1
    exact W.zret (v := z4) hx hb hr (nb_ok (by omega)) (fun t ht hW => ⟨⟨z4, (V11, L12), rfl, ⟨hMV11, agV11, alL12, fwV11, (show 0 ≤ z4.toInt ∧ z4.toInt ≤ 1 from by first | exact om_eb7af9d60398 rgz4.1 rgz4.2 | first | omega | ((try (have i_t10 := Imp.go t10 (by omega))); (try (have i_tx := Imp.go tx (by omega))); (try (have i_cd := Imp.go cd (by omega))); (try (have i_cd := Imp.go cd (by omega))); (try (have i_tx := Imp.go tx (by omega))); (try (have i_t10 := Imp.go t10 (by omega))); omega)), (Imp.mk (fun _ => t7)), t8, p014, (show (V11 1 2).toInt = (V 1 2).toInt ∨ (24 * (b : Int) ≤ (V11 1 2).toInt ∧ (V11 1 2).toInt < 24 * (b : Int) + 24) from by first | omega | ((try (have i_t10 := Imp.go t10 (by omega))); (try (have i_tx := Imp.go tx (by omega))); (try (have i_cd := Imp.go cd (by omega))); (try (have i_cd := Imp.go cd (by omega))); (try (have i_tx := Imp.go tx (by omega))); (try (have i_t10 := Imp.go t10 (by omega))); omega)), (Imp.mk (fun hp => have hp : z4.toInt = 0 := hp; (show 1 ≤ (V11 1 3).toInt from by first | exact om_f8d8213eda45 ((Imp.go t10 (hp))) | first | omega | ((try (have i_t10 := Imp.go t10 (by omega))); (try (have i_tx := Imp.go tx (by omega))); (try (have i_cd := Imp.go cd (by omega))); (try (have i_cd := Imp.go cd (by omega))); (try (have i_tx := Imp.go tx (by omega))); (try (have i_t10 := Imp.go t10 (by omega))); omega))))⟩, by rw [ht]; exact hP, va_K.moved hW.alike hK, hD⟩, hS.F ht⟩) hS.2.2 dX1_readStatement_60
  have gq3 : ((V 6 9)).toInt ≠ 128 := b_neq rfl (by decide) q3
  by_cases q15 : (V 6 9) = 129
  · refine g_top (v := 129) q15 ?_
    have fq15 : ((V 6 9)).toInt = 129 := b_eq rfl (by decide) q15
    refine lv_tableIn (x := 129) (off := 69) (tgt := 76) hx hb dX1_readStatement_7 (by decide) (by decide) (by decide) (by decide) ?_
    refine lv_aload_n hx hb dX1_readStatement_76 rfl (lv_at hl 0 rfl) ?_
    refine lv_iconst (v := 1) hx hb dX1_readStatement_77 (by decide) ?_
    have r16 : Int32.toInt 1 = 1 := by decide
    refine gA_int (gA_runV (As := [.int 1]) (rest := []) (ci := 1) (q0 := 1) hx hb hml hown hg hP hD hK hS hA hnw hgk (x_wrong l D ks H.size ad kk V L Z 1 hMV (by decide)) w867 w869 w6 w162 w870 rfl xgReader hdV_yX1_wrong ⟨Nat.le_of_ble_eq_true rfl, Nat.le_of_ble_eq_true rfl⟩ rfl hl.1 rfl (Nat.le_of_ble_eq_true rfl) dX1_readStatement_78 ⟨Nat.le_of_ble_eq_true rfl, Nat.le_of_ble_eq_true rfl⟩) hP hD hK hS hA (fun z17 u18 H locs w19 hP hD hK hS => ?_)
    obtain ⟨V21, L22⟩ := u18
    obtain ⟨hMV21, ajV21, axL22, rgz17, t20⟩ := w19
    have axL22 : L = L22 := Eq.symm axL22
    subst axL22
    have hP : va_P D vwCl (xw ad kk V21 L Z) H := hP
    have hD : va_D A (xw ad kk V21 L Z) := hD
    have hMV21 : rgd bX V21 := hMV21
    have ajV21 : agr [(1, 3)] [] V V21 := ajV21
    have agV21 : agr [(1, 2), (1, 3), (1, 4), (1, 6), (1, 7), (1, 8), (6, 8), (6, 9), (6, 10)] [41, 42, 43, 44, 45, 46, 47, 48, 49, 50, 51, 52, 53, 54, 55, 56, 57, 61, 62, 63, 64, 65, 66] V V21 := agV.tr ajV21 (by decide) (by decide)
    have fwV21 : frX (xR b) V V21 := frX.tr fwV (frX.ag ajV21 (by decide) (by decide))
    have rgz17 : 0 ≤ z17.toInt ∧ z17.toInt ≤ 0 := rgz17
    have t20 : 1 ≤ (V21 1 3).toInt := t20
    have pq23 : (V21 1 2).toInt = ((V 1 2)).toInt := congrArg Int32.toInt (ajV21 1 2 rfl)
    have cd24 : CD V21 b := ⟨CB.ag cd.1 (show agr [(1, 3)] [] V V21 from (agr.tr agr.rf ajV21 (by decide) (by decide))) (fun _ => rfl) (fun _ => rfl), CO.ag cd.2 (show agr [(1, 3)] [] V V21 from (agr.tr agr.rf ajV21 (by decide) (by decide))) (fun _ => rfl) (fun _ => rfl)⟩
    have p025 : p0x V V21 b := p0x.tr (p0x.rf : p0x V V b) (p0x.ag (show agr [(1, 3)] [] V V21 from (agr.tr agr.rf ajV21 (by decide) (by decide))) (fun _ => rfl) (fun _ => rfl))
    exact W.zret (v := z17) hx hb hr (nb_ok (by omega)) (fun t ht hW => ⟨⟨z17, (V21, L), rfl, ⟨hMV21, agV21, alL, fwV21, (show 0 ≤ z17.toInt ∧ z17.toInt ≤ 1 from by first | exact om_641b3f05f166 rgz17.1 rgz17.2 | first | omega | ((try (have i_tx := Imp.go tx (by omega))); (try (have i_cd := Imp.go cd (by omega))); (try (have i_cd := Imp.go cd (by omega))); (try (have i_tx := Imp.go tx (by omega))); omega)), (Imp.mk (fun hp => by exfalso; omega)), cd24, p025, (show (V21 1 2).toInt = (V 1 2).toInt ∨ (24 * (b : Int) ≤ (V21 1 2).toInt ∧ (V21 1 2).toInt < 24 * (b : Int) + 24) from by first | omega | ((try (have i_tx := Imp.go tx (by omega))); (try (have i_cd := Imp.go cd (by omega))); (try (have i_cd := Imp.go cd (by omega))); (try (have i_tx := Imp.go tx (by omega))); omega)), (Imp.mk (fun hp => have hp : z17.toInt = 0 := hp; (show 1 ≤ (V21 1 3).toInt from by first | exact om_f8d8213eda45 t20 | first | omega | ((try (have i_tx := Imp.go tx (by omega))); (try (have i_cd := Imp.go cd (by omega))); (try (have i_cd := Imp.go cd (by omega))); (try (have i_tx := Imp.go tx (by omega))); omega))))⟩, by rw [ht]; exact hP, va_K.moved hW.alike hK, hD⟩, hS.F ht⟩) hS.2.2 dX1_readStatement_81
  have gq15 : ((V 6 9)).toInt ≠ 129 := b_neq rfl (by decide) q15
  by_cases q26 : (V 6 9) = 130
  · refine g_top (v := 130) q26 ?_
    have fq26 : ((V 6 9)).toInt = 130 := b_eq rfl (by decide) q26
    refine lv_tableIn (x := 130) (off := 54) (tgt := 61) hx hb dX1_readStatement_7 (by decide) (by decide) (by decide) (by decide) ?_
    refine lv_aload_n hx hb dX1_readStatement_61 rfl (lv_at hl 0 rfl) ?_
    refine gA_int (gA_runV (As := []) (rest := []) (ci := 1) (q0 := 1) hx hb hml hown hg hP hD hK hS hA hnw hgk (x_readSetting l D ks H.size ad kk V L Z (b) hMV (show b < 2 from by first | exact om_f940a4667dd6 hb2 | first | omega | ((try (have i_tx := Imp.go tx (by omega))); (try (have i_cd := Imp.go cd (by omega))); (try (have i_cd := Imp.go cd (by omega))); (try (have i_tx := Imp.go tx (by omega))); omega)) (show (V 1 1).toInt = (b : Int) from by first | exact om_08e0c9701055 rbk | first | omega | ((try (have i_tx := Imp.go tx (by omega))); (try (have i_cd := Imp.go cd (by omega))); (try (have i_cd := Imp.go cd (by omega))); (try (have i_tx := Imp.go tx (by omega))); omega)) cd tx) w901 w903 w11 w162 w904 rfl xgReader hdV_yX1_readSetting ⟨Nat.le_of_ble_eq_true rfl, Nat.le_of_ble_eq_true rfl⟩ rfl hl.1 rfl (Nat.le_of_ble_eq_true rfl) dX1_readStatement_62 ⟨Nat.le_of_ble_eq_true rfl, Nat.le_of_ble_eq_true rfl⟩) hP hD hK hS hA (fun z27 u28 H locs w29 hP hD hK hS => ?_)
    obtain ⟨V34, L35⟩ := u28
    obtain ⟨hMV34, ajV34, axL35, fyV34, rgz27, t30, t31, t32, t33⟩ := w29
    have alL35 : agL [1, 6, 44] L L35 := agL.tr alL axL35 (by decide)
    have hP : va_P D vwCl (xw ad kk V34 L35 Z) H := hP
    have hD : va_D A (xw ad kk V34 L35 Z) := hD
    have hMV34 : rgd bX V34 := hMV34
    have ajV34 : agr [(1, 3), (1, 8), (6, 8), (6, 9), (6, 10)] [43, 44, 46] V V34 := ajV34
    have agV34 : agr [(1, 2), (1, 3), (1, 4), (1, 6), (1, 7), (1, 8), (6, 8), (6, 9), (6, 10)] [41, 42, 43, 44, 45, 46, 47, 48, 49, 50, 51, 52, 53, 54, 55, 56, 57, 61, 62, 63, 64, 65, 66] V V34 := agV.tr ajV34 (by decide) (by decide)
    have fwV34 : frX (xR b) V V34 := frX.tr fwV (fyV34)
    have rgz27 : 0 ≤ z27.toInt ∧ z27.toInt ≤ 1 := rgz27
    have t30 : TX V34 b := t30
    have t31 : CD V34 b := t31
    have t32 : px V V34 b := t32
    have t33 : Imp (z27.toInt = 0) (1 ≤ (V34 1 3).toInt) := t33
    have pq36 : (V34 1 2).toInt = ((V 1 2)).toInt := congrArg Int32.toInt (ajV34 1 2 rfl)
    have p037 : p0x V V34 b := p0x.tr (p0x.rf : p0x V V b) t32.1
    exact W.zret (v := z27) hx hb hr (nb_ok (by omega)) (fun t ht hW => ⟨⟨z27, (V34, L35), rfl, ⟨hMV34, agV34, alL35, fwV34, (show 0 ≤ z27.toInt ∧ z27.toInt ≤ 1 from by first | exact om_eb7af9d60398 rgz27.1 rgz27.2 | first | omega | ((try (have i_t33 := Imp.go t33 (by omega))); (try (have i_tx := Imp.go tx (by omega))); (try (have i_cd := Imp.go cd (by omega))); (try (have i_cd := Imp.go cd (by omega))); (try (have i_tx := Imp.go tx (by omega))); (try (have i_t33 := Imp.go t33 (by omega))); omega)), (Imp.mk (fun _ => t30)), t31, p037, (show (V34 1 2).toInt = (V 1 2).toInt ∨ (24 * (b : Int) ≤ (V34 1 2).toInt ∧ (V34 1 2).toInt < 24 * (b : Int) + 24) from by first | omega | ((try (have i_t33 := Imp.go t33 (by omega))); (try (have i_tx := Imp.go tx (by omega))); (try (have i_cd := Imp.go cd (by omega))); (try (have i_cd := Imp.go cd (by omega))); (try (have i_tx := Imp.go tx (by omega))); (try (have i_t33 := Imp.go t33 (by omega))); omega)), (Imp.mk (fun hp => have hp : z27.toInt = 0 := hp; (show 1 ≤ (V34 1 3).toInt from by first | exact om_f8d8213eda45 ((Imp.go t33 (hp))) | first | omega | ((try (have i_t33 := Imp.go t33 (by omega))); (try (have i_tx := Imp.go tx (by omega))); (try (have i_cd := Imp.go cd (by omega))); (try (have i_cd := Imp.go cd (by omega))); (try (have i_tx := Imp.go tx (by omega))); (try (have i_t33 := Imp.go t33 (by omega))); omega))))⟩, by rw [ht]; exact hP, va_K.moved hW.alike hK, hD⟩, hS.F ht⟩) hS.2.2 dX1_readStatement_65
  have gq26 : ((V 6 9)).toInt ≠ 130 := b_neq rfl (by decide) q26
  by_cases q38 : (V 6 9) = 131
  · refine g_top (v := 131) q38 ?_
    have fq38 : ((V 6 9)).toInt = 131 := b_eq rfl (by decide) q38
    refine lv_tableIn (x := 131) (off := 59) (tgt := 66) hx hb dX1_readStatement_7 (by decide) (by decide) (by decide) (by decide) ?_
    refine lv_aload_n hx hb dX1_readStatement_66 rfl (lv_at hl 0 rfl) ?_
    refine gA_int (gA_runV (As := []) (rest := []) (ci := 1) (q0 := 1) hx hb hml hown hg hP hD hK hS hA hnw hgk (x_readComponent l D ks H.size ad kk V L Z (b) hMV (show b < 2 from by first | exact om_f940a4667dd6 hb2 | first | omega | ((try (have i_tx := Imp.go tx (by omega))); (try (have i_cd := Imp.go cd (by omega))); (try (have i_cd := Imp.go cd (by omega))); (try (have i_tx := Imp.go tx (by omega))); omega)) (show (V 1 1).toInt = (b : Int) from by first | exact om_08e0c9701055 rbk | first | omega | ((try (have i_tx := Imp.go tx (by omega))); (try (have i_cd := Imp.go cd (by omega))); (try (have i_cd := Imp.go cd (by omega))); (try (have i_tx := Imp.go tx (by omega))); omega)) cd tx) w910 w912 w13 w162 w913 rfl xgReader hdV_yX1_readComponent ⟨Nat.le_of_ble_eq_true rfl, Nat.le_of_ble_eq_true rfl⟩ rfl hl.1 rfl (Nat.le_of_ble_eq_true rfl) dX1_readStatement_67 ⟨Nat.le_of_ble_eq_true rfl, Nat.le_of_ble_eq_true rfl⟩) hP hD hK hS hA (fun z39 u40 H locs w41 hP hD hK hS => ?_)
    obtain ⟨V47, L48⟩ := u40
    obtain ⟨hMV47, ajV47, axL48, fyV47, rgz39, t42, t43, t44, t45, t46⟩ := w41
    have alL48 : agL [1, 6, 44] L L48 := agL.tr alL axL48 (by decide)
    have hP : va_P D vwCl (xw ad kk V47 L48 Z) H := hP
    have hD : va_D A (xw ad kk V47 L48 Z) := hD
    have hMV47 : rgd bX V47 := hMV47
    have ajV47 : agr [(1, 2), (1, 3), (1, 6), (1, 7), (1, 8), (6, 8), (6, 9), (6, 10)] [43, 44, 49, 50, 51, 52, 53, 54, 55, 56, 57, 61] V V47 := ajV47
    have agV47 : agr [(1, 2), (1, 3), (1, 4), (1, 6), (1, 7), (1, 8), (6, 8), (6, 9), (6, 10)] [41, 42, 43, 44, 45, 46, 47, 48, 49, 50, 51, 52, 53, 54, 55, 56, 57, 61, 62, 63, 64, 65, 66] V V47 := agV.tr ajV47 (by decide) (by decide)
    have fwV47 : frX (xR b) V V47 := frX.tr fwV (fyV47)
    have rgz39 : 0 ≤ z39.toInt ∧ z39.toInt ≤ 1 := rgz39
    have t42 : Imp (z39.toInt = 1) (TX V47 b) := t42
    have t43 : CD V47 b := t43
    have t44 : p0x V V47 b := t44
    have t45 : (V47 1 2).toInt = (V 1 2).toInt ∨ (24 * (b : Int) ≤ (V47 1 2).toInt ∧ (V47 1 2).toInt < 24 * (b : Int) + 24) := t45
    have t46 : Imp (z39.toInt = 0) (1 ≤ (V47 1 3).toInt) := t46
    have r49 : (-1) ≤ ((V47 1 2)).toInt ∧ ((V47 1 2)).toInt ≤ 47 := hMV47 1 2
    have p050 : p0x V V47 b := p0x.tr (p0x.rf : p0x V V b) t44
    exact W.zret (v := z39) hx hb hr (nb_ok (by omega)) (fun t ht hW => ⟨⟨z39, (V47, L48), rfl, ⟨hMV47, agV47, alL48, fwV47, (show 0 ≤ z39.toInt ∧ z39.toInt ≤ 1 from by first | exact om_eb7af9d60398 rgz39.1 rgz39.2 | first | omega | ((try (have i_t46 := Imp.go t46 (by omega))); (try (have i_tx := Imp.go tx (by omega))); (try (have i_cd := Imp.go cd (by omega))); (try (have i_cd := Imp.go cd (by omega))); (try (have i_tx := Imp.go tx (by omega))); (try (have i_t46 := Imp.go t46 (by omega))); omega)), t42, t43, p050, (show (V47 1 2).toInt = (V 1 2).toInt ∨ (24 * (b : Int) ≤ (V47 1 2).toInt ∧ (V47 1 2).toInt < 24 * (b : Int) + 24) from by first | omega | ((try (have i_t46 := Imp.go t46 (by omega))); (try (have i_tx := Imp.go tx (by omega))); (try (have i_cd := Imp.go cd (by omega))); (try (have i_cd := Imp.go cd (by omega))); (try (have i_tx := Imp.go tx (by omega))); (try (have i_t46 := Imp.go t46 (by omega))); omega)), (Imp.mk (fun hp => have hp : z39.toInt = 0 := hp; (show 1 ≤ (V47 1 3).toInt from by first | exact om_f8d8213eda45 ((Imp.go t46 (hp))) | first | omega | ((try (have i_t46 := Imp.go t46 (by omega))); (try (have i_tx := Imp.go tx (by omega))); (try (have i_cd := Imp.go cd (by omega))); (try (have i_cd := Imp.go cd (by omega))); (try (have i_tx := Imp.go tx (by omega))); (try (have i_t46 := Imp.go t46 (by omega))); omega))))⟩, by rw [ht]; exact hP, va_K.moved hW.alike hK, hD⟩, hS.F ht⟩) hS.2.2 dX1_readStatement_70
  have gq38 : ((V 6 9)).toInt ≠ 131 := b_neq rfl (by decide) q38
  by_cases q51 : (V 6 9) = 132
  · refine g_top (v := 132) q51 ?_
    have fq51 : ((V 6 9)).toInt = 132 := b_eq rfl (by decide) q51
    refine lv_tableIn (x := 132) (off := 69) (tgt := 76) hx hb dX1_readStatement_7 (by decide) (by decide) (by decide) (by decide) ?_
    refine lv_aload_n hx hb dX1_readStatement_76 rfl (lv_at hl 0 rfl) ?_
    refine lv_iconst (v := 1) hx hb dX1_readStatement_77 (by decide) ?_
    have r52 : Int32.toInt 1 = 1 := by decide
    refine gA_int (gA_runV (As := [.int 1]) (rest := []) (ci := 1) (q0 := 1) hx hb hml hown hg hP hD hK hS hA hnw hgk (x_wrong l D ks H.size ad kk V L Z 1 hMV (by decide)) w867 w869 w6 w162 w870 rfl xgReader hdV_yX1_wrong ⟨Nat.le_of_ble_eq_true rfl, Nat.le_of_ble_eq_true rfl⟩ rfl hl.1 rfl (Nat.le_of_ble_eq_true rfl) dX1_readStatement_78 ⟨Nat.le_of_ble_eq_true rfl, Nat.le_of_ble_eq_true rfl⟩) hP hD hK hS hA (fun z53 u54 H locs w55 hP hD hK hS => ?_)
    obtain ⟨V57, L58⟩ := u54
    obtain ⟨hMV57, ajV57, axL58, rgz53, t56⟩ := w55
    have axL58 : L = L58 := Eq.symm axL58
    subst axL58
    have hP : va_P D vwCl (xw ad kk V57 L Z) H := hP
    have hD : va_D A (xw ad kk V57 L Z) := hD
    have hMV57 : rgd bX V57 := hMV57
    have ajV57 : agr [(1, 3)] [] V V57 := ajV57
    have agV57 : agr [(1, 2), (1, 3), (1, 4), (1, 6), (1, 7), (1, 8), (6, 8), (6, 9), (6, 10)] [41, 42, 43, 44, 45, 46, 47, 48, 49, 50, 51, 52, 53, 54, 55, 56, 57, 61, 62, 63, 64, 65, 66] V V57 := agV.tr ajV57 (by decide) (by decide)
    have fwV57 : frX (xR b) V V57 := frX.tr fwV (frX.ag ajV57 (by decide) (by decide))
    have rgz53 : 0 ≤ z53.toInt ∧ z53.toInt ≤ 0 := rgz53
    have t56 : 1 ≤ (V57 1 3).toInt := t56
    have pq59 : (V57 1 2).toInt = ((V 1 2)).toInt := congrArg Int32.toInt (ajV57 1 2 rfl)
    have cd60 : CD V57 b := ⟨CB.ag cd.1 (show agr [(1, 3)] [] V V57 from (agr.tr agr.rf ajV57 (by decide) (by decide))) (fun _ => rfl) (fun _ => rfl), CO.ag cd.2 (show agr [(1, 3)] [] V V57 from (agr.tr agr.rf ajV57 (by decide) (by decide))) (fun _ => rfl) (fun _ => rfl)⟩
    have p061 : p0x V V57 b := p0x.tr (p0x.rf : p0x V V b) (p0x.ag (show agr [(1, 3)] [] V V57 from (agr.tr agr.rf ajV57 (by decide) (by decide))) (fun _ => rfl) (fun _ => rfl))
    exact W.zret (v := z53) hx hb hr (nb_ok (by omega)) (fun t ht hW => ⟨⟨z53, (V57, L), rfl, ⟨hMV57, agV57, alL, fwV57, (show 0 ≤ z53.toInt ∧ z53.toInt ≤ 1 from by first | exact om_641b3f05f166 rgz53.1 rgz53.2 | first | omega | ((try (have i_tx := Imp.go tx (by omega))); (try (have i_cd := Imp.go cd (by omega))); (try (have i_cd := Imp.go cd (by omega))); (try (have i_tx := Imp.go tx (by omega))); omega)), (Imp.mk (fun hp => by exfalso; omega)), cd60, p061, (show (V57 1 2).toInt = (V 1 2).toInt ∨ (24 * (b : Int) ≤ (V57 1 2).toInt ∧ (V57 1 2).toInt < 24 * (b : Int) + 24) from by first | omega | ((try (have i_tx := Imp.go tx (by omega))); (try (have i_cd := Imp.go cd (by omega))); (try (have i_cd := Imp.go cd (by omega))); (try (have i_tx := Imp.go tx (by omega))); omega)), (Imp.mk (fun hp => have hp : z53.toInt = 0 := hp; (show 1 ≤ (V57 1 3).toInt from by first | exact om_f8d8213eda45 t56 | first | omega | ((try (have i_tx := Imp.go tx (by omega))); (try (have i_cd := Imp.go cd (by omega))); (try (have i_cd := Imp.go cd (by omega))); (try (have i_tx := Imp.go tx (by omega))); omega))))⟩, by rw [ht]; exact hP, va_K.moved hW.alike hK, hD⟩, hS.F ht⟩) hS.2.2 dX1_readStatement_81
  have gq51 : ((V 6 9)).toInt ≠ 132 := b_neq rfl (by decide) q51
  by_cases q62 : (V 6 9) = 133
  · refine g_top (v := 133) q62 ?_
    have fq62 : ((V 6 9)).toInt = 133 := b_eq rfl (by decide) q62
    refine lv_tableIn (x := 133) (off := 69) (tgt := 76) hx hb dX1_readStatement_7 (by decide) (by decide) (by decide) (by decide) ?_
    refine lv_aload_n hx hb dX1_readStatement_76 rfl (lv_at hl 0 rfl) ?_
    refine lv_iconst (v := 1) hx hb dX1_readStatement_77 (by decide) ?_
    have r63 : Int32.toInt 1 = 1 := by decide
    refine gA_int (gA_runV (As := [.int 1]) (rest := []) (ci := 1) (q0 := 1) hx hb hml hown hg hP hD hK hS hA hnw hgk (x_wrong l D ks H.size ad kk V L Z 1 hMV (by decide)) w867 w869 w6 w162 w870 rfl xgReader hdV_yX1_wrong ⟨Nat.le_of_ble_eq_true rfl, Nat.le_of_ble_eq_true rfl⟩ rfl hl.1 rfl (Nat.le_of_ble_eq_true rfl) dX1_readStatement_78 ⟨Nat.le_of_ble_eq_true rfl, Nat.le_of_ble_eq_true rfl⟩) hP hD hK hS hA (fun z64 u65 H locs w66 hP hD hK hS => ?_)
    obtain ⟨V68, L69⟩ := u65
    obtain ⟨hMV68, ajV68, axL69, rgz64, t67⟩ := w66
    have axL69 : L = L69 := Eq.symm axL69
    subst axL69
    have hP : va_P D vwCl (xw ad kk V68 L Z) H := hP
    have hD : va_D A (xw ad kk V68 L Z) := hD
    have hMV68 : rgd bX V68 := hMV68
    have ajV68 : agr [(1, 3)] [] V V68 := ajV68
    have agV68 : agr [(1, 2), (1, 3), (1, 4), (1, 6), (1, 7), (1, 8), (6, 8), (6, 9), (6, 10)] [41, 42, 43, 44, 45, 46, 47, 48, 49, 50, 51, 52, 53, 54, 55, 56, 57, 61, 62, 63, 64, 65, 66] V V68 := agV.tr ajV68 (by decide) (by decide)
    have fwV68 : frX (xR b) V V68 := frX.tr fwV (frX.ag ajV68 (by decide) (by decide))
    have rgz64 : 0 ≤ z64.toInt ∧ z64.toInt ≤ 0 := rgz64
    have t67 : 1 ≤ (V68 1 3).toInt := t67
    have pq70 : (V68 1 2).toInt = ((V 1 2)).toInt := congrArg Int32.toInt (ajV68 1 2 rfl)
    have cd71 : CD V68 b := ⟨CB.ag cd.1 (show agr [(1, 3)] [] V V68 from (agr.tr agr.rf ajV68 (by decide) (by decide))) (fun _ => rfl) (fun _ => rfl), CO.ag cd.2 (show agr [(1, 3)] [] V V68 from (agr.tr agr.rf ajV68 (by decide) (by decide))) (fun _ => rfl) (fun _ => rfl)⟩
    have p072 : p0x V V68 b := p0x.tr (p0x.rf : p0x V V b) (p0x.ag (show agr [(1, 3)] [] V V68 from (agr.tr agr.rf ajV68 (by decide) (by decide))) (fun _ => rfl) (fun _ => rfl))
    exact W.zret (v := z64) hx hb hr (nb_ok (by omega)) (fun t ht hW => ⟨⟨z64, (V68, L), rfl, ⟨hMV68, agV68, alL, fwV68, (show 0 ≤ z64.toInt ∧ z64.toInt ≤ 1 from by first | exact om_641b3f05f166 rgz64.1 rgz64.2 | first | omega | ((try (have i_tx := Imp.go tx (by omega))); (try (have i_cd := Imp.go cd (by omega))); (try (have i_cd := Imp.go cd (by omega))); (try (have i_tx := Imp.go tx (by omega))); omega)), (Imp.mk (fun hp => by exfalso; omega)), cd71, p072, (show (V68 1 2).toInt = (V 1 2).toInt ∨ (24 * (b : Int) ≤ (V68 1 2).toInt ∧ (V68 1 2).toInt < 24 * (b : Int) + 24) from by first | omega | ((try (have i_tx := Imp.go tx (by omega))); (try (have i_cd := Imp.go cd (by omega))); (try (have i_cd := Imp.go cd (by omega))); (try (have i_tx := Imp.go tx (by omega))); omega)), (Imp.mk (fun hp => have hp : z64.toInt = 0 := hp; (show 1 ≤ (V68 1 3).toInt from by first | exact om_f8d8213eda45 t67 | first | omega | ((try (have i_tx := Imp.go tx (by omega))); (try (have i_cd := Imp.go cd (by omega))); (try (have i_cd := Imp.go cd (by omega))); (try (have i_tx := Imp.go tx (by omega))); omega))))⟩, by rw [ht]; exact hP, va_K.moved hW.alike hK, hD⟩, hS.F ht⟩) hS.2.2 dX1_readStatement_81
  have gq62 : ((V 6 9)).toInt ≠ 133 := b_neq rfl (by decide) q62
  by_cases q73 : (V 6 9) = 134
  · refine g_top (v := 134) q73 ?_
    have fq73 : ((V 6 9)).toInt = 134 := b_eq rfl (by decide) q73
    refine lv_tableIn (x := 134) (off := 69) (tgt := 76) hx hb dX1_readStatement_7 (by decide) (by decide) (by decide) (by decide) ?_
    refine lv_aload_n hx hb dX1_readStatement_76 rfl (lv_at hl 0 rfl) ?_
    refine lv_iconst (v := 1) hx hb dX1_readStatement_77 (by decide) ?_
    have r74 : Int32.toInt 1 = 1 := by decide
    refine gA_int (gA_runV (As := [.int 1]) (rest := []) (ci := 1) (q0 := 1) hx hb hml hown hg hP hD hK hS hA hnw hgk (x_wrong l D ks H.size ad kk V L Z 1 hMV (by decide)) w867 w869 w6 w162 w870 rfl xgReader hdV_yX1_wrong ⟨Nat.le_of_ble_eq_true rfl, Nat.le_of_ble_eq_true rfl⟩ rfl hl.1 rfl (Nat.le_of_ble_eq_true rfl) dX1_readStatement_78 ⟨Nat.le_of_ble_eq_true rfl, Nat.le_of_ble_eq_true rfl⟩) hP hD hK hS hA (fun z75 u76 H locs w77 hP hD hK hS => ?_)
    obtain ⟨V79, L80⟩ := u76
    obtain ⟨hMV79, ajV79, axL80, rgz75, t78⟩ := w77
    have axL80 : L = L80 := Eq.symm axL80
    subst axL80
    have hP : va_P D vwCl (xw ad kk V79 L Z) H := hP
    have hD : va_D A (xw ad kk V79 L Z) := hD
    have hMV79 : rgd bX V79 := hMV79
    have ajV79 : agr [(1, 3)] [] V V79 := ajV79
    have agV79 : agr [(1, 2), (1, 3), (1, 4), (1, 6), (1, 7), (1, 8), (6, 8), (6, 9), (6, 10)] [41, 42, 43, 44, 45, 46, 47, 48, 49, 50, 51, 52, 53, 54, 55, 56, 57, 61, 62, 63, 64, 65, 66] V V79 := agV.tr ajV79 (by decide) (by decide)
    have fwV79 : frX (xR b) V V79 := frX.tr fwV (frX.ag ajV79 (by decide) (by decide))
    have rgz75 : 0 ≤ z75.toInt ∧ z75.toInt ≤ 0 := rgz75
    have t78 : 1 ≤ (V79 1 3).toInt := t78
    have pq81 : (V79 1 2).toInt = ((V 1 2)).toInt := congrArg Int32.toInt (ajV79 1 2 rfl)
    have cd82 : CD V79 b := ⟨CB.ag cd.1 (show agr [(1, 3)] [] V V79 from (agr.tr agr.rf ajV79 (by decide) (by decide))) (fun _ => rfl) (fun _ => rfl), CO.ag cd.2 (show agr [(1, 3)] [] V V79 from (agr.tr agr.rf ajV79 (by decide) (by decide))) (fun _ => rfl) (fun _ => rfl)⟩
    have p083 : p0x V V79 b := p0x.tr (p0x.rf : p0x V V b) (p0x.ag (show agr [(1, 3)] [] V V79 from (agr.tr agr.rf ajV79 (by decide) (by decide))) (fun _ => rfl) (fun _ => rfl))
    exact W.zret (v := z75) hx hb hr (nb_ok (by omega)) (fun t ht hW => ⟨⟨z75, (V79, L), rfl, ⟨hMV79, agV79, alL, fwV79, (show 0 ≤ z75.toInt ∧ z75.toInt ≤ 1 from by first | exact om_641b3f05f166 rgz75.1 rgz75.2 | first | omega | ((try (have i_tx := Imp.go tx (by omega))); (try (have i_cd := Imp.go cd (by omega))); (try (have i_cd := Imp.go cd (by omega))); (try (have i_tx := Imp.go tx (by omega))); omega)), (Imp.mk (fun hp => by exfalso; omega)), cd82, p083, (show (V79 1 2).toInt = (V 1 2).toInt ∨ (24 * (b : Int) ≤ (V79 1 2).toInt ∧ (V79 1 2).toInt < 24 * (b : Int) + 24) from by first | omega | ((try (have i_tx := Imp.go tx (by omega))); (try (have i_cd := Imp.go cd (by omega))); (try (have i_cd := Imp.go cd (by omega))); (try (have i_tx := Imp.go tx (by omega))); omega)), (Imp.mk (fun hp => have hp : z75.toInt = 0 := hp; (show 1 ≤ (V79 1 3).toInt from by first | exact om_f8d8213eda45 t78 | first | omega | ((try (have i_tx := Imp.go tx (by omega))); (try (have i_cd := Imp.go cd (by omega))); (try (have i_cd := Imp.go cd (by omega))); (try (have i_tx := Imp.go tx (by omega))); omega))))⟩, by rw [ht]; exact hP, va_K.moved hW.alike hK, hD⟩, hS.F ht⟩) hS.2.2 dX1_readStatement_81
  have gq73 : ((V 6 9)).toInt ≠ 134 := b_neq rfl (by decide) q73
  by_cases q84 : (V 6 9) = 135
  · refine g_top (v := 135) q84 ?_
    have fq84 : ((V 6 9)).toInt = 135 := b_eq rfl (by decide) q84
    refine lv_tableIn (x := 135) (off := 69) (tgt := 76) hx hb dX1_readStatement_7 (by decide) (by decide) (by decide) (by decide) ?_
    refine lv_aload_n hx hb dX1_readStatement_76 rfl (lv_at hl 0 rfl) ?_
    refine lv_iconst (v := 1) hx hb dX1_readStatement_77 (by decide) ?_
    have r85 : Int32.toInt 1 = 1 := by decide
    refine gA_int (gA_runV (As := [.int 1]) (rest := []) (ci := 1) (q0 := 1) hx hb hml hown hg hP hD hK hS hA hnw hgk (x_wrong l D ks H.size ad kk V L Z 1 hMV (by decide)) w867 w869 w6 w162 w870 rfl xgReader hdV_yX1_wrong ⟨Nat.le_of_ble_eq_true rfl, Nat.le_of_ble_eq_true rfl⟩ rfl hl.1 rfl (Nat.le_of_ble_eq_true rfl) dX1_readStatement_78 ⟨Nat.le_of_ble_eq_true rfl, Nat.le_of_ble_eq_true rfl⟩) hP hD hK hS hA (fun z86 u87 H locs w88 hP hD hK hS => ?_)
    obtain ⟨V90, L91⟩ := u87
    obtain ⟨hMV90, ajV90, axL91, rgz86, t89⟩ := w88
    have axL91 : L = L91 := Eq.symm axL91
    subst axL91
    have hP : va_P D vwCl (xw ad kk V90 L Z) H := hP
    have hD : va_D A (xw ad kk V90 L Z) := hD
    have hMV90 : rgd bX V90 := hMV90
    have ajV90 : agr [(1, 3)] [] V V90 := ajV90
    have agV90 : agr [(1, 2), (1, 3), (1, 4), (1, 6), (1, 7), (1, 8), (6, 8), (6, 9), (6, 10)] [41, 42, 43, 44, 45, 46, 47, 48, 49, 50, 51, 52, 53, 54, 55, 56, 57, 61, 62, 63, 64, 65, 66] V V90 := agV.tr ajV90 (by decide) (by decide)
    have fwV90 : frX (xR b) V V90 := frX.tr fwV (frX.ag ajV90 (by decide) (by decide))
    have rgz86 : 0 ≤ z86.toInt ∧ z86.toInt ≤ 0 := rgz86
    have t89 : 1 ≤ (V90 1 3).toInt := t89
    have pq92 : (V90 1 2).toInt = ((V 1 2)).toInt := congrArg Int32.toInt (ajV90 1 2 rfl)
    have cd93 : CD V90 b := ⟨CB.ag cd.1 (show agr [(1, 3)] [] V V90 from (agr.tr agr.rf ajV90 (by decide) (by decide))) (fun _ => rfl) (fun _ => rfl), CO.ag cd.2 (show agr [(1, 3)] [] V V90 from (agr.tr agr.rf ajV90 (by decide) (by decide))) (fun _ => rfl) (fun _ => rfl)⟩
    have p094 : p0x V V90 b := p0x.tr (p0x.rf : p0x V V b) (p0x.ag (show agr [(1, 3)] [] V V90 from (agr.tr agr.rf ajV90 (by decide) (by decide))) (fun _ => rfl) (fun _ => rfl))
    exact W.zret (v := z86) hx hb hr (nb_ok (by omega)) (fun t ht hW => ⟨⟨z86, (V90, L), rfl, ⟨hMV90, agV90, alL, fwV90, (show 0 ≤ z86.toInt ∧ z86.toInt ≤ 1 from by first | exact om_641b3f05f166 rgz86.1 rgz86.2 | first | omega | ((try (have i_tx := Imp.go tx (by omega))); (try (have i_cd := Imp.go cd (by omega))); (try (have i_cd := Imp.go cd (by omega))); (try (have i_tx := Imp.go tx (by omega))); omega)), (Imp.mk (fun hp => by exfalso; omega)), cd93, p094, (show (V90 1 2).toInt = (V 1 2).toInt ∨ (24 * (b : Int) ≤ (V90 1 2).toInt ∧ (V90 1 2).toInt < 24 * (b : Int) + 24) from by first | omega | ((try (have i_tx := Imp.go tx (by omega))); (try (have i_cd := Imp.go cd (by omega))); (try (have i_cd := Imp.go cd (by omega))); (try (have i_tx := Imp.go tx (by omega))); omega)), (Imp.mk (fun hp => have hp : z86.toInt = 0 := hp; (show 1 ≤ (V90 1 3).toInt from by first | exact om_f8d8213eda45 t89 | first | omega | ((try (have i_tx := Imp.go tx (by omega))); (try (have i_cd := Imp.go cd (by omega))); (try (have i_cd := Imp.go cd (by omega))); (try (have i_tx := Imp.go tx (by omega))); omega))))⟩, by rw [ht]; exact hP, va_K.moved hW.alike hK, hD⟩, hS.F ht⟩) hS.2.2 dX1_readStatement_81
  have gq84 : ((V 6 9)).toInt ≠ 135 := b_neq rfl (by decide) q84
  by_cases q95 : (V 6 9) = 136
  · refine g_top (v := 136) q95 ?_
    have fq95 : ((V 6 9)).toInt = 136 := b_eq rfl (by decide) q95
    refine lv_tableIn (x := 136) (off := 64) (tgt := 71) hx hb dX1_readStatement_7 (by decide) (by decide) (by decide) (by decide) ?_
    refine lv_aload_n hx hb dX1_readStatement_71 rfl (lv_at hl 0 rfl) ?_
    refine gA_int (gA_runV (As := []) (rest := []) (ci := 1) (q0 := 1) hx hb hml hown hg hP hD hK hS hA hnw hgk (x_readWrap l D ks H.size ad kk V L Z (b) hMV (show b < 2 from by first | exact om_f940a4667dd6 hb2 | first | omega | ((try (have i_tx := Imp.go tx (by omega))); (try (have i_cd := Imp.go cd (by omega))); (try (have i_cd := Imp.go cd (by omega))); (try (have i_tx := Imp.go tx (by omega))); omega)) (show (V 1 1).toInt = (b : Int) from by first | exact om_08e0c9701055 rbk | first | omega | ((try (have i_tx := Imp.go tx (by omega))); (try (have i_cd := Imp.go cd (by omega))); (try (have i_cd := Imp.go cd (by omega))); (try (have i_tx := Imp.go tx (by omega))); omega)) cd tx) w935 w937 w18 w162 w938 rfl xgReader hdV_yX1_readWrap ⟨Nat.le_of_ble_eq_true rfl, Nat.le_of_ble_eq_true rfl⟩ rfl hl.1 rfl (Nat.le_of_ble_eq_true rfl) dX1_readStatement_72 ⟨Nat.le_of_ble_eq_true rfl, Nat.le_of_ble_eq_true rfl⟩) hP hD hK hS hA (fun z96 u97 H locs w98 hP hD hK hS => ?_)
    obtain ⟨V103, L104⟩ := u97
    obtain ⟨hMV103, ajV103, axL104, fyV103, rgz96, t99, t100, t101, t102⟩ := w98
    have alL104 : agL [1, 6, 44] L L104 := agL.tr alL axL104 (by decide)
    have hP : va_P D vwCl (xw ad kk V103 L104 Z) H := hP
    have hD : va_D A (xw ad kk V103 L104 Z) := hD
    have hMV103 : rgd bX V103 := hMV103
    have ajV103 : agr [(1, 3), (1, 4), (1, 6), (1, 8), (6, 8), (6, 9), (6, 10)] [41, 42, 43, 44, 47, 48, 62, 63, 64, 65, 66] V V103 := ajV103
    have agV103 : agr [(1, 2), (1, 3), (1, 4), (1, 6), (1, 7), (1, 8), (6, 8), (6, 9), (6, 10)] [41, 42, 43, 44, 45, 46, 47, 48, 49, 50, 51, 52, 53, 54, 55, 56, 57, 61, 62, 63, 64, 65, 66] V V103 := agV.tr ajV103 (by decide) (by decide)
    have fwV103 : frX (xR b) V V103 := frX.tr fwV (fyV103)
    have rgz96 : 0 ≤ z96.toInt ∧ z96.toInt ≤ 1 := rgz96
    have t99 : TX V103 b := t99
    have t100 : CD V103 b := t100
    have t101 : px V V103 b := t101
    have t102 : Imp (z96.toInt = 0) (1 ≤ (V103 1 3).toInt) := t102
    have pq105 : (V103 1 2).toInt = ((V 1 2)).toInt := congrArg Int32.toInt (ajV103 1 2 rfl)
    have p0106 : p0x V V103 b := p0x.tr (p0x.rf : p0x V V b) t101.1
    exact W.zret (v := z96) hx hb hr (nb_ok (by omega)) (fun t ht hW => ⟨⟨z96, (V103, L104), rfl, ⟨hMV103, agV103, alL104, fwV103, (show 0 ≤ z96.toInt ∧ z96.toInt ≤ 1 from by first | exact om_eb7af9d60398 rgz96.1 rgz96.2 | first | omega | ((try (have i_t102 := Imp.go t102 (by omega))); (try (have i_tx := Imp.go tx (by omega))); (try (have i_cd := Imp.go cd (by omega))); (try (have i_cd := Imp.go cd (by omega))); (try (have i_tx := Imp.go tx (by omega))); (try (have i_t102 := Imp.go t102 (by omega))); omega)), (Imp.mk (fun _ => t99)), t100, p0106, (show (V103 1 2).toInt = (V 1 2).toInt ∨ (24 * (b : Int) ≤ (V103 1 2).toInt ∧ (V103 1 2).toInt < 24 * (b : Int) + 24) from by first | omega | ((try (have i_t102 := Imp.go t102 (by omega))); (try (have i_tx := Imp.go tx (by omega))); (try (have i_cd := Imp.go cd (by omega))); (try (have i_cd := Imp.go cd (by omega))); (try (have i_tx := Imp.go tx (by omega))); (try (have i_t102 := Imp.go t102 (by omega))); omega)), (Imp.mk (fun hp => have hp : z96.toInt = 0 := hp; (show 1 ≤ (V103 1 3).toInt from by first | exact om_f8d8213eda45 ((Imp.go t102 (hp))) | first | omega | ((try (have i_t102 := Imp.go t102 (by omega))); (try (have i_tx := Imp.go tx (by omega))); (try (have i_cd := Imp.go cd (by omega))); (try (have i_cd := Imp.go cd (by omega))); (try (have i_tx := Imp.go tx (by omega))); (try (have i_t102 := Imp.go t102 (by omega))); omega))))⟩, by rw [ht]; exact hP, va_K.moved hW.alike hK, hD⟩, hS.F ht⟩) hS.2.2 dX1_readStatement_75
  have gq95 : ((V 6 9)).toInt ≠ 136 := b_neq rfl (by decide) q95
  refine lv_tableOut (x := (V 6 9)) (tgt := 76) hx hb dX1_readStatement_7 (by omega) (by decide) ?_
  refine lv_aload_n hx hb dX1_readStatement_76 rfl (lv_at hl 0 rfl) ?_
  refine lv_iconst (v := 1) hx hb dX1_readStatement_77 (by decide) ?_
  have r107 : Int32.toInt 1 = 1 := by decide
  refine gA_int (gA_runV (As := [.int 1]) (rest := []) (ci := 1) (q0 := 1) hx hb hml hown hg hP hD hK hS hA hnw hgk (x_wrong l D ks H.size ad kk V L Z 1 hMV (by decide)) w867 w869 w6 w162 w870 rfl xgReader hdV_yX1_wrong ⟨Nat.le_of_ble_eq_true rfl, Nat.le_of_ble_eq_true rfl⟩ rfl hl.1 rfl (Nat.le_of_ble_eq_true rfl) dX1_readStatement_78 ⟨Nat.le_of_ble_eq_true rfl, Nat.le_of_ble_eq_true rfl⟩) hP hD hK hS hA (fun z108 u109 H locs w110 hP hD hK hS => ?_)
  obtain ⟨V112, L113⟩ := u109
  obtain ⟨hMV112, ajV112, axL113, rgz108, t111⟩ := w110
  have axL113 : L = L113 := Eq.symm axL113
  subst axL113
  have hP : va_P D vwCl (xw ad kk V112 L Z) H := hP
  have hD : va_D A (xw ad kk V112 L Z) := hD
  have hMV112 : rgd bX V112 := hMV112
  have ajV112 : agr [(1, 3)] [] V V112 := ajV112
  have agV112 : agr [(1, 2), (1, 3), (1, 4), (1, 6), (1, 7), (1, 8), (6, 8), (6, 9), (6, 10)] [41, 42, 43, 44, 45, 46, 47, 48, 49, 50, 51, 52, 53, 54, 55, 56, 57, 61, 62, 63, 64, 65, 66] V V112 := agV.tr ajV112 (by decide) (by decide)
  have fwV112 : frX (xR b) V V112 := frX.tr fwV (frX.ag ajV112 (by decide) (by decide))
  have rgz108 : 0 ≤ z108.toInt ∧ z108.toInt ≤ 0 := rgz108
  have t111 : 1 ≤ (V112 1 3).toInt := t111
  have pq114 : (V112 1 2).toInt = ((V 1 2)).toInt := congrArg Int32.toInt (ajV112 1 2 rfl)
  have cd115 : CD V112 b := ⟨CB.ag cd.1 (show agr [(1, 3)] [] V V112 from (agr.tr agr.rf ajV112 (by decide) (by decide))) (fun _ => rfl) (fun _ => rfl), CO.ag cd.2 (show agr [(1, 3)] [] V V112 from (agr.tr agr.rf ajV112 (by decide) (by decide))) (fun _ => rfl) (fun _ => rfl)⟩
  have p0116 : p0x V V112 b := p0x.tr (p0x.rf : p0x V V b) (p0x.ag (show agr [(1, 3)] [] V V112 from (agr.tr agr.rf ajV112 (by decide) (by decide))) (fun _ => rfl) (fun _ => rfl))
  exact W.zret (v := z108) hx hb hr (nb_ok (by omega)) (fun t ht hW => ⟨⟨z108, (V112, L), rfl, ⟨hMV112, agV112, alL, fwV112, (show 0 ≤ z108.toInt ∧ z108.toInt ≤ 1 from by first | exact om_641b3f05f166 rgz108.1 rgz108.2 | first | omega | ((try (have i_tx := Imp.go tx (by omega))); (try (have i_cd := Imp.go cd (by omega))); (try (have i_cd := Imp.go cd (by omega))); (try (have i_tx := Imp.go tx (by omega))); omega)), (Imp.mk (fun hp => by exfalso; omega)), cd115, p0116, (show (V112 1 2).toInt = (V 1 2).toInt ∨ (24 * (b : Int) ≤ (V112 1 2).toInt ∧ (V112 1 2).toInt < 24 * (b : Int) + 24) from by first | omega | ((try (have i_tx := Imp.go tx (by omega))); (try (have i_cd := Imp.go cd (by omega))); (try (have i_cd := Imp.go cd (by omega))); (try (have i_tx := Imp.go tx (by omega))); omega)), (Imp.mk (fun hp => have hp : z108.toInt = 0 := hp; (show 1 ≤ (V112 1 3).toInt from by first | exact om_f8d8213eda45 t111 | first | omega | ((try (have i_tx := Imp.go tx (by omega))); (try (have i_cd := Imp.go cd (by omega))); (try (have i_cd := Imp.go cd (by omega))); (try (have i_tx := Imp.go tx (by omega))); omega))))⟩, by rw [ht]; exact hP, va_K.moved hW.alike hK, hD⟩, hS.F ht⟩) hS.2.2 dX1_readStatement_81
