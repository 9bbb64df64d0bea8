theorem n601 : lw_tbl[601]? = some (Cond.fieldLinkNest RX1 113 "WiringHouse$Book" "names" "LWiringHouse$Names;" "WiringHouse") := by decide +kernel
theorem n616 : lw_tbl[616]? = some (Cond.fieldLinkNest RX1 116 "WiringHouse$Book" "components" "[LWiringHouse$Component;" "WiringHouse") := by decide +kernel
theorem n484 : lw_tbl[484]? = some (Cond.fieldLinkNest RX1 120 "WiringHouse$Names" "size" "I" "WiringHouse") := by decide +kernel
theorem w917 : Cond.code yX3_clear cX3_clear 1 none ∈ GW := gw_mem 917 (by decide +kernel) rfl
theorem w914 : Cond.methodLink RX1 123 yX3_clear ∈ GW := gw_mem 914 (by decide +kernel) rfl
theorem w915 : Cond.instanceMethod yX3_clear ∈ GW := gw_mem 915 (by decide +kernel) rfl
theorem w916 : Cond.selects RX3 yX3_clear yX3_clear ∈ GW := gw_mem 916 (by decide +kernel) rfl
theorem hdV_yX3_clear : yX3_clear.cls = RX3 ∧ yX3_clear.cls ≠ "java/lang/invoke/MethodHandle" ∧ yX3_clear.cls ≠ "java/lang/invoke/VarHandle" ∧ (parseMethodDescriptor yX3_clear.desc).map (fun d => d.parameters.length) = some 0 := by decide +kernel
theorem n516 : lw_tbl[516]? = some (Cond.fieldLinkNest RX1 126 "WiringHouse$Component" "under" "I" "WiringHouse") := by decide +kernel
theorem n520 : lw_tbl[520]? = some (Cond.fieldLinkNest RX1 127 "WiringHouse$Component" "scope" "I" "WiringHouse") := by decide +kernel
theorem w922 : Cond.code yX1_readExtras cX1_readExtras 2 (some .boolean) ∈ GW := gw_mem 922 (by decide +kernel) rfl
theorem w919 : Cond.methodLink RX1 130 yX1_readExtras ∈ GW := gw_mem 919 (by decide +kernel) rfl
theorem w921 : Cond.instanceMethod yX1_readExtras ∈ GW := gw_mem 921 (by decide +kernel) rfl
theorem w14 : Cond.selects RX1 yX1_readExtras yX1_readExtras ∈ GW := gw_mem 14 (by decide +kernel) rfl
theorem hdV_yX1_readExtras : yX1_readExtras.cls = RX1 ∧ yX1_readExtras.cls ≠ "java/lang/invoke/MethodHandle" ∧ yX1_readExtras.cls ≠ "java/lang/invoke/VarHandle" ∧ (parseMethodDescriptor yX1_readExtras.desc).map (fun d => d.parameters.length) = some 1 := by decide +kernel
theorem w862 : Cond.code yX1_readType cX1_readType 4 (some .boolean) ∈ GW := gw_mem 862 (by decide +kernel) rfl
theorem w859 : Cond.methodLink RX1 51 yX1_readType ∈ GW := gw_mem 859 (by decide +kernel) rfl
theorem w861 : Cond.instanceMethod yX1_readType ∈ GW := gw_mem 861 (by decide +kernel) rfl
theorem w5 : Cond.selects RX1 yX1_readType yX1_readType ∈ GW := gw_mem 5 (by decide +kernel) rfl
theorem hdV_yX1_readType : yX1_readType.cls = RX1 ∧ yX1_readType.cls ≠ "java/lang/invoke/MethodHandle" ∧ yX1_readType.cls ≠ "java/lang/invoke/VarHandle" ∧ (parseMethodDescriptor yX1_readType.desc).map (fun d => d.parameters.length) = some 0 := by decide +kernel
theorem w904 : Cond.code yX1_readSetting cX1_readSetting 4 (some .boolean) ∈ GW := gw_mem 904 (by decide +kernel) rfl
theorem w901 : Cond.methodLink RX1 54 yX1_readSetting ∈ GW := gw_mem 901 (by decide +kernel) rfl
theorem w903 : Cond.instanceMethod yX1_readSetting ∈ GW := gw_mem 903 (by decide +kernel) rfl
theorem w11 : Cond.selects RX1 yX1_readSetting yX1_readSetting ∈ GW := gw_mem 11 (by decide +kernel) rfl
theorem hdV_yX1_readSetting : yX1_readSetting.cls = RX1 ∧ yX1_readSetting.cls ≠ "java/lang/invoke/MethodHandle" ∧ yX1_readSetting.cls ≠ "java/lang/invoke/VarHandle" ∧ (parseMethodDescriptor yX1_readSetting.desc).map (fun d => d.parameters.length) = some 0 := by decide +kernel
theorem w913 : Cond.code yX1_readComponent cX1_readComponent 4 (some .boolean) ∈ GW := gw_mem 913 (by decide +kernel) rfl
theorem w910 : Cond.methodLink RX1 57 yX1_readComponent ∈ GW := gw_mem 910 (by decide +kernel) rfl
theorem w912 : Cond.instanceMethod yX1_readComponent ∈ GW := gw_mem 912 (by decide +kernel) rfl
theorem w13 : Cond.selects RX1 yX1_readComponent yX1_readComponent ∈ GW := gw_mem 13 (by decide +kernel) rfl
theorem hdV_yX1_readComponent : yX1_readComponent.cls = RX1 ∧ yX1_readComponent.cls ≠ "java/lang/invoke/MethodHandle" ∧ yX1_readComponent.cls ≠ "java/lang/invoke/VarHandle" ∧ (parseMethodDescriptor yX1_readComponent.desc).map (fun d => d.parameters.length) = some 0 := by decide +kernel
theorem w938 : Cond.code yX1_readWrap cX1_readWrap 6 (some .boolean) ∈ GW := gw_mem 938 (by decide +kernel) rfl
theorem w935 : Cond.methodLink RX1 60 yX1_readWrap ∈ GW := gw_mem 935 (by decide +kernel) rfl
theorem w937 : Cond.instanceMethod yX1_readWrap ∈ GW := gw_mem 937 (by decide +kernel) rfl
theorem w18 : Cond.selects RX1 yX1_readWrap yX1_readWrap ∈ GW := gw_mem 18 (by decide +kernel) rfl
theorem hdV_yX1_readWrap : yX1_readWrap.cls = RX1 ∧ yX1_readWrap.cls ≠ "java/lang/invoke/MethodHandle" ∧ yX1_readWrap.cls ≠ "java/lang/invoke/VarHandle" ∧ (parseMethodDescriptor yX1_readWrap.desc).map (fun d => d.parameters.length) = some 0 := by decide +kernel
theorem dX1_readComponent_0 : decode cX1_readComponent 0 = .ok (.aload_n 0, 1) := by decide +kernel
theorem dX1_readComponent_1 : decode cX1_readComponent 1 = .ok (.getfield 15, 3) := by decide +kernel
theorem dX1_readComponent_4 : decode cX1_readComponent 4 = .ok (.getfield 113, 3) := by decide +kernel
theorem dX1_readComponent_7 : decode cX1_readComponent 7 = .ok (.invokevirtual 67, 3) := by decide +kernel
theorem dX1_readComponent_10 : decode cX1_readComponent 10 = .ok (.ifCond .eq 9, 3) := by decide +kernel
theorem dX1_readComponent_19 : decode cX1_readComponent 19 = .ok (.aload_n 0, 1) := by decide +kernel
theorem dX1_readComponent_20 : decode cX1_readComponent 20 = .ok (.getfield 9, 3) := by decide +kernel
theorem dX1_readComponent_23 : decode cX1_readComponent 23 = .ok (.invokevirtual 72, 3) := by decide +kernel
theorem dX1_readComponent_26 : decode cX1_readComponent 26 = .ok (.aload_n 0, 1) := by decide +kernel
theorem dX1_readComponent_27 : decode cX1_readComponent 27 = .ok (.invokevirtual 75, 3) := by decide +kernel
theorem dX1_readComponent_30 : decode cX1_readComponent 30 = .ok (.ifCond .ne 5, 3) := by decide +kernel
theorem dX1_readComponent_35 : decode cX1_readComponent 35 = .ok (.aload_n 0, 1) := by decide +kernel
theorem dX1_readComponent_36 : decode cX1_readComponent 36 = .ok (.getfield 78, 3) := by decide +kernel
theorem dX1_readComponent_39 : decode cX1_readComponent 39 = .ok (.lstore_n 1, 1) := by decide +kernel
theorem dX1_readComponent_40 : decode cX1_readComponent 40 = .ok (.aload_n 0, 1) := by decide +kernel
theorem dX1_readComponent_41 : decode cX1_readComponent 41 = .ok (.sipush 132, 3) := by decide +kernel
theorem dX1_readComponent_44 : decode cX1_readComponent 44 = .ok (.invokevirtual 88, 3) := by decide +kernel
theorem dX1_readComponent_47 : decode cX1_readComponent 47 = .ok (.ifCond .eq 10, 3) := by decide +kernel
theorem dX1_readComponent_57 : decode cX1_readComponent 57 = .ok (.iconst 0, 1) := by decide +kernel
theorem dX1_readComponent_58 : decode cX1_readComponent 58 = .ok (.ireturn, 1) := by decide +kernel
theorem dX1_readComponent_50 : decode cX1_readComponent 50 = .ok (.aload_n 0, 1) := by decide +kernel
theorem dX1_readComponent_51 : decode cX1_readComponent 51 = .ok (.invokevirtual 85, 3) := by decide +kernel
theorem dX1_readComponent_54 : decode cX1_readComponent 54 = .ok (.ifCond .ne 5, 3) := by decide +kernel
theorem dX1_readComponent_59 : decode cX1_readComponent 59 = .ok (.aload_n 0, 1) := by decide +kernel
theorem dX1_readComponent_60 : decode cX1_readComponent 60 = .ok (.getfield 9, 3) := by decide +kernel
theorem dX1_readComponent_63 : decode cX1_readComponent 63 = .ok (.getfield 37, 3) := by decide +kernel
theorem dX1_readComponent_66 : decode cX1_readComponent 66 = .ok (.sipush 148, 3) := by decide +kernel
theorem dX1_readComponent_69 : decode cX1_readComponent 69 = .ok (.if_icmp .lt 16, 3) := by decide +kernel
theorem dX1_readComponent_85 : decode cX1_readComponent 85 = .ok (.aload_n 0, 1) := by decide +kernel
theorem dX1_readComponent_86 : decode cX1_readComponent 86 = .ok (.iconst 1, 1) := by decide +kernel
theorem dX1_readComponent_87 : decode cX1_readComponent 87 = .ok (.invokevirtual 47, 3) := by decide +kernel
theorem dX1_readComponent_90 : decode cX1_readComponent 90 = .ok (.ireturn, 1) := by decide +kernel
theorem dX1_readComponent_72 : decode cX1_readComponent 72 = .ok (.aload_n 0, 1) := by decide +kernel
theorem dX1_readComponent_73 : decode cX1_readComponent 73 = .ok (.getfield 9, 3) := by decide +kernel
theorem dX1_readComponent_76 : decode cX1_readComponent 76 = .ok (.getfield 37, 3) := by decide +kernel
theorem dX1_readComponent_79 : decode cX1_readComponent 79 = .ok (.sipush 151, 3) := by decide +kernel
theorem dX1_readComponent_82 : decode cX1_readComponent 82 = .ok (.if_icmp .le 9, 3) := by decide +kernel
theorem dX1_readComponent_91 : decode cX1_readComponent 91 = .ok (.aload_n 0, 1) := by decide +kernel
theorem dX1_readComponent_92 : decode cX1_readComponent 92 = .ok (.getfield 15, 3) := by decide +kernel
theorem dX1_readComponent_95 : decode cX1_readComponent 95 = .ok (.getfield 116, 3) := by decide +kernel
theorem dX1_readComponent_98 : decode cX1_readComponent 98 = .ok (.aload_n 0, 1) := by decide +kernel
theorem dX1_readComponent_99 : decode cX1_readComponent 99 = .ok (.getfield 15, 3) := by decide +kernel
theorem dX1_readComponent_102 : decode cX1_readComponent 102 = .ok (.getfield 113, 3) := by decide +kernel
theorem dX1_readComponent_105 : decode cX1_readComponent 105 = .ok (.getfield 120, 3) := by decide +kernel
theorem dX1_readComponent_108 : decode cX1_readComponent 108 = .ok (.aaload, 1) := by decide +kernel
theorem dX1_readComponent_109 : decode cX1_readComponent 109 = .ok (.astore_n 3, 1) := by decide +kernel
theorem dX1_readComponent_110 : decode cX1_readComponent 110 = .ok (.aload_n 3, 1) := by decide +kernel
theorem dX1_readComponent_111 : decode cX1_readComponent 111 = .ok (.invokevirtual 123, 3) := by decide +kernel
theorem dX1_readComponent_114 : decode cX1_readComponent 114 = .ok (.aload_n 3, 1) := by decide +kernel
theorem dX1_readComponent_115 : decode cX1_readComponent 115 = .ok (.aload_n 0, 1) := by decide +kernel
theorem dX1_readComponent_116 : decode cX1_readComponent 116 = .ok (.getfield 82, 3) := by decide +kernel
theorem dX1_readComponent_119 : decode cX1_readComponent 119 = .ok (.putfield 126, 3) := by decide +kernel
theorem dX1_readComponent_122 : decode cX1_readComponent 122 = .ok (.aload_n 3, 1) := by decide +kernel
theorem dX1_readComponent_123 : decode cX1_readComponent 123 = .ok (.aload_n 0, 1) := by decide +kernel
theorem dX1_readComponent_124 : decode cX1_readComponent 124 = .ok (.getfield 9, 3) := by decide +kernel
theorem dX1_readComponent_127 : decode cX1_readComponent 127 = .ok (.getfield 37, 3) := by decide +kernel
theorem dX1_readComponent_130 : decode cX1_readComponent 130 = .ok (.sipush 148, 3) := by decide +kernel
theorem dX1_readComponent_133 : decode cX1_readComponent 133 = .ok (.isub, 1) := by decide +kernel
theorem dX1_readComponent_134 : decode cX1_readComponent 134 = .ok (.putfield 127, 3) := by decide +kernel
theorem dX1_readComponent_137 : decode cX1_readComponent 137 = .ok (.aload_n 0, 1) := by decide +kernel
theorem dX1_readComponent_138 : decode cX1_readComponent 138 = .ok (.getfield 9, 3) := by decide +kernel
theorem dX1_readComponent_141 : decode cX1_readComponent 141 = .ok (.invokevirtual 72, 3) := by decide +kernel
theorem dX1_readComponent_144 : decode cX1_readComponent 144 = .ok (.aload_n 0, 1) := by decide +kernel
theorem dX1_readComponent_145 : decode cX1_readComponent 145 = .ok (.aload_n 3, 1) := by decide +kernel
theorem dX1_readComponent_146 : decode cX1_readComponent 146 = .ok (.invokevirtual 130, 3) := by decide +kernel
theorem dX1_readComponent_149 : decode cX1_readComponent 149 = .ok (.ifCond .eq 12, 3) := by decide +kernel
theorem dX1_readComponent_161 : decode cX1_readComponent 161 = .ok (.iconst 0, 1) := by decide +kernel
theorem dX1_readComponent_162 : decode cX1_readComponent 162 = .ok (.ireturn, 1) := by decide +kernel
theorem dX1_readComponent_152 : decode cX1_readComponent 152 = .ok (.aload_n 0, 1) := by decide +kernel
theorem dX1_readComponent_153 : decode cX1_readComponent 153 = .ok (.bipush 123, 2) := by decide +kernel
theorem dX1_readComponent_155 : decode cX1_readComponent 155 = .ok (.invokevirtual 88, 3) := by decide +kernel
theorem dX1_readComponent_158 : decode cX1_readComponent 158 = .ok (.ifCond .ne 5, 3) := by decide +kernel
theorem dX1_readComponent_163 : decode cX1_readComponent 163 = .ok (.aload_n 0, 1) := by decide +kernel
theorem dX1_readComponent_164 : decode cX1_readComponent 164 = .ok (.getfield 15, 3) := by decide +kernel
theorem dX1_readComponent_167 : decode cX1_readComponent 167 = .ok (.getfield 113, 3) := by decide +kernel
theorem dX1_readComponent_170 : decode cX1_readComponent 170 = .ok (.lload_n 1, 1) := by decide +kernel
theorem dX1_readComponent_171 : decode cX1_readComponent 171 = .ok (.invokevirtual 91, 3) := by decide +kernel
theorem dX1_readComponent_174 : decode cX1_readComponent 174 = .ok (.pop, 1) := by decide +kernel
theorem dX1_readComponent_175 : decode cX1_readComponent 175 = .ok (.aload_n 0, 1) := by decide +kernel
theorem dX1_readComponent_176 : decode cX1_readComponent 176 = .ok (.aload_n 3, 1) := by decide +kernel
theorem dX1_readComponent_177 : decode cX1_readComponent 177 = .ok (.putfield 24, 3) := by decide +kernel
theorem dX1_readComponent_180 : decode cX1_readComponent 180 = .ok (.iconst 1, 1) := by decide +kernel
theorem dX1_readComponent_181 : decode cX1_readComponent 181 = .ok (.ireturn, 1) := by decide +kernel
theorem dX1_readComponent_33 : decode cX1_readComponent 33 = .ok (.iconst 0, 1) := by decide +kernel
theorem dX1_readComponent_34 : decode cX1_readComponent 34 = .ok (.ireturn, 1) := by decide +kernel
theorem dX1_readComponent_13 : decode cX1_readComponent 13 = .ok (.aload_n 0, 1) := by decide +kernel
theorem dX1_readComponent_14 : decode cX1_readComponent 14 = .ok (.iconst 5, 1) := by decide +kernel
theorem dX1_readComponent_15 : decode cX1_readComponent 15 = .ok (.invokevirtual 47, 3) := by decide +kernel
theorem dX1_readComponent_18 : decode cX1_readComponent 18 = .ok (.ireturn, 1) := by decide +kernel
theorem dX1_readStatement_0 : decode cX1_readStatement 0 = .ok (.aload_n 0, 1) := by decide +kernel
theorem dX1_readStatement_1 : decode cX1_readStatement 1 = .ok (.getfield 9, 3) := by decide +kernel
theorem dX1_readStatement_4 : decode cX1_readStatement 4 = .ok (.getfield 37, 3) := by decide +kernel
theorem dX1_readStatement_7 : decode cX1_readStatement 7 = .ok (.tableswitch 69 128 136 #[49, 69, 54, 59, 69, 69, 69, 69, 64], 49) := by decide +kernel
theorem dX1_readStatement_56 : decode cX1_readStatement 56 = .ok (.aload_n 0, 1) := by decide +kernel
theorem dX1_readStatement_57 : decode cX1_readStatement 57 = .ok (.invokevirtual 51, 3) := by decide +kernel
theorem dX1_readStatement_60 : decode cX1_readStatement 60 = .ok (.ireturn, 1) := by decide +kernel
theorem dX1_readStatement_76 : decode cX1_readStatement 76 = .ok (.aload_n 0, 1) := by decide +kernel
theorem dX1_readStatement_77 : decode cX1_readStatement 77 = .ok (.iconst 1, 1) := by decide +kernel
theorem dX1_readStatement_78 : decode cX1_readStatement 78 = .ok (.invokevirtual 47, 3) := by decide +kernel
theorem dX1_readStatement_81 : decode cX1_readStatement 81 = .ok (.ireturn, 1) := by decide +kernel
theorem dX1_readStatement_61 : decode cX1_readStatement 61 = .ok (.aload_n 0, 1) := by decide +kernel
theorem dX1_readStatement_62 : decode cX1_readStatement 62 = .ok (.invokevirtual 54, 3) := by decide +kernel
theorem dX1_readStatement_65 : decode cX1_readStatement 65 = .ok (.ireturn, 1) := by decide +kernel
theorem dX1_readStatement_66 : decode cX1_readStatement 66 = .ok (.aload_n 0, 1) := by decide +kernel
theorem dX1_readStatement_67 : decode cX1_readStatement 67 = .ok (.invokevirtual 57, 3) := by decide +kernel
theorem dX1_readStatement_70 : decode cX1_readStatement 70 = .ok (.ireturn, 1) := by decide +kernel
theorem dX1_readStatement_71 : decode cX1_readStatement 71 = .ok (.aload_n 0, 1) := by decide +kernel
theorem dX1_readStatement_72 : decode cX1_readStatement 72 = .ok (.invokevirtual 60, 3) := by decide +kernel
theorem dX1_readStatement_75 : decode cX1_readStatement 75 = .ok (.ireturn, 1) := by decide +kernel
abbrev r_x_readComponent : Room := { frames := 4, cells := 0, slots := 0, locals := 85 }
abbrev q_x_readComponent (D : va_G) (ks : KS) (ad : Nat → Nat) (kk : Nat → ClassId) (V : Vf) (L : Lf) (Z : XZ) (b : Nat) (A : Nat → Prop) : Array Value → State → Outcome → State → Prop := va_Qi (fun (r : Int32) (u : Vf × Lf) => rgd bX u.1 ∧ agr [(1, 2), (1, 3), (1, 6), (1, 7), (1, 8), (6, 8), (6, 9), (6, 10)] [43, 44, 49, 50, 51, 52, 53, 54, 55, 56, 57, 61] V u.1 ∧ agL [1, 6, 44] L u.2 ∧ frX (xR b) V u.1 ∧ (0 ≤ r.toInt ∧ r.toInt ≤ 1) ∧ (Imp (r.toInt = 1) (TX u.1 b)) ∧ (CD u.1 b) ∧ (p0x V u.1 b) ∧ ((u.1 1 2).toInt = (V 1 2).toInt ∨ (24 * (b : Int) ≤ (u.1 1 2).toInt ∧ (u.1 1 2).toInt < 24 * (b : Int) + 24))) (fun u t => gq D A (xw ad kk u.1 u.2 Z) (xty kk Z) t) A
set_option maxHeartbeats 4000000 in
set_option maxRecDepth 100000 in
theorem x_readComponent (l : Launch) (D : va_G) (ks : KS) (sz : Nat) (ad : Nat → Nat) (kk : Nat → ClassId) (V : Vf) (L : Lf) (Z : XZ) (b : Nat) (hMV : rgd bX V) (hb2 : b < 2) (rbk : (V 1 1).toInt = (b : Int)) (cd : CD V b) (tx : TX V b)  : Met l yX1_readComponent (Cond.code yX1_readComponent cX1_readComponent 4 (some .boolean) :: GW) r_x_readComponent (va_Pc [.ref (ad 1)] (gp D ks (xw ad kk V L Z) (xty kk Z) sz)) (q_x_readComponent D ks ad kk V L Z  b (va_A (xw ad kk V L Z) sz)) 0 0 (va_A (xw ad kk V L Z) sz) := by
  refine g_met (q_x_readComponent D ks ad kk V L Z  b) (by decide) (Nat.le_of_ble_eq_true rfl) ?_
  intro p e s m below meth c A ls H locs hx hb hr hml hown hg hlocks hin hnw hgk hP hK hD hS hA hl
  have hown : s.vm.findClass RX1 = some m.cls := hown
  have hl : lv_has ls 4 [(0, .ref (ad 1))] := hl
  have hP : va_P D vwCl (xw ad kk V L Z) H := hP
  have hD : va_D A (xw ad kk V L Z) := hD
  have hK : va_K D vwCl (xty kk Z) s := hK
  have agV : agr [(1, 2), (1, 3), (1, 6), (1, 7), (1, 8), (6, 8), (6, 9), (6, 10)] [43, 44, 49, 50, 51, 52, 53, 54, 55, 56, 57, 61] V V := agr.rf
  have alL : agL [1, 6, 44] L L := agL.rf
  have fwV : frX (xR b) V V := frX.rf
  have r1 : (-1) ≤ ((V 1 1)).toInt ∧ ((V 1 1)).toInt ≤ 1 := hMV 1 1
  refine lv_aload_n hx hb dX1_readComponent_0 rfl (lv_at hl 0 rfl) ?_
  refine va_get (D := D) (ci := 1) (v := rfN ad 38 (V 1 1)) (fs := (xfReader ad V L Z)) (C := RX1) (T := TX1) (N := 9) hx hb hg inX1 hown hK hP 1 xgReader rfl 1 (by decide) (hg _ w305) (fun _ h9 => h9) rfl dX1_readComponent_1 ?_
  refine g_topv (v := .ref (ad (38 + b))) (rfN_r (by first | omega | ((try (have i_tx := Imp.go tx (by omega))); (try (have i_cd := Imp.go cd (by omega))); (try (have i_cd := Imp.go cd (by omega))); (try (have i_tx := Imp.go tx (by omega))); omega))) ?_
  refine va_getN (D := D) (ci := 0) (v := .ref (ad (40 + (5 * b + 2)))) (fs := (xfBook ad V b)) (C := RX0) (T := TX0) (N := 13) hx hb hg inX0 hown hK hP (38 + b) (xgBook hb2) rfl 2 (by decide) (hnw.use 601 n601 rfl) (fun _ h9 => h9) rfl dX1_readComponent_4 ?_
  have il2 : (5 * b + 2) < 10 := by first | omega | ((try (have i_tx := Imp.go tx (by omega))); (try (have i_cd := Imp.go cd (by omega))); (try (have i_cd := Imp.go cd (by omega))); (try (have i_tx := Imp.go tx (by omega))); omega)
  refine gA_int (gA_runV (As := []) (rest := []) (ci := 6) (q0 := (40 + (5 * b + 2))) hx hb hml hown hg hP hD hK hS hA hnw hgk (x_isFull l D ks H.size ad kk V L Z ((5 * b + 2)) hMV (show (5 * b + 2) < 10 from by first | omega | ((try (have i_tx := Imp.go tx (by omega))); (try (have i_cd := Imp.go cd (by omega))); (try (have i_cd := Imp.go cd (by omega))); (try (have i_tx := Imp.go tx (by omega))); omega))) w863 w864 w865 w168 w866 rfl (xgNames il2) hdV_yX6_isFull ⟨Nat.le_of_ble_eq_true rfl, Nat.le_of_ble_eq_true rfl⟩ rfl hl.1 rfl (Nat.le_of_ble_eq_true rfl) dX1_readComponent_7 ⟨Nat.le_of_ble_eq_true rfl, Nat.le_of_ble_eq_true rfl⟩) hP hD hK hS hA (fun z3 u4 H locs w5 hP hD hK hS => ?_)
  obtain ⟨rgz3, t6⟩ := w5
  have rgz3 : 0 ≤ z3.toInt ∧ z3.toInt ≤ 1 := rgz3
  have t6 : Imp (z3.toInt = 0) ((V 43 (5 * b + 2)).toInt < ((xcap (5 * b + 2) : Nat) : Int)) := t6
  refine lv_if_eq (tgt := 19) hx hb dX1_readComponent_10 (by decide) (fun c7 => ?_) (fun c7 => ?_)
  · skip
    have f8 : z3.toInt = 0 := b_eq rfl (by decide) c7
    refine lv_aload_n hx hb dX1_readComponent_19 rfl (lv_at hl 0 rfl) ?_
    have r9 : xcap (5 * b + 2) = 24 := xcap_2
    refine va_get (D := D) (ci := 1) (v := .ref (ad 6)) (fs := (xfReader ad V L Z)) (C := RX1) (T := TX1) (N := 9) hx hb hg inX1 hown hK hP 1 xgReader rfl 0 (by decide) (hg _ w304) (fun _ h9 => h9) rfl dX1_readComponent_20 ?_
    refine gA_void (gA_runV (As := []) (rest := []) (ci := 9) (q0 := 6) hx hb hml hown hg hP hD hK hS hA hnw hgk (x_next l D ks H.size ad kk V L Z  hMV ) w871 w852 w853 w157 w854 rfl xgTape hdV_yX9_next ⟨Nat.le_of_ble_eq_true rfl, Nat.le_of_ble_eq_true rfl⟩ rfl hl.1 rfl (Nat.le_of_ble_eq_true rfl) dX1_readComponent_23 ⟨Nat.le_of_ble_eq_true rfl, Nat.le_of_ble_eq_true rfl⟩) hP hD hK hS hA (fun u11 H locs w12 hP hD hK hS => ?_)
    obtain ⟨V13, L14⟩ := u11
    obtain ⟨hMV13, ajV13, axL14⟩ := w12
    have alL14 : agL [1, 6, 44] L L14 := agL.tr alL axL14 (by decide)
    have hP : va_P D vwCl (xw ad kk V13 L14 Z) H := hP
    have hD : va_D A (xw ad kk V13 L14 Z) := hD
    have hMV13 : rgd bX V13 := hMV13
    have ajV13 : agr [(6, 8), (6, 9), (6, 10)] [] V V13 := ajV13
    have agV13 : agr [(1, 2), (1, 3), (1, 6), (1, 7), (1, 8), (6, 8), (6, 9), (6, 10)] [43, 44, 49, 50, 51, 52, 53, 54, 55, 56, 57, 61] V V13 := agV.tr ajV13 (by decide) (by decide)
    have fwV13 : frX (xR b) V V13 := frX.tr fwV (frX.ag ajV13 (by decide) (by decide))
    refine lv_aload_n hx hb dX1_readComponent_26 rfl (lv_at hl 0 rfl) ?_
    have pq15 : (V13 1 1).toInt = ((V 1 1)).toInt := congrArg Int32.toInt (ajV13 1 1 rfl)
    refine gA_int (gA_runV (As := []) (rest := []) (ci := 1) (q0 := 1) hx hb hml hown hg hP hD hK hS hA hnw hgk (x_takeNewName l D ks H.size ad kk V13 L14 Z (b) hMV13 (show b < 2 from by first | omega | ((try (have i_t6 := Imp.go t6 (by omega))); (try (have i_tx := Imp.go tx (by omega))); (try (have i_cd := Imp.go cd (by omega))); (try (have i_cd := Imp.go cd (by omega))); (try (have i_tx := Imp.go tx (by omega))); (try (have i_t6 := Imp.go t6 (by omega))); omega)) (show (V13 1 1).toInt = (b : Int) from by first | omega | ((try (have i_t6 := Imp.go t6 (by omega))); (try (have i_tx := Imp.go tx (by omega))); (try (have i_cd := Imp.go cd (by omega))); (try (have i_cd := Imp.go cd (by omega))); (try (have i_tx := Imp.go tx (by omega))); (try (have i_t6 := Imp.go t6 (by omega))); omega))) w872 w874 w7 w162 w875 rfl xgReader hdV_yX1_takeNewName ⟨Nat.le_of_ble_eq_true rfl, Nat.le_of_ble_eq_true rfl⟩ rfl hl.1 rfl (Nat.le_of_ble_eq_true rfl) dX1_readComponent_27 ⟨Nat.le_of_ble_eq_true rfl, Nat.le_of_ble_eq_true rfl⟩) hP hD hK hS hA (fun z16 u17 H locs w18 hP hD hK hS => ?_)
    obtain ⟨V19, L20⟩ := u17
    obtain ⟨hMV19, ajV19, axL20, rgz16⟩ := w18
    have alL20 : agL [1, 6, 44] L L20 := agL.tr alL14 axL20 (by decide)
    have hP : va_P D vwCl (xw ad kk V19 L20 Z) H := hP
    have hD : va_D A (xw ad kk V19 L20 Z) := hD
    have hMV19 : rgd bX V19 := hMV19
    have ajV19 : agr [(1, 3), (6, 8), (6, 9), (6, 10)] [] V13 V19 := ajV19
    have agV19 : agr [(1, 2), (1, 3), (1, 6), (1, 7), (1, 8), (6, 8), (6, 9), (6, 10)] [43, 44, 49, 50, 51, 52, 53, 54, 55, 56, 57, 61] V V19 := agV13.tr ajV19 (by decide) (by decide)
    have fwV19 : frX (xR b) V V19 := frX.tr fwV13 (frX.ag ajV19 (by decide) (by decide))
    have rgz16 : 0 ≤ z16.toInt ∧ z16.toInt ≤ 1 := rgz16
    refine lv_if_ne (tgt := 35) hx hb dX1_readComponent_30 (by decide) (fun c21 => ?_) (fun c21 => ?_)
    · skip
      have f22 : z16.toInt ≠ 0 := b_neq rfl (by decide) c21
      refine lv_aload_n hx hb dX1_readComponent_35 rfl (lv_at hl 0 rfl) ?_
      refine va_get (D := D) (ci := 1) (v := .long (L20 1 5)) (fs := (xfReader ad V19 L20 Z)) (C := RX1) (T := TX1) (N := 9) hx hb hg inX1 hown hK hP 1 xgReader rfl 5 (by decide) (hg _ w309) (fun _ h9 => h9) rfl dX1_readComponent_36 ?_
      refine lv_topl (fun w23 ew23 => ?_)
      refine lv_lstore_n (lv' := [(1, .long w23), (0, .ref (ad 1))]) hx hb dX1_readComponent_39 rfl hl (by decide) rfl (fun ls hl => ?_)
      refine lv_aload_n hx hb dX1_readComponent_40 rfl (lv_at hl 1 rfl) ?_
      refine lv_sipush (v := 132) hx hb dX1_readComponent_41 (by decide) ?_
      have r24 : Int32.toInt 132 = 132 := by decide
      refine gA_int (gA_runV (As := [.int 132]) (rest := []) (ci := 1) (q0 := 1) hx hb hml hown hg hP hD hK hS hA hnw hgk (x_take l D ks H.size ad kk V19 L20 Z 132 hMV19 ) w893 w895 w10 w162 w896 rfl xgReader hdV_yX1_take ⟨Nat.le_of_ble_eq_true rfl, Nat.le_of_ble_eq_true rfl⟩ rfl hl.1 rfl (Nat.le_of_ble_eq_true rfl) dX1_readComponent_44 ⟨Nat.le_of_ble_eq_true rfl, Nat.le_of_ble_eq_true rfl⟩) hP hD hK hS hA (fun z25 u26 H locs w27 hP hD hK hS => ?_)
      obtain ⟨V28, L29⟩ := u26
      obtain ⟨hMV28, ajV28, axL29, rgz25⟩ := w27
      have alL29 : agL [1, 6, 44] L L29 := agL.tr alL20 axL29 (by decide)
      have hP : va_P D vwCl (xw ad kk V28 L29 Z) H := hP
      have hD : va_D A (xw ad kk V28 L29 Z) := hD
      have hMV28 : rgd bX V28 := hMV28
      have ajV28 : agr [(1, 3), (6, 8), (6, 9), (6, 10)] [] V19 V28 := ajV28
      have agV28 : agr [(1, 2), (1, 3), (1, 6), (1, 7), (1, 8), (6, 8), (6, 9), (6, 10)] [43, 44, 49, 50, 51, 52, 53, 54, 55, 56, 57, 61] V V28 := agV19.tr ajV28 (by decide) (by decide)
      have fwV28 : frX (xR b) V V28 := frX.tr fwV19 (frX.ag ajV28 (by decide) (by decide))
      have rgz25 : 0 ≤ z25.toInt ∧ z25.toInt ≤ 1 := rgz25
      refine lv_if_eq (tgt := 57) hx hb dX1_readComponent_47 (by decide) (fun c30 => ?_) (fun c30 => ?_)
      · skip
        have f31 : z25.toInt = 0 := b_eq rfl (by decide) c30
        refine lv_iconst (v := 0) hx hb dX1_readComponent_57 (by decide) ?_
        have pq32 : (V28 1 2).toInt = ((V 1 2)).toInt := congrArg Int32.toInt ((ajV28 1 2 rfl).trans ((ajV19 1 2 rfl).trans (ajV13 1 2 rfl)))
        have r33 : (-1) ≤ ((V 1 2)).toInt ∧ ((V 1 2)).toInt ≤ 47 := hMV 1 2
        have cd34 : CD V28 b := ⟨CB.ag cd.1 (show agr [(1, 3), (6, 8), (6, 9), (6, 10)] [] V V28 from (agr.tr (agr.tr (agr.tr agr.rf ajV13 (by decide) (by decide)) ajV19 (by decide) (by decide)) ajV28 (by decide) (by decide))) (fun _ => rfl) (fun _ => rfl), CO.ag cd.2 (show agr [(1, 3), (6, 8), (6, 9), (6, 10)] [] V V28 from (agr.tr (agr.tr (agr.tr agr.rf ajV13 (by decide) (by decide)) ajV19 (by decide) (by decide)) ajV28 (by decide) (by decide))) (fun _ => rfl) (fun _ => rfl)⟩
        have p035 : p0x V V13 b := p0x.tr (p0x.rf : p0x V V b) (p0x.ag (show agr [(6, 8), (6, 9), (6, 10)] [] V V13 from (agr.tr agr.rf ajV13 (by decide) (by decide))) (fun _ => rfl) (fun _ => rfl))
        have p036 : p0x V V19 b := p0x.tr p035 (p0x.ag (show agr [(1, 3), (6, 8), (6, 9), (6, 10)] [] V13 V19 from (agr.tr agr.rf ajV19 (by decide) (by decide))) (fun _ => rfl) (fun _ => rfl))
        have p037 : p0x V V28 b := p0x.tr p036 (p0x.ag (show agr [(1, 3), (6, 8), (6, 9), (6, 10)] [] V19 V28 from (agr.tr agr.rf ajV28 (by decide) (by decide))) (fun _ => rfl) (fun _ => rfl))
        exact W.zret (v := 0) hx hb hr rfl (fun t ht hW => ⟨⟨0, (V28, L29), rfl, ⟨hMV28, agV28, alL29, fwV28, (by decide), (Imp.mk (fun hp => absurd hp (by decide))), cd34, p037, (show (V28 1 2).toInt = (V 1 2).toInt ∨ (24 * (b : Int) ≤ (V28 1 2).toInt ∧ (V28 1 2).toInt < 24 * (b : Int) + 24) from by first | omega | ((try (have i_t6 := Imp.go t6 (by omega))); (try (have i_tx := Imp.go tx (by omega))); (try (have i_cd := Imp.go cd (by omega))); (try (have i_cd := Imp.go cd (by omega))); (try (have i_tx := Imp.go tx (by omega))); (try (have i_t6 := Imp.go t6 (by omega))); omega))⟩, by rw [ht]; exact hP, va_K.moved hW.alike hK, hD⟩, hS.F ht⟩) hS.2.2 dX1_readComponent_58
      · skip
        have f38 : z25.toInt ≠ 0 := b_neq rfl (by decide) c30
        refine lv_aload_n hx hb dX1_readComponent_50 rfl (lv_at hl 1 rfl) ?_
        have pq39 : (V28 1 1).toInt = ((V 1 1)).toInt := congrArg Int32.toInt ((ajV28 1 1 rfl).trans ((ajV19 1 1 rfl).trans (ajV13 1 1 rfl)))
        refine gA_int (gA_runV (As := []) (rest := []) (ci := 1) (q0 := 1) hx hb hml hown hg hP hD hK hS hA hnw hgk (x_takeTypes l D ks H.size ad kk V28 L29 Z (b) hMV28 (show b < 2 from by first | omega | ((try (have i_t6 := Imp.go t6 (by omega))); (try (have i_tx := Imp.go tx (by omega))); (try (have i_cd := Imp.go cd (by omega))); (try (have i_cd := Imp.go cd (by omega))); (try (have i_tx := Imp.go tx (by omega))); (try (have i_t6 := Imp.go t6 (by omega))); omega)) (show (V28 1 1).toInt = (b : Int) from by first | omega | ((try (have i_t6 := Imp.go t6 (by omega))); (try (have i_tx := Imp.go tx (by omega))); (try (have i_cd := Imp.go cd (by omega))); (try (have i_cd := Imp.go cd (by omega))); (try (have i_tx := Imp.go tx (by omega))); (try (have i_t6 := Imp.go t6 (by omega))); omega))) w884 w886 w8 w162 w887 rfl xgReader hdV_yX1_takeTypes ⟨Nat.le_of_ble_eq_true rfl, Nat.le_of_ble_eq_true rfl⟩ rfl hl.1 rfl (Nat.le_of_ble_eq_true rfl) dX1_readComponent_51 ⟨Nat.le_of_ble_eq_true rfl, Nat.le_of_ble_eq_true rfl⟩) hP hD hK hS hA (fun z40 u41 H locs w42 hP hD hK hS => ?_)
        obtain ⟨V43, L44⟩ := u41
        obtain ⟨hMV43, ajV43, axL44, rgz40⟩ := w42
        have alL44 : agL [1, 6, 44] L L44 := agL.tr alL29 axL44 (by decide)
        have hP : va_P D vwCl (xw ad kk V43 L44 Z) H := hP
        have hD : va_D A (xw ad kk V43 L44 Z) := hD
        have hMV43 : rgd bX V43 := hMV43
        have ajV43 : agr [(1, 3), (1, 6), (1, 7), (6, 8), (6, 9), (6, 10)] [] V28 V43 := ajV43
        have agV43 : agr [(1, 2), (1, 3), (1, 6), (1, 7), (1, 8), (6, 8), (6, 9), (6, 10)] [43, 44, 49, 50, 51, 52, 53, 54, 55, 56, 57, 61] V V43 := agV28.tr ajV43 (by decide) (by decide)
        have fwV43 : frX (xR b) V V43 := frX.tr fwV28 (frX.ag ajV43 (by decide) (by decide))
        have rgz40 : 0 ≤ z40.toInt ∧ z40.toInt ≤ 1 := rgz40
        refine lv_if_ne (tgt := 59) hx hb dX1_readComponent_54 (by decide) (fun c45 => ?_) (fun c45 => ?_)
        · skip
          have f46 : z40.toInt ≠ 0 := b_neq rfl (by decide) c45
          refine lv_aload_n hx hb dX1_readComponent_59 rfl (lv_at hl 1 rfl) ?_
          refine va_get (D := D) (ci := 1) (v := .ref (ad 6)) (fs := (xfReader ad V43 L44 Z)) (C := RX1) (T := TX1) (N := 9) hx hb hg inX1 hown hK hP 1 xgReader rfl 0 (by decide) (hg _ w304) (fun _ h9 => h9) rfl dX1_readComponent_60 ?_
          refine va_getN (D := D) (ci := 9) (v := .int (V43 6 9)) (fs := (xfTape ad V43 L44 Z)) (C := RX9) (T := TX9) (N := 12) hx hb hg inX9 hown hK hP 6 xgTape rfl 9 (by decide) (hnw.use 262 n262 rfl) (fun _ h9 => h9) rfl dX1_readComponent_63 ?_
          refine lv_sipush (v := 148) hx hb dX1_readComponent_66 (by decide) ?_
          refine lv_icmp_lt (tgt := 85) hx hb dX1_readComponent_69 (by decide) (fun c47 => ?_) (fun c47 => ?_)
          · skip
            have f48 : ((V43 6 9)).toInt < 148 := b_lt rfl (by decide) c47
            refine lv_aload_n hx hb dX1_readComponent_85 rfl (lv_at hl 1 rfl) ?_
            refine lv_iconst (v := 1) hx hb dX1_readComponent_86 (by decide) ?_
            have r49 : Int32.toInt 1 = 1 := by decide
            refine gA_int (gA_runV (As := [.int 1]) (rest := []) (ci := 1) (q0 := 1) hx hb hml hown hg hP hD hK hS hA hnw hgk (x_wrong l D ks H.size ad kk V43 L44 Z 1 hMV43 ) w867 w869 w6 w162 w870 rfl xgReader hdV_yX1_wrong ⟨Nat.le_of_ble_eq_true rfl, Nat.le_of_ble_eq_true rfl⟩ rfl hl.1 rfl (Nat.le_of_ble_eq_true rfl) dX1_readComponent_87 ⟨Nat.le_of_ble_eq_true rfl, Nat.le_of_ble_eq_true rfl⟩) hP hD hK hS hA (fun z50 u51 H locs w52 hP hD hK hS => ?_)
            obtain ⟨V53, L54⟩ := u51
            obtain ⟨hMV53, ajV53, axL54, rgz50⟩ := w52
            have axL54 : L44 = L54 := Eq.symm axL54
            subst axL54
            have hP : va_P D vwCl (xw ad kk V53 L44 Z) H := hP
            have hD : va_D A (xw ad kk V53 L44 Z) := hD
            have hMV53 : rgd bX V53 := hMV53
            have ajV53 : agr [(1, 3)] [] V43 V53 := ajV53
            have agV53 : agr [(1, 2), (1, 3), (1, 6), (1, 7), (1, 8), (6, 8), (6, 9), (6, 10)] [43, 44, 49, 50, 51, 52, 53, 54, 55, 56, 57, 61] V V53 := agV43.tr ajV53 (by decide) (by decide)
            have fwV53 : frX (xR b) V V53 := frX.tr fwV43 (frX.ag ajV53 (by decide) (by decide))
            have rgz50 : 0 ≤ z50.toInt ∧ z50.toInt ≤ 0 := rgz50
            have pq55 : (V53 1 2).toInt = ((V 1 2)).toInt := congrArg Int32.toInt ((ajV53 1 2 rfl).trans ((ajV43 1 2 rfl).trans ((ajV28 1 2 rfl).trans ((ajV19 1 2 rfl).trans (ajV13 1 2 rfl)))))
            have r56 : (-1) ≤ ((V 1 2)).toInt ∧ ((V 1 2)).toInt ≤ 47 := hMV 1 2
            have cd57 : CD V53 b := ⟨CB.ag cd.1 (show agr [(1, 3), (1, 6), (1, 7), (6, 8), (6, 9), (6, 10)] [] V V53 from (agr.tr (agr.tr (agr.tr (agr.tr (agr.tr agr.rf ajV13 (by decide) (by decide)) ajV19 (by decide) (by decide)) ajV28 (by decide) (by decide)) ajV43 (by decide) (by decide)) ajV53 (by decide) (by decide))) (fun _ => rfl) (fun _ => rfl), CO.ag cd.2 (show agr [(1, 3), (1, 6), (1, 7), (6, 8), (6, 9), (6, 10)] [] V V53 from (agr.tr (agr.tr (agr.tr (agr.tr (agr.tr agr.rf ajV13 (by decide) (by decide)) ajV19 (by decide) (by decide)) ajV28 (by decide) (by decide)) ajV43 (by decide) (by decide)) ajV53 (by decide) (by decide))) (fun _ => rfl) (fun _ => rfl)⟩
            have p058 : p0x V V13 b := p0x.tr (p0x.rf : p0x V V b) (p0x.ag (show agr [(6, 8), (6, 9), (6, 10)] [] V V13 from (agr.tr agr.rf ajV13 (by decide) (by decide))) (fun _ => rfl) (fun _ => rfl))
            have p059 : p0x V V19 b := p0x.tr p058 (p0x.ag (show agr [(1, 3), (6, 8), (6, 9), (6, 10)] [] V13 V19 from (agr.tr agr.rf ajV19 (by decide) (by decide))) (fun _ => rfl) (fun _ => rfl))
            have p060 : p0x V V28 b := p0x.tr p059 (p0x.ag (show agr [(1, 3), (6, 8), (6, 9), (6, 10)] [] V19 V28 from (agr.tr agr.rf ajV28 (by decide) (by decide))) (fun _ => rfl) (fun _ => rfl))
            have p061 : p0x V V43 b := p0x.tr p060 (p0x.ag (show agr [(1, 3), (1, 6), (1, 7), (6, 8), (6, 9), (6, 10)] [] V28 V43 from (agr.tr agr.rf ajV43 (by decide) (by decide))) (fun _ => rfl) (fun _ => rfl))
            have p062 : p0x V V53 b := p0x.tr p061 (p0x.ag (show agr [(1, 3)] [] V43 V53 from (agr.tr agr.rf ajV53 (by decide) (by decide))) (fun _ => rfl) (fun _ => rfl))
            exact W.zret (v := z50) hx hb hr (nb_ok (by omega)) (fun t ht hW => ⟨⟨z50, (V53, L44), rfl, ⟨hMV53, agV53, alL44, fwV53, (show 0 ≤ z50.toInt ∧ z50.toInt ≤ 1 from by first | omega | ((try (have i_t6 := Imp.go t6 (by omega))); (try (have i_tx := Imp.go tx (by omega))); (try (have i_cd := Imp.go cd (by omega))); (try (have i_cd := Imp.go cd (by omega))); (try (have i_tx := Imp.go tx (by omega))); (try (have i_t6 := Imp.go t6 (by omega))); omega)), (Imp.mk (fun hp => by exfalso; first | omega | ((try (have i_t6 := Imp.go t6 (by omega))); (try (have i_tx := Imp.go tx (by omega))); (try (have i_cd := Imp.go cd (by omega))); (try (have i_cd := Imp.go cd (by omega))); (try (have i_tx := Imp.go tx (by omega))); (try (have i_t6 := Imp.go t6 (by omega))); omega))), cd57, p062, (show (V53 1 2).toInt = (V 1 2).toInt ∨ (24 * (b : Int) ≤ (V53 1 2).toInt ∧ (V53 1 2).toInt < 24 * (b : Int) + 24) from by first | omega | ((try (have i_t6 := Imp.go t6 (by omega))); (try (have i_tx := Imp.go tx (by omega))); (try (have i_cd := Imp.go cd (by omega))); (try (have i_cd := Imp.go cd (by omega))); (try (have i_tx := Imp.go tx (by omega))); (try (have i_t6 := Imp.go t6 (by omega))); omega))⟩, by rw [ht]; exact hP, va_K.moved hW.alike hK, hD⟩, hS.F ht⟩) hS.2.2 dX1_readComponent_90
          · skip
            have f63 : 148 ≤ ((V43 6 9)).toInt := b_nlt rfl (by decide) c47
            refine lv_aload_n hx hb dX1_readComponent_72 rfl (lv_at hl 1 rfl) ?_
            refine va_get (D := D) (ci := 1) (v := .ref (ad 6)) (fs := (xfReader ad V43 L44 Z)) (C := RX1) (T := TX1) (N := 9) hx hb hg inX1 hown hK hP 1 xgReader rfl 0 (by decide) (hg _ w304) (fun _ h9 => h9) rfl dX1_readComponent_73 ?_
            refine va_getN (D := D) (ci := 9) (v := .int (V43 6 9)) (fs := (xfTape ad V43 L44 Z)) (C := RX9) (T := TX9) (N := 12) hx hb hg inX9 hown hK hP 6 xgTape rfl 9 (by decide) (hnw.use 262 n262 rfl) (fun _ h9 => h9) rfl dX1_readComponent_76 ?_
            refine lv_sipush (v := 151) hx hb dX1_readComponent_79 (by decide) ?_
            refine lv_icmp_le (tgt := 91) hx hb dX1_readComponent_82 (by decide) (fun c64 => ?_) (fun c64 => ?_)
            · skip
              have f65 : ((V43 6 9)).toInt ≤ 151 := b_le rfl (by decide) c64
              refine lv_aload_n hx hb dX1_readComponent_91 rfl (lv_at hl 1 rfl) ?_
              refine va_get (D := D) (ci := 1) (v := rfN ad 38 (V43 1 1)) (fs := (xfReader ad V43 L44 Z)) (C := RX1) (T := TX1) (N := 9) hx hb hg inX1 hown hK hP 1 xgReader rfl 1 (by decide) (hg _ w305) (fun _ h9 => h9) rfl dX1_readComponent_92 ?_
              have pq66 : (V43 1 1).toInt = ((V 1 1)).toInt := congrArg Int32.toInt ((ajV43 1 1 rfl).trans ((ajV28 1 1 rfl).trans ((ajV19 1 1 rfl).trans (ajV13 1 1 rfl))))
              refine g_topv (v := .ref (ad (38 + b))) (rfN_r (by first | omega | ((try (have i_t6 := Imp.go t6 (by omega))); (try (have i_tx := Imp.go tx (by omega))); (try (have i_cd := Imp.go cd (by omega))); (try (have i_cd := Imp.go cd (by omega))); (try (have i_tx := Imp.go tx (by omega))); (try (have i_t6 := Imp.go t6 (by omega))); omega))) ?_
              refine va_getN (D := D) (ci := 0) (v := .ref (ad (64 + b))) (fs := (xfBook ad V43 b)) (C := RX0) (T := TX0) (N := 13) hx hb hg inX0 hown hK hP (38 + b) (xgBook hb2) rfl 7 (by decide) (hnw.use 616 n616 rfl) (fun _ h9 => h9) rfl dX1_readComponent_95 ?_
              refine lv_aload_n hx hb dX1_readComponent_98 rfl (lv_at hl 1 rfl) ?_
              refine va_get (D := D) (ci := 1) (v := rfN ad 38 (V43 1 1)) (fs := (xfReader ad V43 L44 Z)) (C := RX1) (T := TX1) (N := 9) hx hb hg inX1 hown hK hP 1 xgReader rfl 1 (by decide) (hg _ w305) (fun _ h9 => h9) rfl dX1_readComponent_99 ?_
              refine g_topv (v := .ref (ad (38 + b))) (rfN_r (by first | omega | ((try (have i_t6 := Imp.go t6 (by omega))); (try (have i_tx := Imp.go tx (by omega))); (try (have i_cd := Imp.go cd (by omega))); (try (have i_cd := Imp.go cd (by omega))); (try (have i_tx := Imp.go tx (by omega))); (try (have i_t6 := Imp.go t6 (by omega))); omega))) ?_
              refine va_getN (D := D) (ci := 0) (v := .ref (ad (40 + (5 * b + 2)))) (fs := (xfBook ad V43 b)) (C := RX0) (T := TX0) (N := 13) hx hb hg inX0 hown hK hP (38 + b) (xgBook hb2) rfl 2 (by decide) (hnw.use 601 n601 rfl) (fun _ h9 => h9) rfl dX1_readComponent_102 ?_
              refine va_getN (D := D) (ci := 6) (v := .int (V43 43 (5 * b + 2))) (fs := (xfNames ad V43 (5 * b + 2))) (C := RX6) (T := TX6) (N := 2) hx hb hg inX6 hown hK hP (40 + (5 * b + 2)) (xgNames il2) rfl 1 (by decide) (hnw.use 484 n484 rfl) (fun _ h9 => h9) rfl dX1_readComponent_105 ?_
              refine g_top (v := (V 43 (5 * b + 2))) ((ajV43 43 (5 * b + 2) rfl).trans ((ajV28 43 (5 * b + 2) rfl).trans ((ajV19 43 (5 * b + 2) rfl).trans (ajV13 43 (5 * b + 2) rfl)))) ?_
              have r67 : 0 ≤ ((V 43 (5 * b + 2))).toInt ∧ ((V 43 (5 * b + 2))).toInt ≤ ((xcap (5 * b + 2) : Nat) : Int) := hMV 43 (5 * b + 2)
              have il68 : b < 2 := by first | omega | ((try (have i_t6 := Imp.go t6 (by omega))); (try (have i_tx := Imp.go tx (by omega))); (try (have i_cd := Imp.go cd (by omega))); (try (have i_cd := Imp.go cd (by omega))); (try (have i_tx := Imp.go tx (by omega))); (try (have i_t6 := Imp.go t6 (by omega))); omega)
              refine va_aldq (D := D) (i := (V 43 (5 * b + 2))) hx hb hK hP (64 + b) (57 + b) (xgcomps il68) (xtcomps il68) (i_in (a := ((V 43 (5 * b + 2))).toInt) rfl (by first | omega | ((try (have i_t6 := Imp.go t6 (by omega))); (try (have i_tx := Imp.go tx (by omega))); (try (have i_cd := Imp.go cd (by omega))); (try (have i_cd := Imp.go cd (by omega))); (try (have i_tx := Imp.go tx (by omega))); (try (have i_t6 := Imp.go t6 (by omega))); omega))) dX1_readComponent_108 ?_
              have kc69 := i_clamp (x := (V 43 (5 * b + 2))) rfl (by first | omega | ((try (have i_t6 := Imp.go t6 (by omega))); (try (have i_tx := Imp.go tx (by omega))); (try (have i_cd := Imp.go cd (by omega))); (try (have i_cd := Imp.go cd (by omega))); (try (have i_tx := Imp.go tx (by omega))); (try (have i_t6 := Imp.go t6 (by omega))); omega))
              refine g_topv (v := .ref (ad (72 + (24 * b + (Int32.toNatClampNeg (V 43 (5 * b + 2))))))) (congrArg va_rf (if_pos (by first | omega | ((try (have i_t6 := Imp.go t6 (by omega))); (try (have i_tx := Imp.go tx (by omega))); (try (have i_cd := Imp.go cd (by omega))); (try (have i_cd := Imp.go cd (by omega))); (try (have i_tx := Imp.go tx (by omega))); (try (have i_t6 := Imp.go t6 (by omega))); omega)))) ?_
              have il70 : (24 * b + (Int32.toNatClampNeg (V 43 (5 * b + 2)))) < 48 := by first | omega | ((try (have i_t6 := Imp.go t6 (by omega))); (try (have i_tx := Imp.go tx (by omega))); (try (have i_cd := Imp.go cd (by omega))); (try (have i_cd := Imp.go cd (by omega))); (try (have i_tx := Imp.go tx (by omega))); (try (have i_t6 := Imp.go t6 (by omega))); omega)
              refine lv_astore_n (lv' := [(3, .ref (ad (72 + (24 * b + (Int32.toNatClampNeg (V 43 (5 * b + 2))))))), (1, .long w23), (0, .ref (ad 1))]) hx hb dX1_readComponent_109 rfl hl (by decide) rfl (fun ls hl => ?_)
              refine lv_aload_n hx hb dX1_readComponent_110 rfl (lv_at hl 0 rfl) ?_
              have px71 : px V V43 b := px.tr (px.rf : px V V b) (px.ag (show agr [(1, 3), (1, 6), (1, 7), (6, 8), (6, 9), (6, 10)] [] V V43 from (agr.tr (agr.tr (agr.tr (agr.tr agr.rf ajV13 (by decide) (by decide)) ajV19 (by decide) (by decide)) ajV28 (by decide) (by decide)) ajV43 (by decide) (by decide))) (fun _ => rfl) (fun _ => rfl) (fun _ => rfl))
              have tx72 : TX V43 b := TX.ag tx (show agr [(1, 3), (1, 6), (1, 7), (6, 8), (6, 9), (6, 10)] [] V V43 from (agr.tr (agr.tr (agr.tr (agr.tr agr.rf ajV13 (by decide) (by decide)) ajV19 (by decide) (by decide)) ajV28 (by decide) (by decide)) ajV43 (by decide) (by decide))) px71 (fun _ => rfl) (fun _ => rfl) (fun _ => rfl) (fun _ => rfl) (fun _ => rfl) (fun _ => rfl)
              refine gA_void (gA_runV (As := []) (rest := []) (ci := 3) (q0 := (72 + (24 * b + (Int32.toNatClampNeg (V 43 (5 * b + 2)))))) hx hb hml hown hg hP hD hK hS hA hnw hgk (x_cclear l D ks H.size ad kk V43 L44 Z ((24 * b + (Int32.toNatClampNeg (V 43 (5 * b + 2))))) hMV43 (show (24 * b + (Int32.toNatClampNeg (V 43 (5 * b + 2)))) < 48 from by first | omega | ((try (have i_t6 := Imp.go t6 (by omega))); (try (have i_tx := Imp.go tx (by omega))); (try (have i_cd := Imp.go cd (by omega))); (try (have i_cd := Imp.go cd (by omega))); (try (have i_tx := Imp.go tx (by omega))); (try (have i_t6 := Imp.go t6 (by omega))); omega))) w914 w915 w916 w169 w917 rfl (xgComp il70) hdV_yX3_clear ⟨Nat.le_of_ble_eq_true rfl, Nat.le_of_ble_eq_true rfl⟩ rfl hl.1 rfl (Nat.le_of_ble_eq_true rfl) dX1_readComponent_111 ⟨Nat.le_of_ble_eq_true rfl, Nat.le_of_ble_eq_true rfl⟩) hP hD hK hS hA (fun u74 H locs w75 hP hD hK hS => ?_)
              obtain ⟨V84, L85⟩ := u74
              obtain ⟨hMV84, ajV84, axL85, fyV84, t76, t77, t78, t79, t80, t81, t82, t83⟩ := w75
              have axL85 : L44 = L85 := Eq.symm axL85
              subst axL85
              have hP : va_P D vwCl (xw ad kk V84 L44 Z) H := hP
              have hD : va_D A (xw ad kk V84 L44 Z) := hD
              have hMV84 : rgd bX V84 := hMV84
              have ajV84 : agr [] [49, 50, 51, 52, 53, 54, 55, 56, 57, 61] V43 V84 := ajV84
              have agV84 : agr [(1, 2), (1, 3), (1, 6), (1, 7), (1, 8), (6, 8), (6, 9), (6, 10)] [43, 44, 49, 50, 51, 52, 53, 54, 55, 56, 57, 61] V V84 := agV43.tr ajV84 (by decide) (by decide)
              have fwV84 : frX (xR b) V V84 := frX.tr fwV43 (frX_IB fyV84 (by first | omega | ((try (have i_t6 := Imp.go t6 (by omega))); (try (have i_tx := Imp.go tx (by omega))); (try (have i_cd := Imp.go cd (by omega))); (try (have i_cd := Imp.go cd (by omega))); (try (have i_tx := Imp.go tx (by omega))); (try (have i_t6 := Imp.go t6 (by omega))); omega)) (by first | omega | ((try (have i_t6 := Imp.go t6 (by omega))); (try (have i_tx := Imp.go tx (by omega))); (try (have i_cd := Imp.go cd (by omega))); (try (have i_cd := Imp.go cd (by omega))); (try (have i_tx := Imp.go tx (by omega))); (try (have i_t6 := Imp.go t6 (by omega))); omega)))
              have t76 : (V84 56 (24 * b + (Int32.toNatClampNeg (V 43 (5 * b + 2))))).toInt = -1 := t76
              have t77 : (V84 57 (24 * b + (Int32.toNatClampNeg (V 43 (5 * b + 2))))).toInt = -1 := t77
              have t78 : (V84 49 (24 * b + (Int32.toNatClampNeg (V 43 (5 * b + 2))))).toInt = 0 := t78
              have t79 : (∀ q : Nat, (q : Int) < 20 → (V84 61 (20 * (24 * b + (Int32.toNatClampNeg (V 43 (5 * b + 2)))) + q)).toInt = -1) := t79
              have t80 : (∀ q : Nat, ¬ (20 * (24 * b + (Int32.toNatClampNeg (V 43 (5 * b + 2)))) ≤ q ∧ q < 20 * (24 * b + (Int32.toNatClampNeg (V 43 (5 * b + 2)))) + 20) → V84 61 q = V43 61 q) := t80
              have t81 : (∀ q : Nat, ¬ q = (24 * b + (Int32.toNatClampNeg (V 43 (5 * b + 2)))) → V84 56 q = V43 56 q) := t81
              have t82 : (∀ q : Nat, ¬ q = (24 * b + (Int32.toNatClampNeg (V 43 (5 * b + 2)))) → V84 57 q = V43 57 q) := t82
              have t83 : (∀ q : Nat, ¬ q = (24 * b + (Int32.toNatClampNeg (V 43 (5 * b + 2)))) → V84 49 q = V43 49 q) := t83
              refine lv_aload_n hx hb dX1_readComponent_114 rfl (lv_at hl 0 rfl) ?_
              refine lv_aload_n hx hb dX1_readComponent_115 rfl (lv_at hl 2 rfl) ?_
              refine va_get (D := D) (ci := 1) (v := .int (V84 1 7)) (fs := (xfReader ad V84 L44 Z)) (C := RX1) (T := TX1) (N := 9) hx hb hg inX1 hown hK hP 1 xgReader rfl 7 (by decide) (hg _ w311) (fun _ h9 => h9) rfl dX1_readComponent_116 ?_
              refine g_top (v := (V43 1 7)) (ajV84 1 7 rfl) ?_
              refine va_putN (D := D) (ci := 3) (v := .int (V43 1 7)) (ty := tyX3 5) (fs := (xfComp ad V84 (24 * b + (Int32.toNatClampNeg (V 43 (5 * b + 2)))))) (C := RX3) (T := TX3) (N := 13) hx hb hg inX3 tyX3 tyX3_ok nmX3 hown hK hP hD hS (72 + (24 * b + (Int32.toNatClampNeg (V 43 (5 * b + 2))))) (xgComp il70) rfl 5 (by decide) (hnw.use 516 n516 rfl) (fun _ h9 => h9) rfl (tyX3_ok 5 (by decide)) rfl rfl (Nat.le_of_ble_eq_true rfl) dX1_readComponent_119 (fun H locs hP hD hS => ?_)
              obtain ⟨V86, hV86⟩ : ∃ z, z = up2 V84 50 (24 * b + (Int32.toNatClampNeg (V 43 (5 * b + 2)))) (V43 1 7) := ⟨_, rfl⟩
              have ew87 : (xw ad kk V84 L44 Z).set (72 + (24 * b + (Int32.toNatClampNeg (V 43 (5 * b + 2))))) ((ad (72 + (24 * b + (Int32.toNatClampNeg (V 43 (5 * b + 2)))))), .inr (3, (xfComp ad V84 (24 * b + (Int32.toNatClampNeg (V 43 (5 * b + 2))))).set 5 (.int (V43 1 7)))) = xw ad kk V86 L44 Z := by rw [hV86]; exact xpComp_under il70
              have hP : va_P D vwCl (xw ad kk V86 L44 Z) H := by rw [← ew87]; exact hP
              have hD : va_D A (xw ad kk V86 L44 Z) := by rw [← ew87]; exact hD
              have hMV86 : rgd bX V86 := hMV84.put hV86 (i_full _)
              have agV86 : agr [(1, 2), (1, 3), (1, 6), (1, 7), (1, 8), (6, 8), (6, 9), (6, 10)] [43, 44, 49, 50, 51, 52, 53, 54, 55, 56, 57, 61] V V86 := agV84.up hV86 rfl
              have fwV86 : frX (xR b) V V86 := frX.up fwV84 hV86 (Or.inr ⟨(by show 24 * b ≤ (24 * b + (Int32.toNatClampNeg (V 43 (5 * b + 2)))); first | omega | ((try (have i_t6 := Imp.go t6 (by omega))); (try (have i_tx := Imp.go tx (by omega))); (try (have i_cd := Imp.go cd (by omega))); (try (have i_cd := Imp.go cd (by omega))); (try (have i_tx := Imp.go tx (by omega))); (try (have i_t6 := Imp.go t6 (by omega))); omega)), (by show (24 * b + (Int32.toNatClampNeg (V 43 (5 * b + 2)))) < 24 * b + 24; first | omega | ((try (have i_t6 := Imp.go t6 (by omega))); (try (have i_tx := Imp.go tx (by omega))); (try (have i_cd := Imp.go cd (by omega))); (try (have i_cd := Imp.go cd (by omega))); (try (have i_tx := Imp.go tx (by omega))); (try (have i_t6 := Imp.go t6 (by omega))); omega))⟩)
              refine lv_aload_n hx hb dX1_readComponent_122 rfl (lv_at hl 0 rfl) ?_
              refine lv_aload_n hx hb dX1_readComponent_123 rfl (lv_at hl 2 rfl) ?_
              refine va_get (D := D) (ci := 1) (v := .ref (ad 6)) (fs := (xfReader ad V86 L44 Z)) (C := RX1) (T := TX1) (N := 9) hx hb hg inX1 hown hK hP 1 xgReader rfl 0 (by decide) (hg _ w304) (fun _ h9 => h9) rfl dX1_readComponent_124 ?_
              refine va_getN (D := D) (ci := 9) (v := .int (V86 6 9)) (fs := (xfTape ad V86 L44 Z)) (C := RX9) (T := TX9) (N := 12) hx hb hg inX9 hown hK hP 6 xgTape rfl 9 (by decide) (hnw.use 262 n262 rfl) (fun _ h9 => h9) rfl dX1_readComponent_127 ?_
              refine g_top (v := (V43 6 9)) ((up2_o hV86 (by decide)).trans (ajV84 6 9 rfl)) ?_
              refine lv_sipush (v := 148) hx hb dX1_readComponent_130 (by decide) ?_
              refine lv_isub hx hb dX1_readComponent_133 ?_
              refine lv_topi (fun z88 ez88 => ?_)
              have hz88 : z88.toInt = ((V43 6 9)).toInt - 148 := i_sub ez88 rfl (by decide) (by omega)
              refine va_putN (D := D) (ci := 3) (v := .int z88) (ty := tyX3 6) (fs := (xfComp ad V86 (24 * b + (Int32.toNatClampNeg (V 43 (5 * b + 2)))))) (C := RX3) (T := TX3) (N := 13) hx hb hg inX3 tyX3 tyX3_ok nmX3 hown hK hP hD hS (72 + (24 * b + (Int32.toNatClampNeg (V 43 (5 * b + 2))))) (xgComp il70) rfl 6 (by decide) (hnw.use 520 n520 rfl) (fun _ h9 => h9) rfl (tyX3_ok 6 (by decide)) rfl rfl (Nat.le_of_ble_eq_true rfl) dX1_readComponent_134 (fun H locs hP hD hS => ?_)
              obtain ⟨V89, hV89⟩ : ∃ z, z = up2 V86 51 (24 * b + (Int32.toNatClampNeg (V 43 (5 * b + 2)))) z88 := ⟨_, rfl⟩
              have ew90 : (xw ad kk V86 L44 Z).set (72 + (24 * b + (Int32.toNatClampNeg (V 43 (5 * b + 2))))) ((ad (72 + (24 * b + (Int32.toNatClampNeg (V 43 (5 * b + 2)))))), .inr (3, (xfComp ad V86 (24 * b + (Int32.toNatClampNeg (V 43 (5 * b + 2))))).set 6 (.int z88))) = xw ad kk V89 L44 Z := by rw [hV89]; exact xpComp_scope il70
              have hP : va_P D vwCl (xw ad kk V89 L44 Z) H := by rw [← ew90]; exact hP
              have hD : va_D A (xw ad kk V89 L44 Z) := by rw [← ew90]; exact hD
              have hMV89 : rgd bX V89 := hMV86.put hV89 (show 0 ≤ z88.toInt ∧ z88.toInt ≤ 3 from by first | omega | ((try (have i_t6 := Imp.go t6 (by omega))); (try (have i_tx := Imp.go tx (by omega))); (try (have i_cd := Imp.go cd (by omega))); (try (have i_cd := Imp.go cd (by omega))); (try (have i_tx := Imp.go tx (by omega))); (try (have i_t6 := Imp.go t6 (by omega))); omega))
              have agV89 : agr [(1, 2), (1, 3), (1, 6), (1, 7), (1, 8), (6, 8), (6, 9), (6, 10)] [43, 44, 49, 50, 51, 52, 53, 54, 55, 56, 57, 61] V V89 := agV86.up hV89 rfl
              have fwV89 : frX (xR b) V V89 := frX.up fwV86 hV89 (Or.inr ⟨(by show 24 * b ≤ (24 * b + (Int32.toNatClampNeg (V 43 (5 * b + 2)))); first | omega | ((try (have i_t6 := Imp.go t6 (by omega))); (try (have i_tx := Imp.go tx (by omega))); (try (have i_cd := Imp.go cd (by omega))); (try (have i_cd := Imp.go cd (by omega))); (try (have i_tx := Imp.go tx (by omega))); (try (have i_t6 := Imp.go t6 (by omega))); omega)), (by show (24 * b + (Int32.toNatClampNeg (V 43 (5 * b + 2)))) < 24 * b + 24; first | omega | ((try (have i_t6 := Imp.go t6 (by omega))); (try (have i_tx := Imp.go tx (by omega))); (try (have i_cd := Imp.go cd (by omega))); (try (have i_cd := Imp.go cd (by omega))); (try (have i_tx := Imp.go tx (by omega))); (try (have i_t6 := Imp.go t6 (by omega))); omega))⟩)
              refine lv_aload_n hx hb dX1_readComponent_137 rfl (lv_at hl 2 rfl) ?_
              refine va_get (D := D) (ci := 1) (v := .ref (ad 6)) (fs := (xfReader ad V89 L44 Z)) (C := RX1) (T := TX1) (N := 9) hx hb hg inX1 hown hK hP 1 xgReader rfl 0 (by decide) (hg _ w304) (fun _ h9 => h9) rfl dX1_readComponent_138 ?_
              refine gA_void (gA_runV (As := []) (rest := []) (ci := 9) (q0 := 6) hx hb hml hown hg hP hD hK hS hA hnw hgk (x_next l D ks H.size ad kk V89 L44 Z  hMV89 ) w871 w852 w853 w157 w854 rfl xgTape hdV_yX9_next ⟨Nat.le_of_ble_eq_true rfl, Nat.le_of_ble_eq_true rfl⟩ rfl hl.1 rfl (Nat.le_of_ble_eq_true rfl) dX1_readComponent_141 ⟨Nat.le_of_ble_eq_true rfl, Nat.le_of_ble_eq_true rfl⟩) hP hD hK hS hA (fun u92 H locs w93 hP hD hK hS => ?_)
              obtain ⟨V94, L95⟩ := u92
              obtain ⟨hMV94, ajV94, axL95⟩ := w93
              have alL95 : agL [1, 6, 44] L L95 := agL.tr alL44 axL95 (by decide)
              have hP : va_P D vwCl (xw ad kk V94 L95 Z) H := hP
              have hD : va_D A (xw ad kk V94 L95 Z) := hD
              have hMV94 : rgd bX V94 := hMV94
              have ajV94 : agr [(6, 8), (6, 9), (6, 10)] [] V89 V94 := ajV94
              have agV94 : agr [(1, 2), (1, 3), (1, 6), (1, 7), (1, 8), (6, 8), (6, 9), (6, 10)] [43, 44, 49, 50, 51, 52, 53, 54, 55, 56, 57, 61] V V94 := agV89.tr ajV94 (by decide) (by decide)
              have fwV94 : frX (xR b) V V94 := frX.tr fwV89 (frX.ag ajV94 (by decide) (by decide))
              refine lv_aload_n hx hb dX1_readComponent_144 rfl (lv_at hl 2 rfl) ?_
              refine lv_aload_n hx hb dX1_readComponent_145 rfl (lv_at hl 0 rfl) ?_
              have pq96 : (V94 1 1).toInt = ((V 1 1)).toInt := congrArg Int32.toInt ((ajV94 1 1 rfl).trans ((up2_o hV89 (by decide)).trans ((up2_o hV86 (by decide)).trans ((ajV84 1 1 rfl).trans ((ajV43 1 1 rfl).trans ((ajV28 1 1 rfl).trans ((ajV19 1 1 rfl).trans (ajV13 1 1 rfl))))))))
              refine gA_int (gA_runV (As := [.ref (ad (72 + (24 * b + (Int32.toNatClampNeg (V 43 (5 * b + 2))))))]) (rest := []) (ci := 1) (q0 := 1) hx hb hml hown hg hP hD hK hS hA hnw hgk (x_readExtras l D ks H.size ad kk V94 L95 Z (b) ((24 * b + (Int32.toNatClampNeg (V 43 (5 * b + 2))))) hMV94 (show b < 2 from by first | omega | ((try (have i_t6 := Imp.go t6 (by omega))); (try (have i_tx := Imp.go tx (by omega))); (try (have i_cd := Imp.go cd (by omega))); (try (have i_cd := Imp.go cd (by omega))); (try (have i_tx := Imp.go tx (by omega))); (try (have i_t6 := Imp.go t6 (by omega))); omega)) (show (V94 1 1).toInt = (b : Int) from by first | omega | ((try (have i_t6 := Imp.go t6 (by omega))); (try (have i_tx := Imp.go tx (by omega))); (try (have i_cd := Imp.go cd (by omega))); (try (have i_cd := Imp.go cd (by omega))); (try (have i_tx := Imp.go tx (by omega))); (try (have i_t6 := Imp.go t6 (by omega))); omega)) (show (24 * b + (Int32.toNatClampNeg (V 43 (5 * b + 2)))) < 48 from by first | omega | ((try (have i_t6 := Imp.go t6 (by omega))); (try (have i_tx := Imp.go tx (by omega))); (try (have i_cd := Imp.go cd (by omega))); (try (have i_cd := Imp.go cd (by omega))); (try (have i_tx := Imp.go tx (by omega))); (try (have i_t6 := Imp.go t6 (by omega))); omega)) (show 24 * b ≤ (24 * b + (Int32.toNatClampNeg (V 43 (5 * b + 2)))) from by first | omega | ((try (have i_t6 := Imp.go t6 (by omega))); (try (have i_tx := Imp.go tx (by omega))); (try (have i_cd := Imp.go cd (by omega))); (try (have i_cd := Imp.go cd (by omega))); (try (have i_tx := Imp.go tx (by omega))); (try (have i_t6 := Imp.go t6 (by omega))); omega)) (show (24 * b + (Int32.toNatClampNeg (V 43 (5 * b + 2)))) < 24 * b + 24 from by first | omega | ((try (have i_t6 := Imp.go t6 (by omega))); (try (have i_tx := Imp.go tx (by omega))); (try (have i_cd := Imp.go cd (by omega))); (try (have i_cd := Imp.go cd (by omega))); (try (have i_tx := Imp.go tx (by omega))); (try (have i_t6 := Imp.go t6 (by omega))); omega))) w919 w921 w14 w162 w922 rfl xgReader hdV_yX1_readExtras ⟨Nat.le_of_ble_eq_true rfl, Nat.le_of_ble_eq_true rfl⟩ rfl hl.1 rfl (Nat.le_of_ble_eq_true rfl) dX1_readComponent_146 ⟨Nat.le_of_ble_eq_true rfl, Nat.le_of_ble_eq_true rfl⟩) hP hD hK hS hA (fun z97 u98 H locs w99 hP hD hK hS => ?_)
              obtain ⟨V101, L102⟩ := u98
              obtain ⟨hMV101, ajV101, axL102, fyV101, rgz97, t100⟩ := w99
              have alL102 : agL [1, 6, 44] L L102 := agL.tr alL95 axL102 (by decide)
              have hP : va_P D vwCl (xw ad kk V101 L102 Z) H := hP
              have hD : va_D A (xw ad kk V101 L102 Z) := hD
              have hMV101 : rgd bX V101 := hMV101
              have ajV101 : agr [(1, 3), (1, 6), (1, 8), (6, 8), (6, 9), (6, 10)] [43, 44, 52, 53, 54, 55] V94 V101 := ajV101
              have agV101 : agr [(1, 2), (1, 3), (1, 6), (1, 7), (1, 8), (6, 8), (6, 9), (6, 10)] [43, 44, 49, 50, 51, 52, 53, 54, 55, 56, 57, 61] V V101 := agV94.tr ajV101 (by decide) (by decide)
              have fwV101 : frX (xR b) V V101 := frX.tr fwV94 (fyV101)
              have rgz97 : 0 ≤ z97.toInt ∧ z97.toInt ≤ 1 := rgz97
              have t100 : px V94 V101 b := t100
              refine lv_if_eq (tgt := 161) hx hb dX1_readComponent_149 (by decide) (fun c103 => ?_) (fun c103 => ?_)
              · skip
                have f104 : z97.toInt = 0 := b_eq rfl (by decide) c103
                refine lv_iconst (v := 0) hx hb dX1_readComponent_161 (by decide) ?_
                have pq105 : (V101 1 2).toInt = ((V 1 2)).toInt := congrArg Int32.toInt ((ajV101 1 2 rfl).trans ((ajV94 1 2 rfl).trans ((up2_o hV89 (by decide)).trans ((up2_o hV86 (by decide)).trans ((ajV84 1 2 rfl).trans ((ajV43 1 2 rfl).trans ((ajV28 1 2 rfl).trans ((ajV19 1 2 rfl).trans (ajV13 1 2 rfl)))))))))
                have r106 : (-1) ≤ ((V 1 2)).toInt ∧ ((V 1 2)).toInt ≤ 47 := hMV 1 2
                have cd107 : CD V101 b := ⟨CB.ag cd.1 (show agr [(1, 3), (1, 6), (1, 7), (1, 8), (6, 8), (6, 9), (6, 10)] [43, 44, 49, 50, 51, 52, 53, 54, 55, 56, 57, 61] V V101 from (agr.tr (agr.tr (agr.up (agr.up (agr.tr (agr.tr (agr.tr (agr.tr (agr.tr agr.rf ajV13 (by decide) (by decide)) ajV19 (by decide) (by decide)) ajV28 (by decide) (by decide)) ajV43 (by decide) (by decide)) ajV84 (by decide) (by decide)) hV86 rfl) hV89 rfl) ajV94 (by decide) (by decide)) ajV101 (by decide) (by decide))) (fun _ => rfl) (fun _ => rfl), CO.ag cd.2 (show agr [(1, 3), (1, 6), (1, 7), (1, 8), (6, 8), (6, 9), (6, 10)] [43, 44, 49, 50, 51, 52, 53, 54, 55, 56, 57, 61] V V101 from (agr.tr (agr.tr (agr.up (agr.up (agr.tr (agr.tr (agr.tr (agr.tr (agr.tr agr.rf ajV13 (by decide) (by decide)) ajV19 (by decide) (by decide)) ajV28 (by decide) (by decide)) ajV43 (by decide) (by decide)) ajV84 (by decide) (by decide)) hV86 rfl) hV89 rfl) ajV94 (by decide) (by decide)) ajV101 (by decide) (by decide))) (fun _ => rfl) (fun _ => rfl)⟩
                have p0108 : p0x V V13 b := p0x.tr (p0x.rf : p0x V V b) (p0x.ag (show agr [(6, 8), (6, 9), (6, 10)] [] V V13 from (agr.tr agr.rf ajV13 (by decide) (by decide))) (fun _ => rfl) (fun _ => rfl))
                have p0109 : p0x V V19 b := p0x.tr p0108 (p0x.ag (show agr [(1, 3), (6, 8), (6, 9), (6, 10)] [] V13 V19 from (agr.tr agr.rf ajV19 (by decide) (by decide))) (fun _ => rfl) (fun _ => rfl))
                have p0110 : p0x V V28 b := p0x.tr p0109 (p0x.ag (show agr [(1, 3), (6, 8), (6, 9), (6, 10)] [] V19 V28 from (agr.tr agr.rf ajV28 (by decide) (by decide))) (fun _ => rfl) (fun _ => rfl))
                have p0111 : p0x V V43 b := p0x.tr p0110 (p0x.ag (show agr [(1, 3), (1, 6), (1, 7), (6, 8), (6, 9), (6, 10)] [] V28 V43 from (agr.tr agr.rf ajV43 (by decide) (by decide))) (fun _ => rfl) (fun _ => rfl))
                have p0112 : p0x V V84 b := p0x.tr p0111 (p0x.ag (show agr [] [49, 50, 51, 52, 53, 54, 55, 56, 57, 61] V43 V84 from (agr.tr agr.rf ajV84 (by decide) (by decide))) (fun _ => rfl) (fun _ => rfl))
                have p0113 : p0x V V86 b := p0x.tr p0112 (p0x.ag (show agr [] [50] V84 V86 from (agr.up agr.rf hV86 rfl)) (fun _ => rfl) (fun _ => rfl))
                have p0114 : p0x V V89 b := p0x.tr p0113 (p0x.ag (show agr [] [51] V86 V89 from (agr.up agr.rf hV89 rfl)) (fun _ => rfl) (fun _ => rfl))
                have p0115 : p0x V V94 b := p0x.tr p0114 (p0x.ag (show agr [(6, 8), (6, 9), (6, 10)] [] V89 V94 from (agr.tr agr.rf ajV94 (by decide) (by decide))) (fun _ => rfl) (fun _ => rfl))
                have p0116 : p0x V V101 b := p0x.tr p0115 t100.1
                exact W.zret (v := 0) hx hb hr rfl (fun t ht hW => ⟨⟨0, (V101, L102), rfl, ⟨hMV101, agV101, alL102, fwV101, (by decide), (Imp.mk (fun hp => absurd hp (by decide))), cd107, p0116, (show (V101 1 2).toInt = (V 1 2).toInt ∨ (24 * (b : Int) ≤ (V101 1 2).toInt ∧ (V101 1 2).toInt < 24 * (b : Int) + 24) from by first | omega | ((try (have i_t6 := Imp.go t6 (by omega))); (try (have i_tx := Imp.go tx (by omega))); (try (have i_cd := Imp.go cd (by omega))); (try (have i_cd := Imp.go cd (by omega))); (try (have i_tx := Imp.go tx (by omega))); (try (have i_t6 := Imp.go t6 (by omega))); omega))⟩, by rw [ht]; exact hP, va_K.moved hW.alike hK, hD⟩, hS.F ht⟩) hS.2.2 dX1_readComponent_162
              · skip
                have f117 : z97.toInt ≠ 0 := b_neq rfl (by decide) c103
                refine lv_aload_n hx hb dX1_readComponent_152 rfl (lv_at hl 2 rfl) ?_
                refine lv_bipush (v := 123) hx hb dX1_readComponent_153 (by decide) ?_
                have r118 : Int32.toInt 123 = 123 := by decide
                refine gA_int (gA_runV (As := [.int 123]) (rest := []) (ci := 1) (q0 := 1) hx hb hml hown hg hP hD hK hS hA hnw hgk (x_take l D ks H.size ad kk V101 L102 Z 123 hMV101 ) w893 w895 w10 w162 w896 rfl xgReader hdV_yX1_take ⟨Nat.le_of_ble_eq_true rfl, Nat.le_of_ble_eq_true rfl⟩ rfl hl.1 rfl (Nat.le_of_ble_eq_true rfl) dX1_readComponent_155 ⟨Nat.le_of_ble_eq_true rfl, Nat.le_of_ble_eq_true rfl⟩) hP hD hK hS hA (fun z119 u120 H locs w121 hP hD hK hS => ?_)
                obtain ⟨V122, L123⟩ := u120
                obtain ⟨hMV122, ajV122, axL123, rgz119⟩ := w121
                have alL123 : agL [1, 6, 44] L L123 := agL.tr alL102 axL123 (by decide)
                have hP : va_P D vwCl (xw ad kk V122 L123 Z) H := hP
                have hD : va_D A (xw ad kk V122 L123 Z) := hD
                have hMV122 : rgd bX V122 := hMV122
                have ajV122 : agr [(1, 3), (6, 8), (6, 9), (6, 10)] [] V101 V122 := ajV122
                have agV122 : agr [(1, 2), (1, 3), (1, 6), (1, 7), (1, 8), (6, 8), (6, 9), (6, 10)] [43, 44, 49, 50, 51, 52, 53, 54, 55, 56, 57, 61] V V122 := agV101.tr ajV122 (by decide) (by decide)
                have fwV122 : frX (xR b) V V122 := frX.tr fwV101 (frX.ag ajV122 (by decide) (by decide))
                have rgz119 : 0 ≤ z119.toInt ∧ z119.toInt ≤ 1 := rgz119
                refine lv_if_ne (tgt := 163) hx hb dX1_readComponent_158 (by decide) (fun c124 => ?_) (fun c124 => ?_)
                · skip
                  have f125 : z119.toInt ≠ 0 := b_neq rfl (by decide) c124
                  refine lv_aload_n hx hb dX1_readComponent_163 rfl (lv_at hl 2 rfl) ?_
                  refine va_get (D := D) (ci := 1) (v := rfN ad 38 (V122 1 1)) (fs := (xfReader ad V122 L123 Z)) (C := RX1) (T := TX1) (N := 9) hx hb hg inX1 hown hK hP 1 xgReader rfl 1 (by decide) (hg _ w305) (fun _ h9 => h9) rfl dX1_readComponent_164 ?_
                  have pq126 : (V122 1 1).toInt = ((V 1 1)).toInt := congrArg Int32.toInt ((ajV122 1 1 rfl).trans ((ajV101 1 1 rfl).trans ((ajV94 1 1 rfl).trans ((up2_o hV89 (by decide)).trans ((up2_o hV86 (by decide)).trans ((ajV84 1 1 rfl).trans ((ajV43 1 1 rfl).trans ((ajV28 1 1 rfl).trans ((ajV19 1 1 rfl).trans (ajV13 1 1 rfl))))))))))
                  refine g_topv (v := .ref (ad (38 + b))) (rfN_r (by first | omega | ((try (have i_t6 := Imp.go t6 (by omega))); (try (have i_tx := Imp.go tx (by omega))); (try (have i_cd := Imp.go cd (by omega))); (try (have i_cd := Imp.go cd (by omega))); (try (have i_tx := Imp.go tx (by omega))); (try (have i_t6 := Imp.go t6 (by omega))); omega))) ?_
                  refine va_getN (D := D) (ci := 0) (v := .ref (ad (40 + (5 * b + 2)))) (fs := (xfBook ad V122 b)) (C := RX0) (T := TX0) (N := 13) hx hb hg inX0 hown hK hP (38 + b) (xgBook hb2) rfl 2 (by decide) (hnw.use 601 n601 rfl) (fun _ h9 => h9) rfl dX1_readComponent_167 ?_
                  refine lv_lload_n hx hb dX1_readComponent_170 rfl (lv_at hl 1 rfl) ?_
                  refine gA_int (gA_runV (As := [.long w23]) (rest := []) (ci := 6) (q0 := (40 + (5 * b + 2))) hx hb hml hown hg hP hD hK hS hA hnw hgk (x_add l D ks H.size ad kk V122 L123 Z w23 ((5 * b + 2)) hMV122 (show (5 * b + 2) < 10 from by first | omega | ((try (have i_t6 := Imp.go t6 (by omega))); (try (have i_tx := Imp.go tx (by omega))); (try (have i_cd := Imp.go cd (by omega))); (try (have i_cd := Imp.go cd (by omega))); (try (have i_tx := Imp.go tx (by omega))); (try (have i_t6 := Imp.go t6 (by omega))); omega))) w897 w898 w899 w168 w900 rfl (xgNames il2) hdV_yX6_add ⟨Nat.le_of_ble_eq_true rfl, Nat.le_of_ble_eq_true rfl⟩ rfl hl.1 rfl (Nat.le_of_ble_eq_true rfl) dX1_readComponent_171 ⟨Nat.le_of_ble_eq_true rfl, Nat.le_of_ble_eq_true rfl⟩) hP hD hK hS hA (fun z127 u128 H locs w129 hP hD hK hS => ?_)
                  obtain ⟨V133, L134⟩ := u128
                  obtain ⟨hMV133, ajV133, axL134, fyV133, rgz127, t130, t131, t132⟩ := w129
                  have alL134 : agL [1, 6, 44] L L134 := agL.tr alL123 axL134 (by decide)
                  have hP : va_P D vwCl (xw ad kk V133 L134 Z) H := hP
                  have hD : va_D A (xw ad kk V133 L134 Z) := hD
                  have hMV133 : rgd bX V133 := hMV133
                  have ajV133 : agr [] [43, 44] V122 V133 := ajV133
                  have agV133 : agr [(1, 2), (1, 3), (1, 6), (1, 7), (1, 8), (6, 8), (6, 9), (6, 10)] [43, 44, 49, 50, 51, 52, 53, 54, 55, 56, 57, 61] V V133 := agV122.tr ajV133 (by decide) (by decide)
                  have fwV133 : frX (xR b) V V133 := frX.tr fwV122 (frX_NB fyV133 (by first | omega | ((try (have i_t6 := Imp.go t6 (by omega))); (try (have i_tx := Imp.go tx (by omega))); (try (have i_cd := Imp.go cd (by omega))); (try (have i_cd := Imp.go cd (by omega))); (try (have i_tx := Imp.go tx (by omega))); (try (have i_t6 := Imp.go t6 (by omega))); omega)) (by first | omega | ((try (have i_t6 := Imp.go t6 (by omega))); (try (have i_tx := Imp.go tx (by omega))); (try (have i_cd := Imp.go cd (by omega))); (try (have i_cd := Imp.go cd (by omega))); (try (have i_tx := Imp.go tx (by omega))); (try (have i_t6 := Imp.go t6 (by omega))); omega)))
                  have rgz127 : (-1) ≤ z127.toInt ∧ z127.toInt ≤ 23 := rgz127
                  have t130 : z127.toInt < (V133 43 (5 * b + 2)).toInt := t130
                  have t131 : Imp ((V122 43 (5 * b + 2)).toInt < ((xcap (5 * b + 2) : Nat) : Int)) (z127.toInt = (V122 43 (5 * b + 2)).toInt ∧ (V133 43 (5 * b + 2)).toInt = (V122 43 (5 * b + 2)).toInt + 1) := t131
                  have t132 : (∀ n : Nat, ¬ n = (5 * b + 2) → V133 43 n = V122 43 n) := t132
                  refine lv_pop hx hb dX1_readComponent_174 rfl ?_
                  refine lv_aload_n hx hb dX1_readComponent_175 rfl (lv_at hl 2 rfl) ?_
                  refine lv_aload_n hx hb dX1_readComponent_176 rfl (lv_at hl 0 rfl) ?_
                  refine va_put (D := D) (ci := 1) (v := .ref (ad (72 + (24 * b + (Int32.toNatClampNeg (V 43 (5 * b + 2))))))) (ty := tyX1 2) (fs := (xfReader ad V133 L134 Z)) (C := RX1) (T := TX1) (N := 9) hx hb hg inX1 tyX1 tyX1_ok nmX1 hown hK hP hD hS 1 xgReader rfl 2 (by decide) (hg _ w306) (fun _ h9 => h9) rfl (tyX1_ok 2 (by decide)) rfl rfl (Nat.le_of_ble_eq_true rfl) dX1_readComponent_177 (fun H locs hP hD hS => ?_)
                  have r135 : (nI (24 * b + (Int32.toNatClampNeg (V 43 (5 * b + 2))))).toInt = (((24 * b + (Int32.toNatClampNeg (V 43 (5 * b + 2)))) : Nat) : Int) := nI_toInt (by omega)
                  obtain ⟨V136, hV136⟩ : ∃ z, z = up2 V133 1 2 (nI (24 * b + (Int32.toNatClampNeg (V 43 (5 * b + 2))))) := ⟨_, rfl⟩
                  have ew137 : (xw ad kk V133 L134 Z).set 1 ((ad 1), .inr (1, (xfReader ad V133 L134 Z).set 2 (.ref (ad (72 + (24 * b + (Int32.toNatClampNeg (V 43 (5 * b + 2))))))))) = xw ad kk V136 L134 Z := by rw [hV136]; exact xr_owner il70
                  have hP : va_P D vwCl (xw ad kk V136 L134 Z) H := by rw [← ew137]; exact hP
                  have hD : va_D A (xw ad kk V136 L134 Z) := by rw [← ew137]; exact hD
                  have hMV136 : rgd bX V136 := hMV133.put hV136 (show (-1) ≤ ((nI (24 * b + (Int32.toNatClampNeg (V 43 (5 * b + 2)))))).toInt ∧ ((nI (24 * b + (Int32.toNatClampNeg (V 43 (5 * b + 2)))))).toInt ≤ 47 from by first | omega | ((try (have i_t131 := Imp.go t131 (by omega))); (try (have i_t6 := Imp.go t6 (by omega))); (try (have i_tx := Imp.go tx (by omega))); (try (have i_cd := Imp.go cd (by omega))); (try (have i_cd := Imp.go cd (by omega))); (try (have i_tx := Imp.go tx (by omega))); (try (have i_t6 := Imp.go t6 (by omega))); (try (have i_t131 := Imp.go t131 (by omega))); omega))
                  have agV136 : agr [(1, 2), (1, 3), (1, 6), (1, 7), (1, 8), (6, 8), (6, 9), (6, 10)] [43, 44, 49, 50, 51, 52, 53, 54, 55, 56, 57, 61] V V136 := agV133.up hV136 rfl
                  have fwV136 : frX (xR b) V V136 := frX.up fwV133 hV136 (Or.inl (by decide))
                  refine lv_iconst (v := 1) hx hb dX1_readComponent_180 (by decide) ?_
                  have pq138 : (V136 1 2).toInt = ((nI (24 * b + (Int32.toNatClampNeg (V 43 (5 * b + 2)))))).toInt := congrArg Int32.toInt (up2_s hV136)
                  have pq139 : (V43 43 (5 * b + 2)).toInt = ((V 43 (5 * b + 2))).toInt := congrArg Int32.toInt ((ajV43 43 (5 * b + 2) rfl).trans ((ajV28 43 (5 * b + 2) rfl).trans ((ajV19 43 (5 * b + 2) rfl).trans (ajV13 43 (5 * b + 2) rfl))))
                  have pq140 : (V122 43 (5 * b + 2)).toInt = ((V101 43 (5 * b + 2))).toInt := congrArg Int32.toInt (ajV122 43 (5 * b + 2) rfl)
                  have r141 : 0 ≤ ((V101 43 (5 * b + 2))).toInt ∧ ((V101 43 (5 * b + 2))).toInt ≤ ((xcap (5 * b + 2) : Nat) : Int) := hMV101 43 (5 * b + 2)
                  have pq142 : (V136 43 (5 * b + 2)).toInt = ((V133 43 (5 * b + 2))).toInt := congrArg Int32.toInt (up2_o hV136 (by decide))
                  have r143 : 0 ≤ ((V133 43 (5 * b + 2))).toInt ∧ ((V133 43 (5 * b + 2))).toInt ≤ ((xcap (5 * b + 2) : Nat) : Int) := hMV133 43 (5 * b + 2)
                  have px144 : px V43 V94 b := px.tr (px.rf : px V43 V43 b) (px.ag (show agr [(6, 8), (6, 9), (6, 10)] [49, 50, 51, 52, 53, 54, 55, 56, 57, 61] V43 V94 from (agr.tr (agr.up (agr.up (agr.tr agr.rf ajV84 (by decide) (by decide)) hV86 rfl) hV89 rfl) ajV94 (by decide) (by decide))) (fun _ => rfl) (fun _ => rfl) (fun _ => rfl))
                  have px145 : px V43 V101 b := px.tr px144 t100
                  have px146 : px V43 V122 b := px.tr px145 (px.ag (show agr [(1, 3), (6, 8), (6, 9), (6, 10)] [] V101 V122 from (agr.tr agr.rf ajV122 (by decide) (by decide))) (fun _ => rfl) (fun _ => rfl) (fun _ => rfl))
                  have e43 := congrArg Int32.toInt px146.2
                  have px147 : px V V43 b := px.tr (px.rf : px V V b) (px.ag (show agr [(1, 3), (1, 6), (1, 7), (6, 8), (6, 9), (6, 10)] [] V V43 from (agr.tr (agr.tr (agr.tr (agr.tr agr.rf ajV13 (by decide) (by decide)) ajV19 (by decide) (by decide)) ajV28 (by decide) (by decide)) ajV43 (by decide) (by decide))) (fun _ => rfl) (fun _ => rfl) (fun _ => rfl))
                  have e44 := congrArg Int32.toInt px147.2
                  have ks9 := i_clamp (x := V43 43 (5 * b + 2)) rfl (by have h9 : 0 ≤ (V43 43 (5 * b + 2)).toInt := (hMV43 43 (5 * b + 2)).1; omega)
                  have tx148 : TX V136 b := TX.add (n := (Int32.toNatClampNeg (V 43 (5 * b + 2)))) tx72 (by omega) (by first | omega | ((try (have i_t131 := Imp.go t131 (by omega))); (try (have i_t6 := Imp.go t6 (by omega))); (try (have i_tx := Imp.go tx (by omega))); (try (have i_cd := Imp.go cd (by omega))); (try (have i_cd := Imp.go cd (by omega))); (try (have i_tx := Imp.go tx (by omega))); (try (have i_t6 := Imp.go t6 (by omega))); (try (have i_t131 := Imp.go t131 (by omega))); omega)) (p0x.ag (show agr [(1, 2), (1, 3), (1, 6), (1, 8), (6, 8), (6, 9), (6, 10)] [43, 44, 49, 50, 51, 52, 53, 54, 55, 56, 57, 61] V43 V136 from (agr.up (agr.tr (agr.tr (agr.tr (agr.tr (agr.up (agr.up (agr.tr agr.rf ajV84 (by decide) (by decide)) hV86 rfl) hV89 rfl) ajV94 (by decide) (by decide)) ajV101 (by decide) (by decide)) ajV122 (by decide) (by decide)) ajV133 (by decide) (by decide)) hV136 rfl)) (fun _ => rfl) (fun _ => rfl)) (fun q hq => ((show agr [(1, 2), (1, 3), (1, 6), (1, 8), (6, 8), (6, 9), (6, 10)] [43, 44, 50, 51, 52, 53, 54, 55] V84 V136 from (agr.up (agr.tr (agr.tr (agr.tr (agr.tr (agr.up (agr.up agr.rf hV86 rfl) hV89 rfl) ajV94 (by decide) (by decide)) ajV101 (by decide) (by decide)) ajV122 (by decide) (by decide)) ajV133 (by decide) (by decide)) hV136 rfl)) 56 _ rfl).trans (t81 q hq)) (fun q hq => ((show agr [(1, 2), (1, 3), (1, 6), (1, 8), (6, 8), (6, 9), (6, 10)] [43, 44, 50, 51, 52, 53, 54, 55] V84 V136 from (agr.up (agr.tr (agr.tr (agr.tr (agr.tr (agr.up (agr.up agr.rf hV86 rfl) hV89 rfl) ajV94 (by decide) (by decide)) ajV101 (by decide) (by decide)) ajV122 (by decide) (by decide)) ajV133 (by decide) (by decide)) hV136 rfl)) 57 _ rfl).trans (t82 q hq)) (fun q hq => ((show agr [(1, 2), (1, 3), (1, 6), (1, 8), (6, 8), (6, 9), (6, 10)] [43, 44, 50, 51, 52, 53, 54, 55] V84 V136 from (agr.up (agr.tr (agr.tr (agr.tr (agr.tr (agr.up (agr.up agr.rf hV86 rfl) hV89 rfl) ajV94 (by decide) (by decide)) ajV101 (by decide) (by decide)) ajV122 (by decide) (by decide)) ajV133 (by decide) (by decide)) hV136 rfl)) 61 _ rfl).trans (t80 q hq)) (by rw [(show agr [(1, 2), (1, 3), (1, 6), (1, 8), (6, 8), (6, 9), (6, 10)] [43, 44, 50, 51, 52, 53, 54, 55] V84 V136 from (agr.up (agr.tr (agr.tr (agr.tr (agr.tr (agr.up (agr.up agr.rf hV86 rfl) hV89 rfl) ajV94 (by decide) (by decide)) ajV101 (by decide) (by decide)) ajV122 (by decide) (by decide)) ajV133 (by decide) (by decide)) hV136 rfl)) 56 _ rfl]; exact t76) (by rw [(show agr [(1, 2), (1, 3), (1, 6), (1, 8), (6, 8), (6, 9), (6, 10)] [43, 44, 50, 51, 52, 53, 54, 55] V84 V136 from (agr.up (agr.tr (agr.tr (agr.tr (agr.tr (agr.up (agr.up agr.rf hV86 rfl) hV89 rfl) ajV94 (by decide) (by decide)) ajV101 (by decide) (by decide)) ajV122 (by decide) (by decide)) ajV133 (by decide) (by decide)) hV136 rfl)) 57 _ rfl]; exact t77) (fun m hm => by rw [(show agr [(1, 2), (1, 3), (1, 6), (1, 8), (6, 8), (6, 9), (6, 10)] [43, 44, 50, 51, 52, 53, 54, 55] V84 V136 from (agr.up (agr.tr (agr.tr (agr.tr (agr.tr (agr.up (agr.up agr.rf hV86 rfl) hV89 rfl) ajV94 (by decide) (by decide)) ajV101 (by decide) (by decide)) ajV122 (by decide) (by decide)) ajV133 (by decide) (by decide)) hV136 rfl)) 61 _ rfl]; exact t79 m hm) ((show agr [(1, 2), (1, 3), (1, 6), (1, 8), (6, 8), (6, 9), (6, 10)] [43, 44, 49, 50, 51, 52, 53, 54, 55, 56, 57, 61] V43 V136 from (agr.up (agr.tr (agr.tr (agr.tr (agr.tr (agr.up (agr.up (agr.tr agr.rf ajV84 (by decide) (by decide)) hV86 rfl) hV89 rfl) ajV94 (by decide) (by decide)) ajV101 (by decide) (by decide)) ajV122 (by decide) (by decide)) ajV133 (by decide) (by decide)) hV136 rfl)) 41 _ rfl) (fun _ => (show agr [(1, 2), (1, 3), (1, 6), (1, 8), (6, 8), (6, 9), (6, 10)] [43, 44, 49, 50, 51, 52, 53, 54, 55, 56, 57, 61] V43 V136 from (agr.up (agr.tr (agr.tr (agr.tr (agr.tr (agr.up (agr.up (agr.tr agr.rf ajV84 (by decide) (by decide)) hV86 rfl) hV89 rfl) ajV94 (by decide) (by decide)) ajV101 (by decide) (by decide)) ajV122 (by decide) (by decide)) ajV133 (by decide) (by decide)) hV136 rfl)) 66 _ rfl) (fun _ => (show agr [(1, 2), (1, 3), (1, 6), (1, 8), (6, 8), (6, 9), (6, 10)] [43, 44, 49, 50, 51, 52, 53, 54, 55, 56, 57, 61] V43 V136 from (agr.up (agr.tr (agr.tr (agr.tr (agr.tr (agr.up (agr.up (agr.tr agr.rf ajV84 (by decide) (by decide)) hV86 rfl) hV89 rfl) ajV94 (by decide) (by decide)) ajV101 (by decide) (by decide)) ajV122 (by decide) (by decide)) ajV133 (by decide) (by decide)) hV136 rfl)) 47 _ rfl)
                  have cd149 : CD V136 b := ⟨CB.ag cd.1 (show agr [(1, 2), (1, 3), (1, 6), (1, 7), (1, 8), (6, 8), (6, 9), (6, 10)] [43, 44, 49, 50, 51, 52, 53, 54, 55, 56, 57, 61] V V136 from (agr.up (agr.tr (agr.tr (agr.tr (agr.tr (agr.up (agr.up (agr.tr (agr.tr (agr.tr (agr.tr (agr.tr agr.rf ajV13 (by decide) (by decide)) ajV19 (by decide) (by decide)) ajV28 (by decide) (by decide)) ajV43 (by decide) (by decide)) ajV84 (by decide) (by decide)) hV86 rfl) hV89 rfl) ajV94 (by decide) (by decide)) ajV101 (by decide) (by decide)) ajV122 (by decide) (by decide)) ajV133 (by decide) (by decide)) hV136 rfl)) (fun _ => rfl) (fun _ => rfl), CO.ag cd.2 (show agr [(1, 2), (1, 3), (1, 6), (1, 7), (1, 8), (6, 8), (6, 9), (6, 10)] [43, 44, 49, 50, 51, 52, 53, 54, 55, 56, 57, 61] V V136 from (agr.up (agr.tr (agr.tr (agr.tr (agr.tr (agr.up (agr.up (agr.tr (agr.tr (agr.tr (agr.tr (agr.tr agr.rf ajV13 (by decide) (by decide)) ajV19 (by decide) (by decide)) ajV28 (by decide) (by decide)) ajV43 (by decide) (by decide)) ajV84 (by decide) (by decide)) hV86 rfl) hV89 rfl) ajV94 (by decide) (by decide)) ajV101 (by decide) (by decide)) ajV122 (by decide) (by decide)) ajV133 (by decide) (by decide)) hV136 rfl)) (fun _ => rfl) (fun _ => rfl)⟩
                  have p0150 : p0x V V13 b := p0x.tr (p0x.rf : p0x V V b) (p0x.ag (show agr [(6, 8), (6, 9), (6, 10)] [] V V13 from (agr.tr agr.rf ajV13 (by decide) (by decide))) (fun _ => rfl) (fun _ => rfl))
                  have p0151 : p0x V V19 b := p0x.tr p0150 (p0x.ag (show agr [(1, 3), (6, 8), (6, 9), (6, 10)] [] V13 V19 from (agr.tr agr.rf ajV19 (by decide) (by decide))) (fun _ => rfl) (fun _ => rfl))
                  have p0152 : p0x V V28 b := p0x.tr p0151 (p0x.ag (show agr [(1, 3), (6, 8), (6, 9), (6, 10)] [] V19 V28 from (agr.tr agr.rf ajV28 (by decide) (by decide))) (fun _ => rfl) (fun _ => rfl))
                  have p0153 : p0x V V43 b := p0x.tr p0152 (p0x.ag (show agr [(1, 3), (1, 6), (1, 7), (6, 8), (6, 9), (6, 10)] [] V28 V43 from (agr.tr agr.rf ajV43 (by decide) (by decide))) (fun _ => rfl) (fun _ => rfl))
                  have p0154 : p0x V V84 b := p0x.tr p0153 (p0x.ag (show agr [] [49, 50, 51, 52, 53, 54, 55, 56, 57, 61] V43 V84 from (agr.tr agr.rf ajV84 (by decide) (by decide))) (fun _ => rfl) (fun _ => rfl))
                  have p0155 : p0x V V86 b := p0x.tr p0154 (p0x.ag (show agr [] [50] V84 V86 from (agr.up agr.rf hV86 rfl)) (fun _ => rfl) (fun _ => rfl))
                  have p0156 : p0x V V89 b := p0x.tr p0155 (p0x.ag (show agr [] [51] V86 V89 from (agr.up agr.rf hV89 rfl)) (fun _ => rfl) (fun _ => rfl))
                  have p0157 : p0x V V94 b := p0x.tr p0156 (p0x.ag (show agr [(6, 8), (6, 9), (6, 10)] [] V89 V94 from (agr.tr agr.rf ajV94 (by decide) (by decide))) (fun _ => rfl) (fun _ => rfl))
                  have p0158 : p0x V V101 b := p0x.tr p0157 t100.1
                  have p0159 : p0x V V122 b := p0x.tr p0158 (p0x.ag (show agr [(1, 3), (6, 8), (6, 9), (6, 10)] [] V101 V122 from (agr.tr agr.rf ajV122 (by decide) (by decide))) (fun _ => rfl) (fun _ => rfl))
                  have p0160 : p0x V V133 b := p0x.tr p0159 (p0x.ag (show agr [] [43, 44] V122 V133 from (agr.tr agr.rf ajV133 (by decide) (by decide))) (fun _ => rfl) (fun _ => rfl))
                  have p0161 : p0x V V136 b := p0x.tr p0160 (p0x.ag (show agr [(1, 2)] [] V133 V136 from (agr.up agr.rf hV136 rfl)) (fun _ => rfl) (fun _ => rfl))
                  exact W.zret (v := 1) hx hb hr rfl (fun t ht hW => ⟨⟨1, (V136, L134), rfl, ⟨hMV136, agV136, alL134, fwV136, (by decide), (Imp.mk (fun _ => tx148)), cd149, p0161, (show (V136 1 2).toInt = (V 1 2).toInt ∨ (24 * (b : Int) ≤ (V136 1 2).toInt ∧ (V136 1 2).toInt < 24 * (b : Int) + 24) from by first | omega | ((try (have i_t131 := Imp.go t131 (by omega))); (try (have i_t6 := Imp.go t6 (by omega))); (try (have i_tx := Imp.go tx (by omega))); (try (have i_cd := Imp.go cd (by omega))); (try (have i_cd := Imp.go cd (by omega))); (try (have i_tx := Imp.go tx (by omega))); (try (have i_t6 := Imp.go t6 (by omega))); (try (have i_t131 := Imp.go t131 (by omega))); omega))⟩, by rw [ht]; exact hP, va_K.moved hW.alike hK, hD⟩, hS.F ht⟩) hS.2.2 dX1_readComponent_181
                · skip
                  have f162 : z119.toInt = 0 := b_eq rfl (by decide) c124
                  refine lv_iconst (v := 0) hx hb dX1_readComponent_161 (by decide) ?_
                  have pq163 : (V122 1 2).toInt = ((V 1 2)).toInt := congrArg Int32.toInt ((ajV122 1 2 rfl).trans ((ajV101 1 2 rfl).trans ((ajV94 1 2 rfl).trans ((up2_o hV89 (by decide)).trans ((up2_o hV86 (by decide)).trans ((ajV84 1 2 rfl).trans ((ajV43 1 2 rfl).trans ((ajV28 1 2 rfl).trans ((ajV19 1 2 rfl).trans (ajV13 1 2 rfl))))))))))
                  have r164 : (-1) ≤ ((V 1 2)).toInt ∧ ((V 1 2)).toInt ≤ 47 := hMV 1 2
                  have cd165 : CD V122 b := ⟨CB.ag cd.1 (show agr [(1, 3), (1, 6), (1, 7), (1, 8), (6, 8), (6, 9), (6, 10)] [43, 44, 49, 50, 51, 52, 53, 54, 55, 56, 57, 61] V V122 from (agr.tr (agr.tr (agr.tr (agr.up (agr.up (agr.tr (agr.tr (agr.tr (agr.tr (agr.tr agr.rf ajV13 (by decide) (by decide)) ajV19 (by decide) (by decide)) ajV28 (by decide) (by decide)) ajV43 (by decide) (by decide)) ajV84 (by decide) (by decide)) hV86 rfl) hV89 rfl) ajV94 (by decide) (by decide)) ajV101 (by decide) (by decide)) ajV122 (by decide) (by decide))) (fun _ => rfl) (fun _ => rfl), CO.ag cd.2 (show agr [(1, 3), (1, 6), (1, 7), (1, 8), (6, 8), (6, 9), (6, 10)] [43, 44, 49, 50, 51, 52, 53, 54, 55, 56, 57, 61] V V122 from (agr.tr (agr.tr (agr.tr (agr.up (agr.up (agr.tr (agr.tr (agr.tr (agr.tr (agr.tr agr.rf ajV13 (by decide) (by decide)) ajV19 (by decide) (by decide)) ajV28 (by decide) (by decide)) ajV43 (by decide) (by decide)) ajV84 (by decide) (by decide)) hV86 rfl) hV89 rfl) ajV94 (by decide) (by decide)) ajV101 (by decide) (by decide)) ajV122 (by decide) (by decide))) (fun _ => rfl) (fun _ => rfl)⟩
                  have p0166 : p0x V V13 b := p0x.tr (p0x.rf : p0x V V b) (p0x.ag (show agr [(6, 8), (6, 9), (6, 10)] [] V V13 from (agr.tr agr.rf ajV13 (by decide) (by decide))) (fun _ => rfl) (fun _ => rfl))
                  have p0167 : p0x V V19 b := p0x.tr p0166 (p0x.ag (show agr [(1, 3), (6, 8), (6, 9), (6, 10)] [] V13 V19 from (agr.tr agr.rf ajV19 (by decide) (by decide))) (fun _ => rfl) (fun _ => rfl))
                  have p0168 : p0x V V28 b := p0x.tr p0167 (p0x.ag (show agr [(1, 3), (6, 8), (6, 9), (6, 10)] [] V19 V28 from (agr.tr agr.rf ajV28 (by decide) (by decide))) (fun _ => rfl) (fun _ => rfl))
                  have p0169 : p0x V V43 b := p0x.tr p0168 (p0x.ag (show agr [(1, 3), (1, 6), (1, 7), (6, 8), (6, 9), (6, 10)] [] V28 V43 from (agr.tr agr.rf ajV43 (by decide) (by decide))) (fun _ => rfl) (fun _ => rfl))
                  have p0170 : p0x V V84 b := p0x.tr p0169 (p0x.ag (show agr [] [49, 50, 51, 52, 53, 54, 55, 56, 57, 61] V43 V84 from (agr.tr agr.rf ajV84 (by decide) (by decide))) (fun _ => rfl) (fun _ => rfl))
                  have p0171 : p0x V V86 b := p0x.tr p0170 (p0x.ag (show agr [] [50] V84 V86 from (agr.up agr.rf hV86 rfl)) (fun _ => rfl) (fun _ => rfl))
                  have p0172 : p0x V V89 b := p0x.tr p0171 (p0x.ag (show agr [] [51] V86 V89 from (agr.up agr.rf hV89 rfl)) (fun _ => rfl) (fun _ => rfl))
                  have p0173 : p0x V V94 b := p0x.tr p0172 (p0x.ag (show agr [(6, 8), (6, 9), (6, 10)] [] V89 V94 from (agr.tr agr.rf ajV94 (by decide) (by decide))) (fun _ => rfl) (fun _ => rfl))
                  have p0174 : p0x V V101 b := p0x.tr p0173 t100.1
                  have p0175 : p0x V V122 b := p0x.tr p0174 (p0x.ag (show agr [(1, 3), (6, 8), (6, 9), (6, 10)] [] V101 V122 from (agr.tr agr.rf ajV122 (by decide) (by decide))) (fun _ => rfl) (fun _ => rfl))
                  exact W.zret (v := 0) hx hb hr rfl (fun t ht hW => ⟨⟨0, (V122, L123), rfl, ⟨hMV122, agV122, alL123, fwV122, (by decide), (Imp.mk (fun hp => absurd hp (by decide))), cd165, p0175, (show (V122 1 2).toInt = (V 1 2).toInt ∨ (24 * (b : Int) ≤ (V122 1 2).toInt ∧ (V122 1 2).toInt < 24 * (b : Int) + 24) from by first | omega | ((try (have i_t6 := Imp.go t6 (by omega))); (try (have i_tx := Imp.go tx (by omega))); (try (have i_cd := Imp.go cd (by omega))); (try (have i_cd := Imp.go cd (by omega))); (try (have i_tx := Imp.go tx (by omega))); (try (have i_t6 := Imp.go t6 (by omega))); omega))⟩, by rw [ht]; exact hP, va_K.moved hW.alike hK, hD⟩, hS.F ht⟩) hS.2.2 dX1_readComponent_162
            · skip
              have f176 : 151 < ((V43 6 9)).toInt := b_nle rfl (by decide) c64
              refine lv_aload_n hx hb dX1_readComponent_85 rfl (lv_at hl 1 rfl) ?_
              refine lv_iconst (v := 1) hx hb dX1_readComponent_86 (by decide) ?_
              have r177 : Int32.toInt 1 = 1 := by decide
              refine gA_int (gA_runV (As := [.int 1]) (rest := []) (ci := 1) (q0 := 1) hx hb hml hown hg hP hD hK hS hA hnw hgk (x_wrong l D ks H.size ad kk V43 L44 Z 1 hMV43 ) w867 w869 w6 w162 w870 rfl xgReader hdV_yX1_wrong ⟨Nat.le_of_ble_eq_true rfl, Nat.le_of_ble_eq_true rfl⟩ rfl hl.1 rfl (Nat.le_of_ble_eq_true rfl) dX1_readComponent_87 ⟨Nat.le_of_ble_eq_true rfl, Nat.le_of_ble_eq_true rfl⟩) hP hD hK hS hA (fun z178 u179 H locs w180 hP hD hK hS => ?_)
              obtain ⟨V181, L182⟩ := u179
              obtain ⟨hMV181, ajV181, axL182, rgz178⟩ := w180
              have axL182 : L44 = L182 := Eq.symm axL182
              subst axL182
              have hP : va_P D vwCl (xw ad kk V181 L44 Z) H := hP
              have hD : va_D A (xw ad kk V181 L44 Z) := hD
              have hMV181 : rgd bX V181 := hMV181
              have ajV181 : agr [(1, 3)] [] V43 V181 := ajV181
              have agV181 : agr [(1, 2), (1, 3), (1, 6), (1, 7), (1, 8), (6, 8), (6, 9), (6, 10)] [43, 44, 49, 50, 51, 52, 53, 54, 55, 56, 57, 61] V V181 := agV43.tr ajV181 (by decide) (by decide)
              have fwV181 : frX (xR b) V V181 := frX.tr fwV43 (frX.ag ajV181 (by decide) (by decide))
              have rgz178 : 0 ≤ z178.toInt ∧ z178.toInt ≤ 0 := rgz178
              have pq183 : (V181 1 2).toInt = ((V 1 2)).toInt := congrArg Int32.toInt ((ajV181 1 2 rfl).trans ((ajV43 1 2 rfl).trans ((ajV28 1 2 rfl).trans ((ajV19 1 2 rfl).trans (ajV13 1 2 rfl)))))
              have r184 : (-1) ≤ ((V 1 2)).toInt ∧ ((V 1 2)).toInt ≤ 47 := hMV 1 2
              have cd185 : CD V181 b := ⟨CB.ag cd.1 (show agr [(1, 3), (1, 6), (1, 7), (6, 8), (6, 9), (6, 10)] [] V V181 from (agr.tr (agr.tr (agr.tr (agr.tr (agr.tr agr.rf ajV13 (by decide) (by decide)) ajV19 (by decide) (by decide)) ajV28 (by decide) (by decide)) ajV43 (by decide) (by decide)) ajV181 (by decide) (by decide))) (fun _ => rfl) (fun _ => rfl), CO.ag cd.2 (show agr [(1, 3), (1, 6), (1, 7), (6, 8), (6, 9), (6, 10)] [] V V181 from (agr.tr (agr.tr (agr.tr (agr.tr (agr.tr agr.rf ajV13 (by decide) (by decide)) ajV19 (by decide) (by decide)) ajV28 (by decide) (by decide)) ajV43 (by decide) (by decide)) ajV181 (by decide) (by decide))) (fun _ => rfl) (fun _ => rfl)⟩
              have p0186 : p0x V V13 b := p0x.tr (p0x.rf : p0x V V b) (p0x.ag (show agr [(6, 8), (6, 9), (6, 10)] [] V V13 from (agr.tr agr.rf ajV13 (by decide) (by decide))) (fun _ => rfl) (fun _ => rfl))
              have p0187 : p0x V V19 b := p0x.tr p0186 (p0x.ag (show agr [(1, 3), (6, 8), (6, 9), (6, 10)] [] V13 V19 from (agr.tr agr.rf ajV19 (by decide) (by decide))) (fun _ => rfl) (fun _ => rfl))
              have p0188 : p0x V V28 b := p0x.tr p0187 (p0x.ag (show agr [(1, 3), (6, 8), (6, 9), (6, 10)] [] V19 V28 from (agr.tr agr.rf ajV28 (by decide) (by decide))) (fun _ => rfl) (fun _ => rfl))
              have p0189 : p0x V V43 b := p0x.tr p0188 (p0x.ag (show agr [(1, 3), (1, 6), (1, 7), (6, 8), (6, 9), (6, 10)] [] V28 V43 from (agr.tr agr.rf ajV43 (by decide) (by decide))) (fun _ => rfl) (fun _ => rfl))
              have p0190 : p0x V V181 b := p0x.tr p0189 (p0x.ag (show agr [(1, 3)] [] V43 V181 from (agr.tr agr.rf ajV181 (by decide) (by decide))) (fun _ => rfl) (fun _ => rfl))
              exact W.zret (v := z178) hx hb hr (nb_ok (by omega)) (fun t ht hW => ⟨⟨z178, (V181, L44), rfl, ⟨hMV181, agV181, alL44, fwV181, (show 0 ≤ z178.toInt ∧ z178.toInt ≤ 1 from by first | omega | ((try (have i_t6 := Imp.go t6 (by omega))); (try (have i_tx := Imp.go tx (by omega))); (try (have i_cd := Imp.go cd (by omega))); (try (have i_cd := Imp.go cd (by omega))); (try (have i_tx := Imp.go tx (by omega))); (try (have i_t6 := Imp.go t6 (by omega))); omega)), (Imp.mk (fun hp => by exfalso; first | omega | ((try (have i_t6 := Imp.go t6 (by omega))); (try (have i_tx := Imp.go tx (by omega))); (try (have i_cd := Imp.go cd (by omega))); (try (have i_cd := Imp.go cd (by omega))); (try (have i_tx := Imp.go tx (by omega))); (try (have i_t6 := Imp.go t6 (by omega))); omega))), cd185, p0190, (show (V181 1 2).toInt = (V 1 2).toInt ∨ (24 * (b : Int) ≤ (V181 1 2).toInt ∧ (V181 1 2).toInt < 24 * (b : Int) + 24) from by first | omega | ((try (have i_t6 := Imp.go t6 (by omega))); (try (have i_tx := Imp.go tx (by omega))); (try (have i_cd := Imp.go cd (by omega))); (try (have i_cd := Imp.go cd (by omega))); (try (have i_tx := Imp.go tx (by omega))); (try (have i_t6 := Imp.go t6 (by omega))); omega))⟩, by rw [ht]; exact hP, va_K.moved hW.alike hK, hD⟩, hS.F ht⟩) hS.2.2 dX1_readComponent_90
        · skip
          have f191 : z40.toInt = 0 := b_eq rfl (by decide) c45
          refine lv_iconst (v := 0) hx hb dX1_readComponent_57 (by decide) ?_
          have pq192 : (V43 1 2).toInt = ((V 1 2)).toInt := congrArg Int32.toInt ((ajV43 1 2 rfl).trans ((ajV28 1 2 rfl).trans ((ajV19 1 2 rfl).trans (ajV13 1 2 rfl))))
          have r193 : (-1) ≤ ((V 1 2)).toInt ∧ ((V 1 2)).toInt ≤ 47 := hMV 1 2
          have cd194 : CD V43 b := ⟨CB.ag cd.1 (show agr [(1, 3), (1, 6), (1, 7), (6, 8), (6, 9), (6, 10)] [] V V43 from (agr.tr (agr.tr (agr.tr (agr.tr agr.rf ajV13 (by decide) (by decide)) ajV19 (by decide) (by decide)) ajV28 (by decide) (by decide)) ajV43 (by decide) (by decide))) (fun _ => rfl) (fun _ => rfl), CO.ag cd.2 (show agr [(1, 3), (1, 6), (1, 7), (6, 8), (6, 9), (6, 10)] [] V V43 from (agr.tr (agr.tr (agr.tr (agr.tr agr.rf ajV13 (by decide) (by decide)) ajV19 (by decide) (by decide)) ajV28 (by decide) (by decide)) ajV43 (by decide) (by decide))) (fun _ => rfl) (fun _ => rfl)⟩
          have p0195 : p0x V V13 b := p0x.tr (p0x.rf : p0x V V b) (p0x.ag (show agr [(6, 8), (6, 9), (6, 10)] [] V V13 from (agr.tr agr.rf ajV13 (by decide) (by decide))) (fun _ => rfl) (fun _ => rfl))
          have p0196 : p0x V V19 b := p0x.tr p0195 (p0x.ag (show agr [(1, 3), (6, 8), (6, 9), (6, 10)] [] V13 V19 from (agr.tr agr.rf ajV19 (by decide) (by decide))) (fun _ => rfl) (fun _ => rfl))
          have p0197 : p0x V V28 b := p0x.tr p0196 (p0x.ag (show agr [(1, 3), (6, 8), (6, 9), (6, 10)] [] V19 V28 from (agr.tr agr.rf ajV28 (by decide) (by decide))) (fun _ => rfl) (fun _ => rfl))
          have p0198 : p0x V V43 b := p0x.tr p0197 (p0x.ag (show agr [(1, 3), (1, 6), (1, 7), (6, 8), (6, 9), (6, 10)] [] V28 V43 from (agr.tr agr.rf ajV43 (by decide) (by decide))) (fun _ => rfl) (fun _ => rfl))
          exact W.zret (v := 0) hx hb hr rfl (fun t ht hW => ⟨⟨0, (V43, L44), rfl, ⟨hMV43, agV43, alL44, fwV43, (by decide), (Imp.mk (fun hp => absurd hp (by decide))), cd194, p0198, (show (V43 1 2).toInt = (V 1 2).toInt ∨ (24 * (b : Int) ≤ (V43 1 2).toInt ∧ (V43 1 2).toInt < 24 * (b : Int) + 24) from by first | omega | ((try (have i_t6 := Imp.go t6 (by omega))); (try (have i_tx := Imp.go tx (by omega))); (try (have i_cd := Imp.go cd (by omega))); (try (have i_cd := Imp.go cd (by omega))); (try (have i_tx := Imp.go tx (by omega))); (try (have i_t6 := Imp.go t6 (by omega))); omega))⟩, by rw [ht]; exact hP, va_K.moved hW.alike hK, hD⟩, hS.F ht⟩) hS.2.2 dX1_readComponent_58
    · skip
      have f199 : z16.toInt = 0 := b_eq rfl (by decide) c21
      refine lv_iconst (v := 0) hx hb dX1_readComponent_33 (by decide) ?_
      have pq200 : (V19 1 2).toInt = ((V 1 2)).toInt := congrArg Int32.toInt ((ajV19 1 2 rfl).trans (ajV13 1 2 rfl))
      have r201 : (-1) ≤ ((V 1 2)).toInt ∧ ((V 1 2)).toInt ≤ 47 := hMV 1 2
      have cd202 : CD V19 b := ⟨CB.ag cd.1 (show agr [(1, 3), (6, 8), (6, 9), (6, 10)] [] V V19 from (agr.tr (agr.tr agr.rf ajV13 (by decide) (by decide)) ajV19 (by decide) (by decide))) (fun _ => rfl) (fun _ => rfl), CO.ag cd.2 (show agr [(1, 3), (6, 8), (6, 9), (6, 10)] [] V V19 from (agr.tr (agr.tr agr.rf ajV13 (by decide) (by decide)) ajV19 (by decide) (by decide))) (fun _ => rfl) (fun _ => rfl)⟩
      have p0203 : p0x V V13 b := p0x.tr (p0x.rf : p0x V V b) (p0x.ag (show agr [(6, 8), (6, 9), (6, 10)] [] V V13 from (agr.tr agr.rf ajV13 (by decide) (by decide))) (fun _ => rfl) (fun _ => rfl))
      have p0204 : p0x V V19 b := p0x.tr p0203 (p0x.ag (show agr [(1, 3), (6, 8), (6, 9), (6, 10)] [] V13 V19 from (agr.tr agr.rf ajV19 (by decide) (by decide))) (fun _ => rfl) (fun _ => rfl))
      exact W.zret (v := 0) hx hb hr rfl (fun t ht hW => ⟨⟨0, (V19, L20), rfl, ⟨hMV19, agV19, alL20, fwV19, (by decide), (Imp.mk (fun hp => absurd hp (by decide))), cd202, p0204, (show (V19 1 2).toInt = (V 1 2).toInt ∨ (24 * (b : Int) ≤ (V19 1 2).toInt ∧ (V19 1 2).toInt < 24 * (b : Int) + 24) from by first | omega | ((try (have i_t6 := Imp.go t6 (by omega))); (try (have i_tx := Imp.go tx (by omega))); (try (have i_cd := Imp.go cd (by omega))); (try (have i_cd := Imp.go cd (by omega))); (try (have i_tx := Imp.go tx (by omega))); (try (have i_t6 := Imp.go t6 (by omega))); omega))⟩, by rw [ht]; exact hP, va_K.moved hW.alike hK, hD⟩, hS.F ht⟩) hS.2.2 dX1_readComponent_34
  · skip
    have f205 : z3.toInt ≠ 0 := b_neq rfl (by decide) c7
    refine lv_aload_n hx hb dX1_readComponent_13 rfl (lv_at hl 0 rfl) ?_
    refine lv_iconst (v := 5) hx hb dX1_readComponent_14 (by decide) ?_
    have r206 : Int32.toInt 5 = 5 := by decide
    refine gA_int (gA_runV (As := [.int 5]) (rest := []) (ci := 1) (q0 := 1) hx hb hml hown hg hP hD hK hS hA hnw hgk (x_wrong l D ks H.size ad kk V L Z 5 hMV ) w867 w869 w6 w162 w870 rfl xgReader hdV_yX1_wrong ⟨Nat.le_of_ble_eq_true rfl, Nat.le_of_ble_eq_true rfl⟩ rfl hl.1 rfl (Nat.le_of_ble_eq_true rfl) dX1_readComponent_15 ⟨Nat.le_of_ble_eq_true rfl, Nat.le_of_ble_eq_true rfl⟩) hP hD hK hS hA (fun z207 u208 H locs w209 hP hD hK hS => ?_)
    obtain ⟨V210, L211⟩ := u208
    obtain ⟨hMV210, ajV210, axL211, rgz207⟩ := w209
    have axL211 : L = L211 := Eq.symm axL211
    subst axL211
    have hP : va_P D vwCl (xw ad kk V210 L Z) H := hP
    have hD : va_D A (xw ad kk V210 L Z) := hD
    have hMV210 : rgd bX V210 := hMV210
    have ajV210 : agr [(1, 3)] [] V V210 := ajV210
    have agV210 : agr [(1, 2), (1, 3), (1, 6), (1, 7), (1, 8), (6, 8), (6, 9), (6, 10)] [43, 44, 49, 50, 51, 52, 53, 54, 55, 56, 57, 61] V V210 := agV.tr ajV210 (by decide) (by decide)
    have fwV210 : frX (xR b) V V210 := frX.tr fwV (frX.ag ajV210 (by decide) (by decide))
    have rgz207 : 0 ≤ z207.toInt ∧ z207.toInt ≤ 0 := rgz207
    have pq212 : (V210 1 2).toInt = ((V 1 2)).toInt := congrArg Int32.toInt (ajV210 1 2 rfl)
    have r213 : (-1) ≤ ((V 1 2)).toInt ∧ ((V 1 2)).toInt ≤ 47 := hMV 1 2
    have cd214 : CD V210 b := ⟨CB.ag cd.1 (show agr [(1, 3)] [] V V210 from (agr.tr agr.rf ajV210 (by decide) (by decide))) (fun _ => rfl) (fun _ => rfl), CO.ag cd.2 (show agr [(1, 3)] [] V V210 from (agr.tr agr.rf ajV210 (by decide) (by decide))) (fun _ => rfl) (fun _ => rfl)⟩
    have p0215 : p0x V V210 b := p0x.tr (p0x.rf : p0x V V b) (p0x.ag (show agr [(1, 3)] [] V V210 from (agr.tr agr.rf ajV210 (by decide) (by decide))) (fun _ => rfl) (fun _ => rfl))
    exact W.zret (v := z207) hx hb hr (nb_ok (by omega)) (fun t ht hW => ⟨⟨z207, (V210, L), rfl, ⟨hMV210, agV210, alL, fwV210, (show 0 ≤ z207.toInt ∧ z207.toInt ≤ 1 from by first | omega | ((try (have i_t6 := Imp.go t6 (by omega))); (try (have i_tx := Imp.go tx (by omega))); (try (have i_cd := Imp.go cd (by omega))); (try (have i_cd := Imp.go cd (by omega))); (try (have i_tx := Imp.go tx (by omega))); (try (have i_t6 := Imp.go t6 (by omega))); omega)), (Imp.mk (fun hp => by exfalso; first | omega | ((try (have i_t6 := Imp.go t6 (by omega))); (try (have i_tx := Imp.go tx (by omega))); (try (have i_cd := Imp.go cd (by omega))); (try (have i_cd := Imp.go cd (by omega))); (try (have i_tx := Imp.go tx (by omega))); (try (have i_t6 := Imp.go t6 (by omega))); omega))), cd214, p0215, (show (V210 1 2).toInt = (V 1 2).toInt ∨ (24 * (b : Int) ≤ (V210 1 2).toInt ∧ (V210 1 2).toInt < 24 * (b : Int) + 24) from by first | omega | ((try (have i_t6 := Imp.go t6 (by omega))); (try (have i_tx := Imp.go tx (by omega))); (try (have i_cd := Imp.go cd (by omega))); (try (have i_cd := Imp.go cd (by omega))); (try (have i_tx := Imp.go tx (by omega))); (try (have i_t6 := Imp.go t6 (by omega))); omega))⟩, by rw [ht]; exact hP, va_K.moved hW.alike hK, hD⟩, hS.F ht⟩) hS.2.2 dX1_readComponent_18
abbrev r_x_readStatement : Room := { frames := 92, cells := 0, slots := 0, locals := 2708 }
abbrev q_x_readStatement (D : va_G) (ks : KS) (ad : Nat → Nat) (kk : Nat → ClassId) (V : Vf) (L : Lf) (Z : XZ) (b : Nat) (A : Nat → Prop) : Array Value → State → Outcome → State → Prop := va_Qi (fun (r : Int32) (u : Vf × Lf) => rgd bX u.1 ∧ agr [(1, 2), (1, 3), (1, 4), (1, 6), (1, 7), (1, 8), (6, 8), (6, 9), (6, 10)] [41, 42, 43, 44, 45, 46, 47, 48, 49, 50, 51, 52, 53, 54, 55, 56, 57, 61, 62, 63, 64, 65, 66] V u.1 ∧ agL [1, 6, 44] L u.2 ∧ frX (xR b) V u.1 ∧ (0 ≤ r.toInt ∧ r.toInt ≤ 1) ∧ (Imp (r.toInt = 1) (TX u.1 b)) ∧ (CD u.1 b) ∧ (p0x V u.1 b) ∧ ((u.1 1 2).toInt = (V 1 2).toInt ∨ (24 * (b : Int) ≤ (u.1 1 2).toInt ∧ (u.1 1 2).toInt < 24 * (b : Int) + 24))) (fun u t => gq D A (xw ad kk u.1 u.2 Z) (xty kk Z) t) A
set_option maxHeartbeats 4000000 in
set_option maxRecDepth 100000 in
theorem x_readStatement (l : Launch) (D : va_G) (ks : KS) (sz : Nat) (ad : Nat → Nat) (kk : Nat → ClassId) (V : Vf) (L : Lf) (Z : XZ) (b : Nat) (hMV : rgd bX V) (hb2 : b < 2) (rbk : (V 1 1).toInt = (b : Int)) (own : (V 1 2).toInt = -1) (cd : CD V b) (tx : TX V b)  : Met l yX1_readStatement (Cond.code yX1_readStatement cX1_readStatement 1 (some .boolean) :: GW) r_x_readStatement (va_Pc [.ref (ad 1)] (gp D ks (xw ad kk V L Z) (xty kk Z) sz)) (q_x_readStatement D ks ad kk V L Z  b (va_A (xw ad kk V L Z) sz)) 0 0 (va_A (xw ad kk V L Z) sz) := by
  refine g_met (q_x_readStatement D ks ad kk V L Z  b) (by decide) (Nat.le_of_ble_eq_true rfl) ?_
  intro p e s m below meth c A ls H locs hx hb hr hml hown hg hlocks hin hnw hgk hP hK hD hS hA hl
  have hown : s.vm.findClass RX1 = some m.cls := hown
  have hl : lv_has ls 1 [(0, .ref (ad 1))] := hl
  have hP : va_P D vwCl (xw ad kk V L Z) H := hP
  have hD : va_D A (xw ad kk V L Z) := hD
  have hK : va_K D vwCl (xty kk Z) s := hK
  have agV : agr [(1, 2), (1, 3), (1, 4), (1, 6), (1, 7), (1, 8), (6, 8), (6, 9), (6, 10)] [41, 42, 43, 44, 45, 46, 47, 48, 49, 50, 51, 52, 53, 54, 55, 56, 57, 61, 62, 63, 64, 65, 66] V V := agr.rf
  have alL : agL [1, 6, 44] L L := agL.rf
  have fwV : frX (xR b) V V := frX.rf
  have r1 : (-1) ≤ ((V 1 1)).toInt ∧ ((V 1 1)).toInt ≤ 1 := hMV 1 1
  have r2 : (-1) ≤ ((V 1 2)).toInt ∧ ((V 1 2)).toInt ≤ 47 := hMV 1 2
  refine lv_aload_n hx hb dX1_readStatement_0 rfl (lv_at hl 0 rfl) ?_
  refine va_get (D := D) (ci := 1) (v := .ref (ad 6)) (fs := (xfReader ad V L Z)) (C := RX1) (T := TX1) (N := 9) hx hb hg inX1 hown hK hP 1 xgReader rfl 0 (by decide) (hg _ w304) (fun _ h9 => h9) rfl dX1_readStatement_1 ?_
  refine va_getN (D := D) (ci := 9) (v := .int (V 6 9)) (fs := (xfTape ad V L Z)) (C := RX9) (T := TX9) (N := 12) hx hb hg inX9 hown hK hP 6 xgTape rfl 9 (by decide) (hnw.use 262 n262 rfl) (fun _ h9 => h9) rfl dX1_readStatement_4 ?_
  by_cases q3 : (V 6 9) = 128
  · refine g_top (v := 128) q3 ?_
    have fq3 : ((V 6 9)).toInt = 128 := b_eq rfl (by decide) q3
    refine lv_tableIn (x := 128) (off := 49) (tgt := 56) hx hb dX1_readStatement_7 (by decide) (by decide) (by decide) (by decide) ?_
    refine lv_aload_n hx hb dX1_readStatement_56 rfl (lv_at hl 0 rfl) ?_
    refine gA_int (gA_runV (As := []) (rest := []) (ci := 1) (q0 := 1) hx hb hml hown hg hP hD hK hS hA hnw hgk (x_readType l D ks H.size ad kk V L Z (b) hMV (show b < 2 from by first | omega | ((try (have i_tx := Imp.go tx (by omega))); (try (have i_cd := Imp.go cd (by omega))); (try (have i_cd := Imp.go cd (by omega))); (try (have i_tx := Imp.go tx (by omega))); omega)) (show (V 1 1).toInt = (b : Int) from by first | omega | ((try (have i_tx := Imp.go tx (by omega))); (try (have i_cd := Imp.go cd (by omega))); (try (have i_cd := Imp.go cd (by omega))); (try (have i_tx := Imp.go tx (by omega))); omega)) cd tx) w859 w861 w5 w162 w862 rfl xgReader hdV_yX1_readType ⟨Nat.le_of_ble_eq_true rfl, Nat.le_of_ble_eq_true rfl⟩ rfl hl.1 rfl (Nat.le_of_ble_eq_true rfl) dX1_readStatement_57 ⟨Nat.le_of_ble_eq_true rfl, Nat.le_of_ble_eq_true rfl⟩) hP hD hK hS hA (fun z4 u5 H locs w6 hP hD hK hS => ?_)
    obtain ⟨V10, L11⟩ := u5
    obtain ⟨hMV10, ajV10, axL11, fyV10, rgz4, t7, t8, t9⟩ := w6
    have alL11 : agL [1, 6, 44] L L11 := agL.tr alL axL11 (by decide)
    have hP : va_P D vwCl (xw ad kk V10 L11 Z) H := hP
    have hD : va_D A (xw ad kk V10 L11 Z) := hD
    have hMV10 : rgd bX V10 := hMV10
    have ajV10 : agr [(1, 3), (1, 6), (1, 7), (6, 8), (6, 9), (6, 10)] [43, 44, 45] V V10 := ajV10
    have agV10 : agr [(1, 2), (1, 3), (1, 4), (1, 6), (1, 7), (1, 8), (6, 8), (6, 9), (6, 10)] [41, 42, 43, 44, 45, 46, 47, 48, 49, 50, 51, 52, 53, 54, 55, 56, 57, 61, 62, 63, 64, 65, 66] V V10 := agV.tr ajV10 (by decide) (by decide)
    have fwV10 : frX (xR b) V V10 := frX.tr fwV (fyV10)
    have rgz4 : 0 ≤ z4.toInt ∧ z4.toInt ≤ 1 := rgz4
    have t7 : TX V10 b := t7
    have t8 : CD V10 b := t8
    have t9 : px V V10 b := t9
    have pq12 : (V10 1 2).toInt = ((V 1 2)).toInt := congrArg Int32.toInt (ajV10 1 2 rfl)
    have p013 : p0x V V10 b := p0x.tr (p0x.rf : p0x V V b) t9.1
    exact W.zret (v := z4) hx hb hr (nb_ok (by omega)) (fun t ht hW => ⟨⟨z4, (V10, L11), rfl, ⟨hMV10, agV10, alL11, fwV10, (show 0 ≤ z4.toInt ∧ z4.toInt ≤ 1 from by first | omega | ((try (have i_tx := Imp.go tx (by omega))); (try (have i_cd := Imp.go cd (by omega))); (try (have i_cd := Imp.go cd (by omega))); (try (have i_tx := Imp.go tx (by omega))); omega)), (Imp.mk (fun _ => t7)), t8, p013, (show (V10 1 2).toInt = (V 1 2).toInt ∨ (24 * (b : Int) ≤ (V10 1 2).toInt ∧ (V10 1 2).toInt < 24 * (b : Int) + 24) from by first | omega | ((try (have i_tx := Imp.go tx (by omega))); (try (have i_cd := Imp.go cd (by omega))); (try (have i_cd := Imp.go cd (by omega))); (try (have i_tx := Imp.go tx (by omega))); omega))⟩, by rw [ht]; exact hP, va_K.moved hW.alike hK, hD⟩, hS.F ht⟩) hS.2.2 dX1_readStatement_60
  have gq3 : ((V 6 9)).toInt ≠ 128 := b_neq rfl (by decide) q3
  by_cases q14 : (V 6 9) = 129
  · refine g_top (v := 129) q14 ?_
    have fq14 : ((V 6 9)).toInt = 129 := b_eq rfl (by decide) q14
    refine lv_tableIn (x := 129) (off := 69) (tgt := 76) hx hb dX1_readStatement_7 (by decide) (by decide) (by decide) (by decide) ?_
    refine lv_aload_n hx hb dX1_readStatement_76 rfl (lv_at hl 0 rfl) ?_
    refine lv_iconst (v := 1) hx hb dX1_readStatement_77 (by decide) ?_
    have r15 : Int32.toInt 1 = 1 := by decide
    refine gA_int (gA_runV (As := [.int 1]) (rest := []) (ci := 1) (q0 := 1) hx hb hml hown hg hP hD hK hS hA hnw hgk (x_wrong l D ks H.size ad kk V L Z 1 hMV ) w867 w869 w6 w162 w870 rfl xgReader hdV_yX1_wrong ⟨Nat.le_of_ble_eq_true rfl, Nat.le_of_ble_eq_true rfl⟩ rfl hl.1 rfl (Nat.le_of_ble_eq_true rfl) dX1_readStatement_78 ⟨Nat.le_of_ble_eq_true rfl, Nat.le_of_ble_eq_true rfl⟩) hP hD hK hS hA (fun z16 u17 H locs w18 hP hD hK hS => ?_)
    obtain ⟨V19, L20⟩ := u17
    obtain ⟨hMV19, ajV19, axL20, rgz16⟩ := w18
    have axL20 : L = L20 := Eq.symm axL20
    subst axL20
    have hP : va_P D vwCl (xw ad kk V19 L Z) H := hP
    have hD : va_D A (xw ad kk V19 L Z) := hD
    have hMV19 : rgd bX V19 := hMV19
    have ajV19 : agr [(1, 3)] [] V V19 := ajV19
    have agV19 : agr [(1, 2), (1, 3), (1, 4), (1, 6), (1, 7), (1, 8), (6, 8), (6, 9), (6, 10)] [41, 42, 43, 44, 45, 46, 47, 48, 49, 50, 51, 52, 53, 54, 55, 56, 57, 61, 62, 63, 64, 65, 66] V V19 := agV.tr ajV19 (by decide) (by decide)
    have fwV19 : frX (xR b) V V19 := frX.tr fwV (frX.ag ajV19 (by decide) (by decide))
    have rgz16 : 0 ≤ z16.toInt ∧ z16.toInt ≤ 0 := rgz16
    have pq21 : (V19 1 2).toInt = ((V 1 2)).toInt := congrArg Int32.toInt (ajV19 1 2 rfl)
    have cd22 : CD V19 b := ⟨CB.ag cd.1 (show agr [(1, 3)] [] V V19 from (agr.tr agr.rf ajV19 (by decide) (by decide))) (fun _ => rfl) (fun _ => rfl), CO.ag cd.2 (show agr [(1, 3)] [] V V19 from (agr.tr agr.rf ajV19 (by decide) (by decide))) (fun _ => rfl) (fun _ => rfl)⟩
    have p023 : p0x V V19 b := p0x.tr (p0x.rf : p0x V V b) (p0x.ag (show agr [(1, 3)] [] V V19 from (agr.tr agr.rf ajV19 (by decide) (by decide))) (fun _ => rfl) (fun _ => rfl))
    exact W.zret (v := z16) hx hb hr (nb_ok (by omega)) (fun t ht hW => ⟨⟨z16, (V19, L), rfl, ⟨hMV19, agV19, alL, fwV19, (show 0 ≤ z16.toInt ∧ z16.toInt ≤ 1 from by first | omega | ((try (have i_tx := Imp.go tx (by omega))); (try (have i_cd := Imp.go cd (by omega))); (try (have i_cd := Imp.go cd (by omega))); (try (have i_tx := Imp.go tx (by omega))); omega)), (Imp.mk (fun hp => by exfalso; omega)), cd22, p023, (show (V19 1 2).toInt = (V 1 2).toInt ∨ (24 * (b : Int) ≤ (V19 1 2).toInt ∧ (V19 1 2).toInt < 24 * (b : Int) + 24) from by first | omega | ((try (have i_tx := Imp.go tx (by omega))); (try (have i_cd := Imp.go cd (by omega))); (try (have i_cd := Imp.go cd (by omega))); (try (have i_tx := Imp.go tx (by omega))); omega))⟩, by rw [ht]; exact hP, va_K.moved hW.alike hK, hD⟩, hS.F ht⟩) hS.2.2 dX1_readStatement_81
  have gq14 : ((V 6 9)).toInt ≠ 129 := b_neq rfl (by decide) q14
  by_cases q24 : (V 6 9) = 130
  · refine g_top (v := 130) q24 ?_
    have fq24 : ((V 6 9)).toInt = 130 := b_eq rfl (by decide) q24
    refine lv_tableIn (x := 130) (off := 54) (tgt := 61) hx hb dX1_readStatement_7 (by decide) (by decide) (by decide) (by decide) ?_
    refine lv_aload_n hx hb dX1_readStatement_61 rfl (lv_at hl 0 rfl) ?_
    refine gA_int (gA_runV (As := []) (rest := []) (ci := 1) (q0 := 1) hx hb hml hown hg hP hD hK hS hA hnw hgk (x_readSetting l D ks H.size ad kk V L Z (b) hMV (show b < 2 from by first | omega | ((try (have i_tx := Imp.go tx (by omega))); (try (have i_cd := Imp.go cd (by omega))); (try (have i_cd := Imp.go cd (by omega))); (try (have i_tx := Imp.go tx (by omega))); omega)) (show (V 1 1).toInt = (b : Int) from by first | omega | ((try (have i_tx := Imp.go tx (by omega))); (try (have i_cd := Imp.go cd (by omega))); (try (have i_cd := Imp.go cd (by omega))); (try (have i_tx := Imp.go tx (by omega))); omega)) cd tx) w901 w903 w11 w162 w904 rfl xgReader hdV_yX1_readSetting ⟨Nat.le_of_ble_eq_true rfl, Nat.le_of_ble_eq_true rfl⟩ rfl hl.1 rfl (Nat.le_of_ble_eq_true rfl) dX1_readStatement_62 ⟨Nat.le_of_ble_eq_true rfl, Nat.le_of_ble_eq_true rfl⟩) hP hD hK hS hA (fun z25 u26 H locs w27 hP hD hK hS => ?_)
    obtain ⟨V31, L32⟩ := u26
    obtain ⟨hMV31, ajV31, axL32, fyV31, rgz25, t28, t29, t30⟩ := w27
    have alL32 : agL [1, 6, 44] L L32 := agL.tr alL axL32 (by decide)
    have hP : va_P D vwCl (xw ad kk V31 L32 Z) H := hP
    have hD : va_D A (xw ad kk V31 L32 Z) := hD
    have hMV31 : rgd bX V31 := hMV31
    have ajV31 : agr [(1, 3), (1, 8), (6, 8), (6, 9), (6, 10)] [43, 44, 46] V V31 := ajV31
    have agV31 : agr [(1, 2), (1, 3), (1, 4), (1, 6), (1, 7), (1, 8), (6, 8), (6, 9), (6, 10)] [41, 42, 43, 44, 45, 46, 47, 48, 49, 50, 51, 52, 53, 54, 55, 56, 57, 61, 62, 63, 64, 65, 66] V V31 := agV.tr ajV31 (by decide) (by decide)
    have fwV31 : frX (xR b) V V31 := frX.tr fwV (fyV31)
    have rgz25 : 0 ≤ z25.toInt ∧ z25.toInt ≤ 1 := rgz25
    have t28 : TX V31 b := t28
    have t29 : CD V31 b := t29
    have t30 : px V V31 b := t30
    have pq33 : (V31 1 2).toInt = ((V 1 2)).toInt := congrArg Int32.toInt (ajV31 1 2 rfl)
    have p034 : p0x V V31 b := p0x.tr (p0x.rf : p0x V V b) t30.1
    exact W.zret (v := z25) hx hb hr (nb_ok (by omega)) (fun t ht hW => ⟨⟨z25, (V31, L32), rfl, ⟨hMV31, agV31, alL32, fwV31, (show 0 ≤ z25.toInt ∧ z25.toInt ≤ 1 from by first | omega | ((try (have i_tx := Imp.go tx (by omega))); (try (have i_cd := Imp.go cd (by omega))); (try (have i_cd := Imp.go cd (by omega))); (try (have i_tx := Imp.go tx (by omega))); omega)), (Imp.mk (fun _ => t28)), t29, p034, (show (V31 1 2).toInt = (V 1 2).toInt ∨ (24 * (b : Int) ≤ (V31 1 2).toInt ∧ (V31 1 2).toInt < 24 * (b : Int) + 24) from by first | omega | ((try (have i_tx := Imp.go tx (by omega))); (try (have i_cd := Imp.go cd (by omega))); (try (have i_cd := Imp.go cd (by omega))); (try (have i_tx := Imp.go tx (by omega))); omega))⟩, by rw [ht]; exact hP, va_K.moved hW.alike hK, hD⟩, hS.F ht⟩) hS.2.2 dX1_readStatement_65
  have gq24 : ((V 6 9)).toInt ≠ 130 := b_neq rfl (by decide) q24
  by_cases q35 : (V 6 9) = 131
  · refine g_top (v := 131) q35 ?_
    have fq35 : ((V 6 9)).toInt = 131 := b_eq rfl (by decide) q35
    refine lv_tableIn (x := 131) (off := 59) (tgt := 66) hx hb dX1_readStatement_7 (by decide) (by decide) (by decide) (by decide) ?_
    refine lv_aload_n hx hb dX1_readStatement_66 rfl (lv_at hl 0 rfl) ?_
    refine gA_int (gA_runV (As := []) (rest := []) (ci := 1) (q0 := 1) hx hb hml hown hg hP hD hK hS hA hnw hgk (x_readComponent l D ks H.size ad kk V L Z (b) hMV (show b < 2 from by first | omega | ((try (have i_tx := Imp.go tx (by omega))); (try (have i_cd := Imp.go cd (by omega))); (try (have i_cd := Imp.go cd (by omega))); (try (have i_tx := Imp.go tx (by omega))); omega)) (show (V 1 1).toInt = (b : Int) from by first | omega | ((try (have i_tx := Imp.go tx (by omega))); (try (have i_cd := Imp.go cd (by omega))); (try (have i_cd := Imp.go cd (by omega))); (try (have i_tx := Imp.go tx (by omega))); omega)) cd tx) w910 w912 w13 w162 w913 rfl xgReader hdV_yX1_readComponent ⟨Nat.le_of_ble_eq_true rfl, Nat.le_of_ble_eq_true rfl⟩ rfl hl.1 rfl (Nat.le_of_ble_eq_true rfl) dX1_readStatement_67 ⟨Nat.le_of_ble_eq_true rfl, Nat.le_of_ble_eq_true rfl⟩) hP hD hK hS hA (fun z36 u37 H locs w38 hP hD hK hS => ?_)
    obtain ⟨V43, L44⟩ := u37
    obtain ⟨hMV43, ajV43, axL44, fyV43, rgz36, t39, t40, t41, t42⟩ := w38
    have alL44 : agL [1, 6, 44] L L44 := agL.tr alL axL44 (by decide)
    have hP : va_P D vwCl (xw ad kk V43 L44 Z) H := hP
    have hD : va_D A (xw ad kk V43 L44 Z) := hD
    have hMV43 : rgd bX V43 := hMV43
    have ajV43 : agr [(1, 2), (1, 3), (1, 6), (1, 7), (1, 8), (6, 8), (6, 9), (6, 10)] [43, 44, 49, 50, 51, 52, 53, 54, 55, 56, 57, 61] V V43 := ajV43
    have agV43 : agr [(1, 2), (1, 3), (1, 4), (1, 6), (1, 7), (1, 8), (6, 8), (6, 9), (6, 10)] [41, 42, 43, 44, 45, 46, 47, 48, 49, 50, 51, 52, 53, 54, 55, 56, 57, 61, 62, 63, 64, 65, 66] V V43 := agV.tr ajV43 (by decide) (by decide)
    have fwV43 : frX (xR b) V V43 := frX.tr fwV (fyV43)
    have rgz36 : 0 ≤ z36.toInt ∧ z36.toInt ≤ 1 := rgz36
    have t39 : Imp (z36.toInt = 1) (TX V43 b) := t39
    have t40 : CD V43 b := t40
    have t41 : p0x V V43 b := t41
    have t42 : (V43 1 2).toInt = (V 1 2).toInt ∨ (24 * (b : Int) ≤ (V43 1 2).toInt ∧ (V43 1 2).toInt < 24 * (b : Int) + 24) := t42
    have r45 : (-1) ≤ ((V43 1 2)).toInt ∧ ((V43 1 2)).toInt ≤ 47 := hMV43 1 2
    have p046 : p0x V V43 b := p0x.tr (p0x.rf : p0x V V b) t41
    exact W.zret (v := z36) hx hb hr (nb_ok (by omega)) (fun t ht hW => ⟨⟨z36, (V43, L44), rfl, ⟨hMV43, agV43, alL44, fwV43, (show 0 ≤ z36.toInt ∧ z36.toInt ≤ 1 from by first | omega | ((try (have i_tx := Imp.go tx (by omega))); (try (have i_cd := Imp.go cd (by omega))); (try (have i_cd := Imp.go cd (by omega))); (try (have i_tx := Imp.go tx (by omega))); omega)), t39, t40, p046, (show (V43 1 2).toInt = (V 1 2).toInt ∨ (24 * (b : Int) ≤ (V43 1 2).toInt ∧ (V43 1 2).toInt < 24 * (b : Int) + 24) from by first | omega | ((try (have i_tx := Imp.go tx (by omega))); (try (have i_cd := Imp.go cd (by omega))); (try (have i_cd := Imp.go cd (by omega))); (try (have i_tx := Imp.go tx (by omega))); omega))⟩, by rw [ht]; exact hP, va_K.moved hW.alike hK, hD⟩, hS.F ht⟩) hS.2.2 dX1_readStatement_70
  have gq35 : ((V 6 9)).toInt ≠ 131 := b_neq rfl (by decide) q35
  by_cases q47 : (V 6 9) = 132
  · refine g_top (v := 132) q47 ?_
    have fq47 : ((V 6 9)).toInt = 132 := b_eq rfl (by decide) q47
    refine lv_tableIn (x := 132) (off := 69) (tgt := 76) hx hb dX1_readStatement_7 (by decide) (by decide) (by decide) (by decide) ?_
    refine lv_aload_n hx hb dX1_readStatement_76 rfl (lv_at hl 0 rfl) ?_
    refine lv_iconst (v := 1) hx hb dX1_readStatement_77 (by decide) ?_
    have r48 : Int32.toInt 1 = 1 := by decide
    refine gA_int (gA_runV (As := [.int 1]) (rest := []) (ci := 1) (q0 := 1) hx hb hml hown hg hP hD hK hS hA hnw hgk (x_wrong l D ks H.size ad kk V L Z 1 hMV ) w867 w869 w6 w162 w870 rfl xgReader hdV_yX1_wrong ⟨Nat.le_of_ble_eq_true rfl, Nat.le_of_ble_eq_true rfl⟩ rfl hl.1 rfl (Nat.le_of_ble_eq_true rfl) dX1_readStatement_78 ⟨Nat.le_of_ble_eq_true rfl, Nat.le_of_ble_eq_true rfl⟩) hP hD hK hS hA (fun z49 u50 H locs w51 hP hD hK hS => ?_)
    obtain ⟨V52, L53⟩ := u50
    obtain ⟨hMV52, ajV52, axL53, rgz49⟩ := w51
    have axL53 : L = L53 := Eq.symm axL53
    subst axL53
    have hP : va_P D vwCl (xw ad kk V52 L Z) H := hP
    have hD : va_D A (xw ad kk V52 L Z) := hD
    have hMV52 : rgd bX V52 := hMV52
    have ajV52 : agr [(1, 3)] [] V V52 := ajV52
    have agV52 : agr [(1, 2), (1, 3), (1, 4), (1, 6), (1, 7), (1, 8), (6, 8), (6, 9), (6, 10)] [41, 42, 43, 44, 45, 46, 47, 48, 49, 50, 51, 52, 53, 54, 55, 56, 57, 61, 62, 63, 64, 65, 66] V V52 := agV.tr ajV52 (by decide) (by decide)
    have fwV52 : frX (xR b) V V52 := frX.tr fwV (frX.ag ajV52 (by decide) (by decide))
    have rgz49 : 0 ≤ z49.toInt ∧ z49.toInt ≤ 0 := rgz49
    have pq54 : (V52 1 2).toInt = ((V 1 2)).toInt := congrArg Int32.toInt (ajV52 1 2 rfl)
    have cd55 : CD V52 b := ⟨CB.ag cd.1 (show agr [(1, 3)] [] V V52 from (agr.tr agr.rf ajV52 (by decide) (by decide))) (fun _ => rfl) (fun _ => rfl), CO.ag cd.2 (show agr [(1, 3)] [] V V52 from (agr.tr agr.rf ajV52 (by decide) (by decide))) (fun _ => rfl) (fun _ => rfl)⟩
    have p056 : p0x V V52 b := p0x.tr (p0x.rf : p0x V V b) (p0x.ag (show agr [(1, 3)] [] V V52 from (agr.tr agr.rf ajV52 (by decide) (by decide))) (fun _ => rfl) (fun _ => rfl))
    exact W.zret (v := z49) hx hb hr (nb_ok (by omega)) (fun t ht hW => ⟨⟨z49, (V52, L), rfl, ⟨hMV52, agV52, alL, fwV52, (show 0 ≤ z49.toInt ∧ z49.toInt ≤ 1 from by first | omega | ((try (have i_tx := Imp.go tx (by omega))); (try (have i_cd := Imp.go cd (by omega))); (try (have i_cd := Imp.go cd (by omega))); (try (have i_tx := Imp.go tx (by omega))); omega)), (Imp.mk (fun hp => by exfalso; omega)), cd55, p056, (show (V52 1 2).toInt = (V 1 2).toInt ∨ (24 * (b : Int) ≤ (V52 1 2).toInt ∧ (V52 1 2).toInt < 24 * (b : Int) + 24) from by first | omega | ((try (have i_tx := Imp.go tx (by omega))); (try (have i_cd := Imp.go cd (by omega))); (try (have i_cd := Imp.go cd (by omega))); (try (have i_tx := Imp.go tx (by omega))); omega))⟩, by rw [ht]; exact hP, va_K.moved hW.alike hK, hD⟩, hS.F ht⟩) hS.2.2 dX1_readStatement_81
  have gq47 : ((V 6 9)).toInt ≠ 132 := b_neq rfl (by decide) q47
  by_cases q57 : (V 6 9) = 133
  · refine g_top (v := 133) q57 ?_
    have fq57 : ((V 6 9)).toInt = 133 := b_eq rfl (by decide) q57
    refine lv_tableIn (x := 133) (off := 69) (tgt := 76) hx hb dX1_readStatement_7 (by decide) (by decide) (by decide) (by decide) ?_
    refine lv_aload_n hx hb dX1_readStatement_76 rfl (lv_at hl 0 rfl) ?_
    refine lv_iconst (v := 1) hx hb dX1_readStatement_77 (by decide) ?_
    have r58 : Int32.toInt 1 = 1 := by decide
    refine gA_int (gA_runV (As := [.int 1]) (rest := []) (ci := 1) (q0 := 1) hx hb hml hown hg hP hD hK hS hA hnw hgk (x_wrong l D ks H.size ad kk V L Z 1 hMV ) w867 w869 w6 w162 w870 rfl xgReader hdV_yX1_wrong ⟨Nat.le_of_ble_eq_true rfl, Nat.le_of_ble_eq_true rfl⟩ rfl hl.1 rfl (Nat.le_of_ble_eq_true rfl) dX1_readStatement_78 ⟨Nat.le_of_ble_eq_true rfl, Nat.le_of_ble_eq_true rfl⟩) hP hD hK hS hA (fun z59 u60 H locs w61 hP hD hK hS => ?_)
    obtain ⟨V62, L63⟩ := u60
    obtain ⟨hMV62, ajV62, axL63, rgz59⟩ := w61
    have axL63 : L = L63 := Eq.symm axL63
    subst axL63
    have hP : va_P D vwCl (xw ad kk V62 L Z) H := hP
    have hD : va_D A (xw ad kk V62 L Z) := hD
    have hMV62 : rgd bX V62 := hMV62
    have ajV62 : agr [(1, 3)] [] V V62 := ajV62
    have agV62 : agr [(1, 2), (1, 3), (1, 4), (1, 6), (1, 7), (1, 8), (6, 8), (6, 9), (6, 10)] [41, 42, 43, 44, 45, 46, 47, 48, 49, 50, 51, 52, 53, 54, 55, 56, 57, 61, 62, 63, 64, 65, 66] V V62 := agV.tr ajV62 (by decide) (by decide)
    have fwV62 : frX (xR b) V V62 := frX.tr fwV (frX.ag ajV62 (by decide) (by decide))
    have rgz59 : 0 ≤ z59.toInt ∧ z59.toInt ≤ 0 := rgz59
    have pq64 : (V62 1 2).toInt = ((V 1 2)).toInt := congrArg Int32.toInt (ajV62 1 2 rfl)
    have cd65 : CD V62 b := ⟨CB.ag cd.1 (show agr [(1, 3)] [] V V62 from (agr.tr agr.rf ajV62 (by decide) (by decide))) (fun _ => rfl) (fun _ => rfl), CO.ag cd.2 (show agr [(1, 3)] [] V V62 from (agr.tr agr.rf ajV62 (by decide) (by decide))) (fun _ => rfl) (fun _ => rfl)⟩
    have p066 : p0x V V62 b := p0x.tr (p0x.rf : p0x V V b) (p0x.ag (show agr [(1, 3)] [] V V62 from (agr.tr agr.rf ajV62 (by decide) (by decide))) (fun _ => rfl) (fun _ => rfl))
    exact W.zret (v := z59) hx hb hr (nb_ok (by omega)) (fun t ht hW => ⟨⟨z59, (V62, L), rfl, ⟨hMV62, agV62, alL, fwV62, (show 0 ≤ z59.toInt ∧ z59.toInt ≤ 1 from by first | omega | ((try (have i_tx := Imp.go tx (by omega))); (try (have i_cd := Imp.go cd (by omega))); (try (have i_cd := Imp.go cd (by omega))); (try (have i_tx := Imp.go tx (by omega))); omega)), (Imp.mk (fun hp => by exfalso; omega)), cd65, p066, (show (V62 1 2).toInt = (V 1 2).toInt ∨ (24 * (b : Int) ≤ (V62 1 2).toInt ∧ (V62 1 2).toInt < 24 * (b : Int) + 24) from by first | omega | ((try (have i_tx := Imp.go tx (by omega))); (try (have i_cd := Imp.go cd (by omega))); (try (have i_cd := Imp.go cd (by omega))); (try (have i_tx := Imp.go tx (by omega))); omega))⟩, by rw [ht]; exact hP, va_K.moved hW.alike hK, hD⟩, hS.F ht⟩) hS.2.2 dX1_readStatement_81
  have gq57 : ((V 6 9)).toInt ≠ 133 := b_neq rfl (by decide) q57
  by_cases q67 : (V 6 9) = 134
  · refine g_top (v := 134) q67 ?_
    have fq67 : ((V 6 9)).toInt = 134 := b_eq rfl (by decide) q67
    refine lv_tableIn (x := 134) (off := 69) (tgt := 76) hx hb dX1_readStatement_7 (by decide) (by decide) (by decide) (by decide) ?_
    refine lv_aload_n hx hb dX1_readStatement_76 rfl (lv_at hl 0 rfl) ?_
    refine lv_iconst (v := 1) hx hb dX1_readStatement_77 (by decide) ?_
    have r68 : Int32.toInt 1 = 1 := by decide
    refine gA_int (gA_runV (As := [.int 1]) (rest := []) (ci := 1) (q0 := 1) hx hb hml hown hg hP hD hK hS hA hnw hgk (x_wrong l D ks H.size ad kk V L Z 1 hMV ) w867 w869 w6 w162 w870 rfl xgReader hdV_yX1_wrong ⟨Nat.le_of_ble_eq_true rfl, Nat.le_of_ble_eq_true rfl⟩ rfl hl.1 rfl (Nat.le_of_ble_eq_true rfl) dX1_readStatement_78 ⟨Nat.le_of_ble_eq_true rfl, Nat.le_of_ble_eq_true rfl⟩) hP hD hK hS hA (fun z69 u70 H locs w71 hP hD hK hS => ?_)
    obtain ⟨V72, L73⟩ := u70
    obtain ⟨hMV72, ajV72, axL73, rgz69⟩ := w71
    have axL73 : L = L73 := Eq.symm axL73
    subst axL73
    have hP : va_P D vwCl (xw ad kk V72 L Z) H := hP
    have hD : va_D A (xw ad kk V72 L Z) := hD
    have hMV72 : rgd bX V72 := hMV72
    have ajV72 : agr [(1, 3)] [] V V72 := ajV72
    have agV72 : agr [(1, 2), (1, 3), (1, 4), (1, 6), (1, 7), (1, 8), (6, 8), (6, 9), (6, 10)] [41, 42, 43, 44, 45, 46, 47, 48, 49, 50, 51, 52, 53, 54, 55, 56, 57, 61, 62, 63, 64, 65, 66] V V72 := agV.tr ajV72 (by decide) (by decide)
    have fwV72 : frX (xR b) V V72 := frX.tr fwV (frX.ag ajV72 (by decide) (by decide))
    have rgz69 : 0 ≤ z69.toInt ∧ z69.toInt ≤ 0 := rgz69
    have pq74 : (V72 1 2).toInt = ((V 1 2)).toInt := congrArg Int32.toInt (ajV72 1 2 rfl)
    have cd75 : CD V72 b := ⟨CB.ag cd.1 (show agr [(1, 3)] [] V V72 from (agr.tr agr.rf ajV72 (by decide) (by decide))) (fun _ => rfl) (fun _ => rfl), CO.ag cd.2 (show agr [(1, 3)] [] V V72 from (agr.tr agr.rf ajV72 (by decide) (by decide))) (fun _ => rfl) (fun _ => rfl)⟩
    have p076 : p0x V V72 b := p0x.tr (p0x.rf : p0x V V b) (p0x.ag (show agr [(1, 3)] [] V V72 from (agr.tr agr.rf ajV72 (by decide) (by decide))) (fun _ => rfl) (fun _ => rfl))
    exact W.zret (v := z69) hx hb hr (nb_ok (by omega)) (fun t ht hW => ⟨⟨z69, (V72, L), rfl, ⟨hMV72, agV72, alL, fwV72, (show 0 ≤ z69.toInt ∧ z69.toInt ≤ 1 from by first | omega | ((try (have i_tx := Imp.go tx (by omega))); (try (have i_cd := Imp.go cd (by omega))); (try (have i_cd := Imp.go cd (by omega))); (try (have i_tx := Imp.go tx (by omega))); omega)), (Imp.mk (fun hp => by exfalso; omega)), cd75, p076, (show (V72 1 2).toInt = (V 1 2).toInt ∨ (24 * (b : Int) ≤ (V72 1 2).toInt ∧ (V72 1 2).toInt < 24 * (b : Int) + 24) from by first | omega | ((try (have i_tx := Imp.go tx (by omega))); (try (have i_cd := Imp.go cd (by omega))); (try (have i_cd := Imp.go cd (by omega))); (try (have i_tx := Imp.go tx (by omega))); omega))⟩, by rw [ht]; exact hP, va_K.moved hW.alike hK, hD⟩, hS.F ht⟩) hS.2.2 dX1_readStatement_81
  have gq67 : ((V 6 9)).toInt ≠ 134 := b_neq rfl (by decide) q67
  by_cases q77 : (V 6 9) = 135
  · refine g_top (v := 135) q77 ?_
    have fq77 : ((V 6 9)).toInt = 135 := b_eq rfl (by decide) q77
    refine lv_tableIn (x := 135) (off := 69) (tgt := 76) hx hb dX1_readStatement_7 (by decide) (by decide) (by decide) (by decide) ?_
    refine lv_aload_n hx hb dX1_readStatement_76 rfl (lv_at hl 0 rfl) ?_
    refine lv_iconst (v := 1) hx hb dX1_readStatement_77 (by decide) ?_
    have r78 : Int32.toInt 1 = 1 := by decide
    refine gA_int (gA_runV (As := [.int 1]) (rest := []) (ci := 1) (q0 := 1) hx hb hml hown hg hP hD hK hS hA hnw hgk (x_wrong l D ks H.size ad kk V L Z 1 hMV ) w867 w869 w6 w162 w870 rfl xgReader hdV_yX1_wrong ⟨Nat.le_of_ble_eq_true rfl, Nat.le_of_ble_eq_true rfl⟩ rfl hl.1 rfl (Nat.le_of_ble_eq_true rfl) dX1_readStatement_78 ⟨Nat.le_of_ble_eq_true rfl, Nat.le_of_ble_eq_true rfl⟩) hP hD hK hS hA (fun z79 u80 H locs w81 hP hD hK hS => ?_)
    obtain ⟨V82, L83⟩ := u80
    obtain ⟨hMV82, ajV82, axL83, rgz79⟩ := w81
    have axL83 : L = L83 := Eq.symm axL83
    subst axL83
    have hP : va_P D vwCl (xw ad kk V82 L Z) H := hP
    have hD : va_D A (xw ad kk V82 L Z) := hD
    have hMV82 : rgd bX V82 := hMV82
    have ajV82 : agr [(1, 3)] [] V V82 := ajV82
    have agV82 : agr [(1, 2), (1, 3), (1, 4), (1, 6), (1, 7), (1, 8), (6, 8), (6, 9), (6, 10)] [41, 42, 43, 44, 45, 46, 47, 48, 49, 50, 51, 52, 53, 54, 55, 56, 57, 61, 62, 63, 64, 65, 66] V V82 := agV.tr ajV82 (by decide) (by decide)
    have fwV82 : frX (xR b) V V82 := frX.tr fwV (frX.ag ajV82 (by decide) (by decide))
    have rgz79 : 0 ≤ z79.toInt ∧ z79.toInt ≤ 0 := rgz79
    have pq84 : (V82 1 2).toInt = ((V 1 2)).toInt := congrArg Int32.toInt (ajV82 1 2 rfl)
    have cd85 : CD V82 b := ⟨CB.ag cd.1 (show agr [(1, 3)] [] V V82 from (agr.tr agr.rf ajV82 (by decide) (by decide))) (fun _ => rfl) (fun _ => rfl), CO.ag cd.2 (show agr [(1, 3)] [] V V82 from (agr.tr agr.rf ajV82 (by decide) (by decide))) (fun _ => rfl) (fun _ => rfl)⟩
    have p086 : p0x V V82 b := p0x.tr (p0x.rf : p0x V V b) (p0x.ag (show agr [(1, 3)] [] V V82 from (agr.tr agr.rf ajV82 (by decide) (by decide))) (fun _ => rfl) (fun _ => rfl))
    exact W.zret (v := z79) hx hb hr (nb_ok (by omega)) (fun t ht hW => ⟨⟨z79, (V82, L), rfl, ⟨hMV82, agV82, alL, fwV82, (show 0 ≤ z79.toInt ∧ z79.toInt ≤ 1 from by first | omega | ((try (have i_tx := Imp.go tx (by omega))); (try (have i_cd := Imp.go cd (by omega))); (try (have i_cd := Imp.go cd (by omega))); (try (have i_tx := Imp.go tx (by omega))); omega)), (Imp.mk (fun hp => by exfalso; omega)), cd85, p086, (show (V82 1 2).toInt = (V 1 2).toInt ∨ (24 * (b : Int) ≤ (V82 1 2).toInt ∧ (V82 1 2).toInt < 24 * (b : Int) + 24) from by first | omega | ((try (have i_tx := Imp.go tx (by omega))); (try (have i_cd := Imp.go cd (by omega))); (try (have i_cd := Imp.go cd (by omega))); (try (have i_tx := Imp.go tx (by omega))); omega))⟩, by rw [ht]; exact hP, va_K.moved hW.alike hK, hD⟩, hS.F ht⟩) hS.2.2 dX1_readStatement_81
  have gq77 : ((V 6 9)).toInt ≠ 135 := b_neq rfl (by decide) q77
  by_cases q87 : (V 6 9) = 136
  · refine g_top (v := 136) q87 ?_
    have fq87 : ((V 6 9)).toInt = 136 := b_eq rfl (by decide) q87
    refine lv_tableIn (x := 136) (off := 64) (tgt := 71) hx hb dX1_readStatement_7 (by decide) (by decide) (by decide) (by decide) ?_
    refine lv_aload_n hx hb dX1_readStatement_71 rfl (lv_at hl 0 rfl) ?_
    refine gA_int (gA_runV (As := []) (rest := []) (ci := 1) (q0 := 1) hx hb hml hown hg hP hD hK hS hA hnw hgk (x_readWrap l D ks H.size ad kk V L Z (b) hMV (show b < 2 from by first | omega | ((try (have i_tx := Imp.go tx (by omega))); (try (have i_cd := Imp.go cd (by omega))); (try (have i_cd := Imp.go cd (by omega))); (try (have i_tx := Imp.go tx (by omega))); omega)) (show (V 1 1).toInt = (b : Int) from by first | omega | ((try (have i_tx := Imp.go tx (by omega))); (try (have i_cd := Imp.go cd (by omega))); (try (have i_cd := Imp.go cd (by omega))); (try (have i_tx := Imp.go tx (by omega))); omega)) cd tx) w935 w937 w18 w162 w938 rfl xgReader hdV_yX1_readWrap ⟨Nat.le_of_ble_eq_true rfl, Nat.le_of_ble_eq_true rfl⟩ rfl hl.1 rfl (Nat.le_of_ble_eq_true rfl) dX1_readStatement_72 ⟨Nat.le_of_ble_eq_true rfl, Nat.le_of_ble_eq_true rfl⟩) hP hD hK hS hA (fun z88 u89 H locs w90 hP hD hK hS => ?_)
    obtain ⟨V94, L95⟩ := u89
    obtain ⟨hMV94, ajV94, axL95, fyV94, rgz88, t91, t92, t93⟩ := w90
    have alL95 : agL [1, 6, 44] L L95 := agL.tr alL axL95 (by decide)
    have hP : va_P D vwCl (xw ad kk V94 L95 Z) H := hP
    have hD : va_D A (xw ad kk V94 L95 Z) := hD
    have hMV94 : rgd bX V94 := hMV94
    have ajV94 : agr [(1, 3), (1, 4), (1, 6), (1, 8), (6, 8), (6, 9), (6, 10)] [41, 42, 43, 44, 47, 48, 62, 63, 64, 65, 66] V V94 := ajV94
    have agV94 : agr [(1, 2), (1, 3), (1, 4), (1, 6), (1, 7), (1, 8), (6, 8), (6, 9), (6, 10)] [41, 42, 43, 44, 45, 46, 47, 48, 49, 50, 51, 52, 53, 54, 55, 56, 57, 61, 62, 63, 64, 65, 66] V V94 := agV.tr ajV94 (by decide) (by decide)
    have fwV94 : frX (xR b) V V94 := frX.tr fwV (fyV94)
    have rgz88 : 0 ≤ z88.toInt ∧ z88.toInt ≤ 1 := rgz88
    have t91 : TX V94 b := t91
    have t92 : CD V94 b := t92
    have t93 : px V V94 b := t93
    have pq96 : (V94 1 2).toInt = ((V 1 2)).toInt := congrArg Int32.toInt (ajV94 1 2 rfl)
    have p097 : p0x V V94 b := p0x.tr (p0x.rf : p0x V V b) t93.1
    exact W.zret (v := z88) hx hb hr (nb_ok (by omega)) (fun t ht hW => ⟨⟨z88, (V94, L95), rfl, ⟨hMV94, agV94, alL95, fwV94, (show 0 ≤ z88.toInt ∧ z88.toInt ≤ 1 from by first | omega | ((try (have i_tx := Imp.go tx (by omega))); (try (have i_cd := Imp.go cd (by omega))); (try (have i_cd := Imp.go cd (by omega))); (try (have i_tx := Imp.go tx (by omega))); omega)), (Imp.mk (fun _ => t91)), t92, p097, (show (V94 1 2).toInt = (V 1 2).toInt ∨ (24 * (b : Int) ≤ (V94 1 2).toInt ∧ (V94 1 2).toInt < 24 * (b : Int) + 24) from by first | omega | ((try (have i_tx := Imp.go tx (by omega))); (try (have i_cd := Imp.go cd (by omega))); (try (have i_cd := Imp.go cd (by omega))); (try (have i_tx := Imp.go tx (by omega))); omega))⟩, by rw [ht]; exact hP, va_K.moved hW.alike hK, hD⟩, hS.F ht⟩) hS.2.2 dX1_readStatement_75
  have gq87 : ((V 6 9)).toInt ≠ 136 := b_neq rfl (by decide) q87
  refine lv_tableOut (x := (V 6 9)) (tgt := 76) hx hb dX1_readStatement_7 (by omega) (by decide) ?_
  refine lv_aload_n hx hb dX1_readStatement_76 rfl (lv_at hl 0 rfl) ?_
  refine lv_iconst (v := 1) hx hb dX1_readStatement_77 (by decide) ?_
  have r98 : Int32.toInt 1 = 1 := by decide
  refine gA_int (gA_runV (As := [.int 1]) (rest := []) (ci := 1) (q0 := 1) hx hb hml hown hg hP hD hK hS hA hnw hgk (x_wrong l D ks H.size ad kk V L Z 1 hMV ) w867 w869 w6 w162 w870 rfl xgReader hdV_yX1_wrong ⟨Nat.le_of_ble_eq_true rfl, Nat.le_of_ble_eq_true rfl⟩ rfl hl.1 rfl (Nat.le_of_ble_eq_true rfl) dX1_readStatement_78 ⟨Nat.le_of_ble_eq_true rfl, Nat.le_of_ble_eq_true rfl⟩) hP hD hK hS hA (fun z99 u100 H locs w101 hP hD hK hS => ?_)
  obtain ⟨V102, L103⟩ := u100
  obtain ⟨hMV102, ajV102, axL103, rgz99⟩ := w101
  have axL103 : L = L103 := Eq.symm axL103
  subst axL103
  have hP : va_P D vwCl (xw ad kk V102 L Z) H := hP
  have hD : va_D A (xw ad kk V102 L Z) := hD
  have hMV102 : rgd bX V102 := hMV102
  have ajV102 : agr [(1, 3)] [] V V102 := ajV102
  have agV102 : agr [(1, 2), (1, 3), (1, 4), (1, 6), (1, 7), (1, 8), (6, 8), (6, 9), (6, 10)] [41, 42, 43, 44, 45, 46, 47, 48, 49, 50, 51, 52, 53, 54, 55, 56, 57, 61, 62, 63, 64, 65, 66] V V102 := agV.tr ajV102 (by decide) (by decide)
  have fwV102 : frX (xR b) V V102 := frX.tr fwV (frX.ag ajV102 (by decide) (by decide))
  have rgz99 : 0 ≤ z99.toInt ∧ z99.toInt ≤ 0 := rgz99
  have pq104 : (V102 1 2).toInt = ((V 1 2)).toInt := congrArg Int32.toInt (ajV102 1 2 rfl)
  have cd105 : CD V102 b := ⟨CB.ag cd.1 (show agr [(1, 3)] [] V V102 from (agr.tr agr.rf ajV102 (by decide) (by decide))) (fun _ => rfl) (fun _ => rfl), CO.ag cd.2 (show agr [(1, 3)] [] V V102 from (agr.tr agr.rf ajV102 (by decide) (by decide))) (fun _ => rfl) (fun _ => rfl)⟩
  have p0106 : p0x V V102 b := p0x.tr (p0x.rf : p0x V V b) (p0x.ag (show agr [(1, 3)] [] V V102 from (agr.tr agr.rf ajV102 (by decide) (by decide))) (fun _ => rfl) (fun _ => rfl))
  exact W.zret (v := z99) hx hb hr (nb_ok (by omega)) (fun t ht hW => ⟨⟨z99, (V102, L), rfl, ⟨hMV102, agV102, alL, fwV102, (show 0 ≤ z99.toInt ∧ z99.toInt ≤ 1 from by first | omega | ((try (have i_tx := Imp.go tx (by omega))); (try (have i_cd := Imp.go cd (by omega))); (try (have i_cd := Imp.go cd (by omega))); (try (have i_tx := Imp.go tx (by omega))); omega)), (Imp.mk (fun hp => by exfalso; omega)), cd105, p0106, (show (V102 1 2).toInt = (V 1 2).toInt ∨ (24 * (b : Int) ≤ (V102 1 2).toInt ∧ (V102 1 2).toInt < 24 * (b : Int) + 24) from by first | omega | ((try (have i_tx := Imp.go tx (by omega))); (try (have i_cd := Imp.go cd (by omega))); (try (have i_cd := Imp.go cd (by omega))); (try (have i_tx := Imp.go tx (by omega))); omega))⟩, by rw [ht]; exact hP, va_K.moved hW.alike hK, hD⟩, hS.F ht⟩) hS.2.2 dX1_readStatement_81
