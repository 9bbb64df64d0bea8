theorem w2242 : Cond.code yX12_getsWhole cX12_getsWhole 8 (some .int) ∈ GW := gw_mem 2242 (by decide +kernel) rfl
theorem w2239 : Cond.methodLink RX12 568 yX12_getsWhole ∈ GW := gw_mem 2239 (by decide +kernel) rfl
theorem w2241 : Cond.instanceMethod yX12_getsWhole ∈ GW := gw_mem 2241 (by decide +kernel) rfl
theorem w128 : Cond.selects RX12 yX12_getsWhole yX12_getsWhole ∈ GW := gw_mem 128 (by decide +kernel) rfl
theorem hdV_yX12_getsWhole : yX12_getsWhole.cls = RX12 ∧ yX12_getsWhole.cls ≠ "java/lang/invoke/MethodHandle" ∧ yX12_getsWhole.cls ≠ "java/lang/invoke/VarHandle" ∧ (parseMethodDescriptor yX12_getsWhole.desc).map (fun d => d.parameters.length) = some 2 := by decide +kernel
theorem dX12_ofLate_0 : decode cX12_ofLate 0 = .ok (.aload_n 0, 1) := by decide +kernel
theorem dX12_ofLate_1 : decode cX12_ofLate 1 = .ok (.iload_n 3, 1) := by decide +kernel
theorem dX12_ofLate_2 : decode cX12_ofLate 2 = .ok (.invokevirtual 455, 3) := by decide +kernel
theorem dX12_ofLate_5 : decode cX12_ofLate 5 = .ok (.istore 7, 2) := by decide +kernel
theorem dX12_ofLate_7 : decode cX12_ofLate 7 = .ok (.aload_n 0, 1) := by decide +kernel
theorem dX12_ofLate_8 : decode cX12_ofLate 8 = .ok (.getfield 198, 3) := by decide +kernel
theorem dX12_ofLate_11 : decode cX12_ofLate 11 = .ok (.iconst 0, 1) := by decide +kernel
theorem dX12_ofLate_12 : decode cX12_ofLate 12 = .ok (.iaload, 1) := by decide +kernel
theorem dX12_ofLate_13 : decode cX12_ofLate 13 = .ok (.istore 8, 2) := by decide +kernel
theorem dX12_ofLate_15 : decode cX12_ofLate 15 = .ok (.aload_n 0, 1) := by decide +kernel
theorem dX12_ofLate_16 : decode cX12_ofLate 16 = .ok (.getfield 71, 3) := by decide +kernel
theorem dX12_ofLate_19 : decode cX12_ofLate 19 = .ok (.bipush 24, 2) := by decide +kernel
theorem dX12_ofLate_21 : decode cX12_ofLate 21 = .ok (.aload_n 0, 1) := by decide +kernel
theorem dX12_ofLate_22 : decode cX12_ofLate 22 = .ok (.getfield 286, 3) := by decide +kernel
theorem dX12_ofLate_25 : decode cX12_ofLate 25 = .ok (.imul, 1) := by decide +kernel
theorem dX12_ofLate_26 : decode cX12_ofLate 26 = .ok (.iload 8, 2) := by decide +kernel
theorem dX12_ofLate_28 : decode cX12_ofLate 28 = .ok (.iadd, 1) := by decide +kernel
theorem dX12_ofLate_29 : decode cX12_ofLate 29 = .ok (.iaload, 1) := by decide +kernel
theorem dX12_ofLate_30 : decode cX12_ofLate 30 = .ok (.iconst 3, 1) := by decide +kernel
theorem dX12_ofLate_31 : decode cX12_ofLate 31 = .ok (.if_icmp .ne 7, 3) := by decide +kernel
theorem dX12_ofLate_38 : decode cX12_ofLate 38 = .ok (.iconst 0, 1) := by decide +kernel
theorem dX12_ofLate_39 : decode cX12_ofLate 39 = .ok (.istore 9, 2) := by decide +kernel
theorem dX12_ofLate_41 : decode cX12_ofLate 41 = .ok (.iload 9, 2) := by decide +kernel
theorem dX12_ofLate_43 : decode cX12_ofLate 43 = .ok (.ifCond .eq 17, 3) := by decide +kernel
theorem dX12_ofLate_60 : decode cX12_ofLate 60 = .ok (.aload_n 0, 1) := by decide +kernel
theorem dX12_ofLate_61 : decode cX12_ofLate 61 = .ok (.getfield 520, 3) := by decide +kernel
theorem dX12_ofLate_64 : decode cX12_ofLate 64 = .ok (.bipush 10, 2) := by decide +kernel
theorem dX12_ofLate_66 : decode cX12_ofLate 66 = .ok (.if_icmp .ne 10, 3) := by decide +kernel
theorem dX12_ofLate_76 : decode cX12_ofLate 76 = .ok (.aload_n 0, 1) := by decide +kernel
theorem dX12_ofLate_77 : decode cX12_ofLate 77 = .ok (.dup, 1) := by decide +kernel
theorem dX12_ofLate_78 : decode cX12_ofLate 78 = .ok (.getfield 520, 3) := by decide +kernel
theorem dX12_ofLate_81 : decode cX12_ofLate 81 = .ok (.iconst 1, 1) := by decide +kernel
theorem dX12_ofLate_82 : decode cX12_ofLate 82 = .ok (.iadd, 1) := by decide +kernel
theorem dX12_ofLate_83 : decode cX12_ofLate 83 = .ok (.putfield 520, 3) := by decide +kernel
theorem dX12_ofLate_86 : decode cX12_ofLate 86 = .ok (.aload_n 0, 1) := by decide +kernel
theorem dX12_ofLate_87 : decode cX12_ofLate 87 = .ok (.iload 8, 2) := by decide +kernel
theorem dX12_ofLate_89 : decode cX12_ofLate 89 = .ok (.iload 5, 2) := by decide +kernel
theorem dX12_ofLate_91 : decode cX12_ofLate 91 = .ok (.invokevirtual 568, 3) := by decide +kernel
theorem dX12_ofLate_94 : decode cX12_ofLate 94 = .ok (.istore 10, 2) := by decide +kernel
theorem dX12_ofLate_96 : decode cX12_ofLate 96 = .ok (.aload_n 0, 1) := by decide +kernel
theorem dX12_ofLate_97 : decode cX12_ofLate 97 = .ok (.dup, 1) := by decide +kernel
theorem dX12_ofLate_98 : decode cX12_ofLate 98 = .ok (.getfield 520, 3) := by decide +kernel
theorem dX12_ofLate_101 : decode cX12_ofLate 101 = .ok (.iconst 1, 1) := by decide +kernel
theorem dX12_ofLate_102 : decode cX12_ofLate 102 = .ok (.isub, 1) := by decide +kernel
theorem dX12_ofLate_103 : decode cX12_ofLate 103 = .ok (.putfield 520, 3) := by decide +kernel
theorem dX12_ofLate_106 : decode cX12_ofLate 106 = .ok (.iload 10, 2) := by decide +kernel
theorem dX12_ofLate_108 : decode cX12_ofLate 108 = .ok (.ifCond .le 6, 3) := by decide +kernel
theorem dX12_ofLate_114 : decode cX12_ofLate 114 = .ok (.iload 9, 2) := by decide +kernel
theorem dX12_ofLate_116 : decode cX12_ofLate 116 = .ok (.ifCond .eq 47, 3) := by decide +kernel
theorem dX12_ofLate_163 : decode cX12_ofLate 163 = .ok (.aload_n 0, 1) := by decide +kernel
theorem dX12_ofLate_164 : decode cX12_ofLate 164 = .ok (.aload_n 0, 1) := by decide +kernel
theorem dX12_ofLate_165 : decode cX12_ofLate 165 = .ok (.getfield 490, 3) := by decide +kernel
theorem dX12_ofLate_168 : decode cX12_ofLate 168 = .ok (.iload 4, 2) := by decide +kernel
theorem dX12_ofLate_170 : decode cX12_ofLate 170 = .ok (.iload 5, 2) := by decide +kernel
theorem dX12_ofLate_172 : decode cX12_ofLate 172 = .ok (.iload 6, 2) := by decide +kernel
theorem dX12_ofLate_174 : decode cX12_ofLate 174 = .ok (.invokevirtual 566, 3) := by decide +kernel
theorem dX12_ofLate_177 : decode cX12_ofLate 177 = .ok (.ireturn, 1) := by decide +kernel
theorem dX12_ofLate_111 : decode cX12_ofLate 111 = .ok (.iload 10, 2) := by decide +kernel
theorem dX12_ofLate_113 : decode cX12_ofLate 113 = .ok (.ireturn, 1) := by decide +kernel
theorem dX12_ofLate_69 : decode cX12_ofLate 69 = .ok (.aload_n 0, 1) := by decide +kernel
theorem dX12_ofLate_70 : decode cX12_ofLate 70 = .ok (.bipush 13, 2) := by decide +kernel
theorem dX12_ofLate_72 : decode cX12_ofLate 72 = .ok (.invokevirtual 484, 3) := by decide +kernel
theorem dX12_ofLate_75 : decode cX12_ofLate 75 = .ok (.ireturn, 1) := by decide +kernel
theorem dX12_ofLate_34 : decode cX12_ofLate 34 = .ok (.iconst 1, 1) := by decide +kernel
theorem dX12_ofLate_35 : decode cX12_ofLate 35 = .ok (.goto 4, 3) := by decide +kernel
theorem dX12_ofLate_46 : decode cX12_ofLate 46 = .ok (.aload_n 0, 1) := by decide +kernel
theorem dX12_ofLate_47 : decode cX12_ofLate 47 = .ok (.getfield 176, 3) := by decide +kernel
theorem dX12_ofLate_50 : decode cX12_ofLate 50 = .ok (.bipush 8, 2) := by decide +kernel
theorem dX12_ofLate_52 : decode cX12_ofLate 52 = .ok (.iload_n 1, 1) := by decide +kernel
theorem dX12_ofLate_53 : decode cX12_ofLate 53 = .ok (.imul, 1) := by decide +kernel
theorem dX12_ofLate_54 : decode cX12_ofLate 54 = .ok (.iload_n 2, 1) := by decide +kernel
theorem dX12_ofLate_55 : decode cX12_ofLate 55 = .ok (.iadd, 1) := by decide +kernel
theorem dX12_ofLate_56 : decode cX12_ofLate 56 = .ok (.iaload, 1) := by decide +kernel
theorem dX12_ofLate_57 : decode cX12_ofLate 57 = .ok (.ifCond .ne 121, 3) := by decide +kernel
theorem dX12_ofLate_178 : decode cX12_ofLate 178 = .ok (.aload_n 0, 1) := by decide +kernel
theorem dX12_ofLate_179 : decode cX12_ofLate 179 = .ok (.aload_n 0, 1) := by decide +kernel
theorem dX12_ofLate_180 : decode cX12_ofLate 180 = .ok (.getfield 180, 3) := by decide +kernel
theorem dX12_ofLate_183 : decode cX12_ofLate 183 = .ok (.bipush 24, 2) := by decide +kernel
theorem dX12_ofLate_185 : decode cX12_ofLate 185 = .ok (.bipush 8, 2) := by decide +kernel
theorem dX12_ofLate_187 : decode cX12_ofLate 187 = .ok (.iload_n 1, 1) := by decide +kernel
theorem dX12_ofLate_188 : decode cX12_ofLate 188 = .ok (.imul, 1) := by decide +kernel
theorem dX12_ofLate_189 : decode cX12_ofLate 189 = .ok (.iload_n 2, 1) := by decide +kernel
theorem dX12_ofLate_190 : decode cX12_ofLate 190 = .ok (.iadd, 1) := by decide +kernel
theorem dX12_ofLate_191 : decode cX12_ofLate 191 = .ok (.imul, 1) := by decide +kernel
theorem dX12_ofLate_192 : decode cX12_ofLate 192 = .ok (.iaload, 1) := by decide +kernel
theorem dX12_ofLate_193 : decode cX12_ofLate 193 = .ok (.iload 4, 2) := by decide +kernel
theorem dX12_ofLate_195 : decode cX12_ofLate 195 = .ok (.iload 5, 2) := by decide +kernel
theorem dX12_ofLate_197 : decode cX12_ofLate 197 = .ok (.iload 6, 2) := by decide +kernel
theorem dX12_ofLate_199 : decode cX12_ofLate 199 = .ok (.invokevirtual 566, 3) := by decide +kernel
theorem dX12_ofLate_202 : decode cX12_ofLate 202 = .ok (.ireturn, 1) := by decide +kernel
theorem dX12_ofLate_119 : decode cX12_ofLate 119 = .ok (.aload_n 0, 1) := by decide +kernel
theorem dX12_ofLate_120 : decode cX12_ofLate 120 = .ok (.getfield 176, 3) := by decide +kernel
theorem dX12_ofLate_123 : decode cX12_ofLate 123 = .ok (.bipush 8, 2) := by decide +kernel
theorem dX12_ofLate_125 : decode cX12_ofLate 125 = .ok (.iload_n 1, 1) := by decide +kernel
theorem dX12_ofLate_126 : decode cX12_ofLate 126 = .ok (.imul, 1) := by decide +kernel
theorem dX12_ofLate_127 : decode cX12_ofLate 127 = .ok (.iload_n 2, 1) := by decide +kernel
theorem dX12_ofLate_128 : decode cX12_ofLate 128 = .ok (.iadd, 1) := by decide +kernel
theorem dX12_ofLate_129 : decode cX12_ofLate 129 = .ok (.iaload, 1) := by decide +kernel
theorem dX12_ofLate_130 : decode cX12_ofLate 130 = .ok (.ifCond .ne 33, 3) := by decide +kernel
theorem dX12_ofLate_133 : decode cX12_ofLate 133 = .ok (.aload_n 0, 1) := by decide +kernel
theorem dX12_ofLate_134 : decode cX12_ofLate 134 = .ok (.getfield 180, 3) := by decide +kernel
theorem dX12_ofLate_137 : decode cX12_ofLate 137 = .ok (.bipush 24, 2) := by decide +kernel
theorem dX12_ofLate_139 : decode cX12_ofLate 139 = .ok (.bipush 8, 2) := by decide +kernel
theorem dX12_ofLate_141 : decode cX12_ofLate 141 = .ok (.iload_n 1, 1) := by decide +kernel
theorem dX12_ofLate_142 : decode cX12_ofLate 142 = .ok (.imul, 1) := by decide +kernel
theorem dX12_ofLate_143 : decode cX12_ofLate 143 = .ok (.iload_n 2, 1) := by decide +kernel
theorem dX12_ofLate_144 : decode cX12_ofLate 144 = .ok (.iadd, 1) := by decide +kernel
theorem dX12_ofLate_145 : decode cX12_ofLate 145 = .ok (.imul, 1) := by decide +kernel
theorem dX12_ofLate_146 : decode cX12_ofLate 146 = .ok (.aload_n 0, 1) := by decide +kernel
theorem dX12_ofLate_147 : decode cX12_ofLate 147 = .ok (.getfield 490, 3) := by decide +kernel
theorem dX12_ofLate_150 : decode cX12_ofLate 150 = .ok (.iastore, 1) := by decide +kernel
theorem dX12_ofLate_151 : decode cX12_ofLate 151 = .ok (.aload_n 0, 1) := by decide +kernel
theorem dX12_ofLate_152 : decode cX12_ofLate 152 = .ok (.getfield 176, 3) := by decide +kernel
theorem dX12_ofLate_155 : decode cX12_ofLate 155 = .ok (.bipush 8, 2) := by decide +kernel
theorem dX12_ofLate_157 : decode cX12_ofLate 157 = .ok (.iload_n 1, 1) := by decide +kernel
theorem dX12_ofLate_158 : decode cX12_ofLate 158 = .ok (.imul, 1) := by decide +kernel
theorem dX12_ofLate_159 : decode cX12_ofLate 159 = .ok (.iload_n 2, 1) := by decide +kernel
theorem dX12_ofLate_160 : decode cX12_ofLate 160 = .ok (.iadd, 1) := by decide +kernel
theorem dX12_ofLate_161 : decode cX12_ofLate 161 = .ok (.iconst 1, 1) := by decide +kernel
theorem dX12_ofLate_162 : decode cX12_ofLate 162 = .ok (.iastore, 1) := by decide +kernel
set_option maxHeartbeats 4000000 in
set_option maxRecDepth 100000 in
theorem s_ofLate {l : Launch} {D : va_G} {ks : KS} {d1 d2 : Nat} (hk_s_getsWhole : ∀ d9, d2 = d9 + 1 → K_s_getsWhole l D ks d1 d9) (hk_s_calls : K_s_calls l D ks d1 d2) : K_s_ofLate l D ks d1 d2 := by
  intro sz ad kk V L p0 p1 p2 p3 p4 p5 hMV rg_p0 rg_p1 rg_p2 rg_p3 rg_p4 rt n1 n2 n3 n4 n5 n6 oq1 n7 nq lt nx2
  refine g_met (q_s_ofLate D ks ad kk V L p0 p1 p2 p3 p4 p5) (by decide) (Nat.le_of_ble_eq_true rfl) ?_
  intro p e s m below meth c A ls H locs hx hb hr hml hown hg hlocks hin hnw hgk hP hK hD hS hA hl
  have hown : s.vm.findClass RX12 = some m.cls := hown
  have hl : lv_has ls 11 [(0, .ref (ad 0)), (1, .int p0), (2, .int p1), (3, .int p2), (4, .int p3), (5, .int p4), (6, .int p5)] := hl
  have hP : va_P D vwCl (mw ad kk ks.1 V L) H := hP
  have hD : va_D A (mw ad kk ks.1 V L) := hD
  have hK : va_K D vwCl (mty kk) s := hK
  have agV : agr [(0, 60), (0, 65), (0, 68), (0, 69), (0, 73), (0, 76), (0, 90), (0, 91), (0, 92), (0, 93), (0, 95), (0, 96), (0, 98)] [59, 61, 62, 63, 64, 66, 67, 74, 75, 77, 78, 79, 80, 94, 97] V V := agr.rf
  have r1 : 0 ≤ ((V 0 65)).toInt ∧ ((V 0 65)).toInt ≤ 1000000 := hMV 0 65
  have r2 : 0 ≤ ((V 0 60)).toInt ∧ ((V 0 60)).toInt ≤ 300 := hMV 0 60
  have r3 : 0 ≤ ((V 0 95)).toInt ∧ ((V 0 95)).toInt ≤ 300 := hMV 0 95
  have r4 : 0 ≤ ((V 0 73)).toInt ∧ ((V 0 73)).toInt ≤ 1000000 := hMV 0 73
  have r5 : 0 ≤ ((V 0 76)).toInt ∧ ((V 0 76)).toInt ≤ 2000000000 := hMV 0 76
  have r6 : 0 ≤ ((V 0 69)).toInt ∧ ((V 0 69)).toInt ≤ 3000 := hMV 0 69
  have r7 : 0 ≤ ((V 0 93)).toInt ∧ ((V 0 93)).toInt ≤ 10 := hMV 0 93
  have r8 : 0 ≤ ((V 0 98)).toInt ∧ ((V 0 98)).toInt ≤ 20000 := hMV 0 98
  have r9 : 0 ≤ ((V 29 (Int32.toNatClampNeg p2))).toInt ∧ ((V 29 (Int32.toNatClampNeg p2))).toInt ≤ 1 := hMV 29 (Int32.toNatClampNeg p2)
  have r10 : 0 ≤ ((V 0 11)).toInt ∧ ((V 0 11)).toInt ≤ 1 := hMV 0 11
  have r11 : 0 ≤ ((V 61 (Int32.toNatClampNeg p0))).toInt ∧ ((V 61 (Int32.toNatClampNeg p0))).toInt ≤ 23 := hMV 61 (Int32.toNatClampNeg p0)
  have ko := i_clamp (x := p0) rfl (by omega)
  have kn : (nwh V : Int) = (V 0 11).toInt := i_clamp (x := V 0 11) rfl (by have h9 : 0 ≤ (V 0 11).toInt ∧ (V 0 11).toInt ≤ 1 := hMV 0 11; omega)
  have hO := rt.2.2.1 (Int32.toNatClampNeg p0) (by omega)
  have cok := TB.compE rt.1 hO
  have r61 : 0 ≤ (V 61 (Int32.toNatClampNeg p0)).toInt ∧ (V 61 (Int32.toNatClampNeg p0)).toInt ≤ 23 := hMV 61 _
  have k61 := i_clamp (x := V 61 (Int32.toNatClampNeg p0)) rfl r61.1
  have nb : (nwh V : Int) ≤ 1 := by have h9 : 0 ≤ (V 0 11).toInt ∧ (V 0 11).toInt ≤ 1 := hMV 0 11; omega
  have kd := i_clamp (x := p1) rfl (by omega)
  have kN : Int32.toNatClampNeg p2 = 8 * (24 * nwh V + Int32.toNatClampNeg (V 61 (Int32.toNatClampNeg p0))) + Int32.toNatClampNeg p1 := by have h9 := i_clamp (x := p2) rfl (by omega); omega
  have nt : 0 ≤ (V 28 (Int32.toNatClampNeg p2)).toInt := by rw [kN]; exact (cok.2.2.2 (Int32.toNatClampNeg p1) (by omega)).1
  have ndl : ndL V (Int32.toNatClampNeg (V 61 (Int32.toNatClampNeg p0))) (Int32.toNatClampNeg p1) := ⟨by omega, by rw [← kN]; exact lt⟩
  refine lv_aload_n hx hb dX12_ofLate_0 rfl (lv_at hl 0 rfl) ?_
  refine lv_iload_n hx hb dX12_ofLate_1 rfl (lv_at hl 3 rfl) ?_
  have r12 : (-1) ≤ ((V 28 (Int32.toNatClampNeg p2))).toInt ∧ ((V 28 (Int32.toNatClampNeg p2))).toInt ≤ 23 := hMV 28 (Int32.toNatClampNeg p2)
  refine gA_int (gA_runV (As := [.int p2]) (rest := []) (ci := 12) (q0 := 0) hx hb hml hown hg hP hD hK hS hA hnw hgk (s_candidatesOf2 l D ks H.size ad kk V L p2 hMV (by first | omega | ((try (have i_nq := Imp.go nq (by omega))); (try (have i_rt := Imp.go rt (by omega))); (try (have i_rt := Imp.go rt (by omega))); (try (have i_nq := Imp.go nq (by omega))); omega)) (show 0 ≤ (V 28 (Int32.toNatClampNeg p2)).toInt from by first | omega | ((try (have i_nq := Imp.go nq (by omega))); (try (have i_rt := Imp.go rt (by omega))); (try (have i_rt := Imp.go rt (by omega))); (try (have i_nq := Imp.go nq (by omega))); omega))) w2176 w2178 w119 w172 w2179 rfl rfl hdV_yX12_candidatesOf ⟨(by show (2) + 1 ≤ (4 * d1 + 40 * d2 + 9); omega), (by show 8 + (5 + 11) + (45) ≤ (100 * d1 + 1000 * d2 + 350); omega)⟩ rfl hl.1 rfl (Nat.le_of_ble_eq_true rfl) dX12_ofLate_2 ⟨Nat.le_of_ble_eq_true rfl, Nat.le_of_ble_eq_true rfl⟩) hP hD hK hS hA (fun z13 u14 H locs w15 hP hD hK hS => ?_)
  obtain ⟨V18, L19⟩ := u14
  obtain ⟨hMV18, ajV18, axL19, rgz13, t16, t17⟩ := w15
  have axL19 : L = L19 := Eq.symm axL19
  subst axL19
  have hP : va_P D vwCl (mw ad kk ks.1 V18 L) H := hP
  have hD : va_D A (mw ad kk ks.1 V18 L) := hD
  have hMV18 : rgd bM V18 := hMV18
  have ajV18 : agr [] [80] V V18 := ajV18
  have agV18 : agr [(0, 60), (0, 65), (0, 68), (0, 69), (0, 73), (0, 76), (0, 90), (0, 91), (0, 92), (0, 93), (0, 95), (0, 96), (0, 98)] [59, 61, 62, 63, 64, 66, 67, 74, 75, 77, 78, 79, 80, 94, 97] V V18 := agV.tr ajV18 (by decide) (by decide)
  have rgz13 : 0 ≤ z13.toInt ∧ z13.toInt ≤ 24 := rgz13
  have t16 : ∀ i : Nat, (i : Int) < z13.toInt → th V (Int32.toNatClampNeg (V18 80 i)) := t16
  have t17 : c0k V V18 := t17
  refine lv_istore (lv' := [(7, .int z13), (0, .ref (ad 0)), (1, .int p0), (2, .int p1), (3, .int p2), (4, .int p3), (5, .int p4), (6, .int p5)]) hx hb dX12_ofLate_5 hl (by decide) rfl (fun ls hl => ?_)
  have rt20 : RT V18 := RT.ag rt hMV (show agr [] [80] V V18 from (agr.tr agr.rf ajV18 (by decide) (by decide))) ⟨⟨rfl, fun _ => rfl, fun _ => rfl, fun _ => rfl, fun _ => rfl, fun _ => rfl, fun _ => rfl⟩, by decide, by decide, rfl, rfl, fun _ => rfl, fun _ => rfl, fun _ => rfl, fun _ => rfl, fun _ => rfl, fun _ => rfl⟩ (c0k.tr (V := V) (W := V) (X := V18) c0k.rf t17 (show agr [] [] V V from agr.rf) ⟨rfl, fun _ => rfl, fun _ => rfl, fun _ => rfl, fun _ => rfl, fun _ => rfl, fun _ => rfl⟩)
  have tq : th V18 (cd0 V18) := (rt20.2.1).resolve_right (fun hn => hn _ _ (th.ag hO ajV18 ⟨rfl, fun _ => rfl, fun _ => rfl, fun _ => rfl, fun _ => rfl, fun _ => rfl, fun _ => rfl⟩) (ndL.ag ndl ajV18 ⟨rfl, fun _ => rfl, fun _ => rfl, fun _ => rfl, fun _ => rfl, fun _ => rfl, fun _ => rfl⟩))
  refine lv_aload_n hx hb dX12_ofLate_7 rfl (lv_at hl 1 rfl) ?_
  refine va_get (D := D) (ci := 12) (v := .ref (ad 80)) (C := RX12) (T := TX12) (N := 100) hx hb hg inX12 hown hK hP 0 rfl rfl 80 (by decide) (hg _ w1790) (fun _ h9 => h9) rfl dX12_ofLate_8 ?_
  refine lv_iconst (v := 0) hx hb dX12_ofLate_11 (by decide) ?_
  refine va_iald (D := D) (i := 0) hx hb hK hP 57 56 rfl rfl (i_in (a := 0) (by decide) (by decide)) dX12_ofLate_12 ?_
  refine g_top (v := V18 80 0) (congrArg (V18 80) (by decide)) ?_
  have r21 : 0 ≤ ((V18 80 0)).toInt ∧ ((V18 80 0)).toInt ≤ 23 := hMV18 80 0
  refine lv_istore (lv' := [(8, .int (V18 80 0)), (7, .int z13), (0, .ref (ad 0)), (1, .int p0), (2, .int p1), (3, .int p2), (4, .int p3), (5, .int p4), (6, .int p5)]) hx hb dX12_ofLate_13 hl (by decide) rfl (fun ls hl => ?_)
  refine lv_aload_n hx hb dX12_ofLate_15 rfl (lv_at hl 2 rfl) ?_
  refine va_get (D := D) (ci := 12) (v := .ref (ad 22)) (C := RX12) (T := TX12) (N := 100) hx hb hg inX12 hown hK hP 0 rfl rfl 22 (by decide) (hg _ w1732) (fun _ h9 => h9) rfl dX12_ofLate_16 ?_
  refine lv_bipush (v := 24) hx hb dX12_ofLate_19 (by decide) ?_
  refine lv_aload_n hx hb dX12_ofLate_21 rfl (lv_at hl 2 rfl) ?_
  refine va_get (D := D) (ci := 12) (v := .int (V18 0 11)) (C := RX12) (T := TX12) (N := 100) hx hb hg inX12 hown hK hP 0 rfl rfl 11 (by decide) (hg _ w1721) (fun _ h9 => h9) rfl dX12_ofLate_22 ?_
  refine g_top (v := (V 0 11)) (ajV18 0 11 rfl) ?_
  refine lv_imul hx hb dX12_ofLate_25 ?_
  refine lv_topi (fun z22 ez22 => ?_)
  have hz22 : z22.toInt = 24 * ((V 0 11)).toInt := i_mul ez22 (by decide) rfl (by omega)
  refine lv_iload hx hb dX12_ofLate_26 (lv_at hl 0 rfl) ?_
  refine lv_iadd hx hb dX12_ofLate_28 ?_
  refine lv_topi (fun z23 ez23 => ?_)
  have hz23 : z23.toInt = z22.toInt + ((V18 80 0)).toInt := i_add ez23 rfl rfl (by omega)
  refine va_iald (D := D) (i := z23) hx hb hK hP 15 14 rfl rfl (i_in (a := z23.toInt) rfl (by first | omega | ((try (have i_nq := Imp.go nq (by omega))); (try (have i_rt := Imp.go rt (by omega))); (try (have i_rt := Imp.go rt (by omega))); (try (have i_nq := Imp.go nq (by omega))); omega))) dX12_ofLate_29 ?_
  refine g_top (v := (V 22 (Int32.toNatClampNeg z23))) (ajV18 22 (Int32.toNatClampNeg z23) rfl) ?_
  refine lv_iconst (v := 3) hx hb dX12_ofLate_30 (by decide) ?_
  refine lv_icmp_ne (tgt := 38) hx hb dX12_ofLate_31 (by decide) (fun c24 => ?_) (fun c24 => ?_)
  · skip
    have f25 : ((V 22 (Int32.toNatClampNeg z23))).toInt ≠ 3 := b_neq rfl (by decide) c24
    refine lv_iconst (v := 0) hx hb dX12_ofLate_38 (by decide) ?_
    refine lv_istore (lv' := [(9, .int 0), (8, .int (V18 80 0)), (7, .int z13), (0, .ref (ad 0)), (1, .int p0), (2, .int p1), (3, .int p2), (4, .int p3), (5, .int p4), (6, .int p5)]) hx hb dX12_ofLate_39 hl (by decide) rfl (fun ls hl => ?_)
    refine lv_iload hx hb dX12_ofLate_41 (lv_at hl 0 rfl) ?_
    refine lv_if_eq (tgt := 60) hx hb dX12_ofLate_43 (by decide) (fun _ => ?_) (fun q => absurd (by decide) q)
    refine lv_aload_n hx hb dX12_ofLate_60 rfl (lv_at hl 3 rfl) ?_
    refine va_get (D := D) (ci := 12) (v := .int (V18 0 93)) (C := RX12) (T := TX12) (N := 100) hx hb hg inX12 hown hK hP 0 rfl rfl 93 (by decide) (hg _ w1803) (fun _ h9 => h9) rfl dX12_ofLate_61 ?_
    refine g_top (v := (V 0 93)) (ajV18 0 93 rfl) ?_
    refine lv_bipush (v := 10) hx hb dX12_ofLate_64 (by decide) ?_
    refine lv_icmp_ne (tgt := 76) hx hb dX12_ofLate_66 (by decide) (fun c26 => ?_) (fun c26 => ?_)
    · skip
      have f27 : ((V 0 93)).toInt ≠ 10 := b_neq rfl (by decide) c26
      refine lv_aload_n hx hb dX12_ofLate_76 rfl (lv_at hl 3 rfl) ?_
      refine lv_dup hx hb dX12_ofLate_77 rfl ?_
      refine va_get (D := D) (ci := 12) (v := .int (V18 0 93)) (C := RX12) (T := TX12) (N := 100) hx hb hg inX12 hown hK hP 0 rfl rfl 93 (by decide) (hg _ w1803) (fun _ h9 => h9) rfl dX12_ofLate_78 ?_
      refine g_top (v := (V 0 93)) (ajV18 0 93 rfl) ?_
      refine lv_iconst (v := 1) hx hb dX12_ofLate_81 (by decide) ?_
      refine lv_iadd hx hb dX12_ofLate_82 ?_
      refine lv_topi (fun z28 ez28 => ?_)
      have hz28 : z28.toInt = ((V 0 93)).toInt + 1 := i_add ez28 rfl (by decide) (by omega)
      refine va_put (D := D) (ci := 12) (v := .int z28) (ty := tyX12 93) (C := RX12) (T := TX12) (N := 100) hx hb hg inX12 tyX12 tyX12_ok nmX12 hown hK hP hD hS 0 rfl rfl 93 (by decide) (hg _ w1803) (fun _ h9 => h9) rfl (tyX12_ok 93 (by decide)) rfl rfl (Nat.le_of_ble_eq_true rfl) dX12_ofLate_83 (fun H locs hP hD hS => ?_)
      obtain ⟨V29, hV29⟩ : ∃ z, z = up2 V18 0 93 z28 := ⟨_, rfl⟩
      have hP : va_P D vwCl (mw ad kk ks.1 V29 L) H := by rw [hV29]; exact hP
      have hD : va_D A (mw ad kk ks.1 V29 L) := by rw [hV29]; exact hD
      have hMV29 : rgd bM V29 := hMV18.put hV29 (show 0 ≤ z28.toInt ∧ z28.toInt ≤ 10 from by first | omega | ((try (have i_nq := Imp.go nq (by omega))); (try (have i_rt := Imp.go rt (by omega))); (try (have i_rt := Imp.go rt (by omega))); (try (have i_nq := Imp.go nq (by omega))); omega))
      have agV29 : agr [(0, 60), (0, 65), (0, 68), (0, 69), (0, 73), (0, 76), (0, 90), (0, 91), (0, 92), (0, 93), (0, 95), (0, 96), (0, 98)] [59, 61, 62, 63, 64, 66, 67, 74, 75, 77, 78, 79, 80, 94, 97] V V29 := agV18.up hV29 rfl
      obtain ⟨d9, hd9⟩ : ∃ d9, d2 = d9 + 1 := ⟨d2 - 1, by omega⟩
      refine lv_aload_n hx hb dX12_ofLate_86 rfl (lv_at hl 3 rfl) ?_
      refine lv_iload hx hb dX12_ofLate_87 (lv_at hl 1 rfl) ?_
      refine lv_iload hx hb dX12_ofLate_89 (lv_at hl 8 rfl) ?_
      have pq30 : (V29 0 65).toInt = ((V 0 65)).toInt := congrArg Int32.toInt ((up2_k hV29 (by decide)).trans (ajV18 0 65 rfl))
      have pq31 : (V29 0 60).toInt = ((V 0 60)).toInt := congrArg Int32.toInt ((up2_k hV29 (by decide)).trans (ajV18 0 60 rfl))
      have pq32 : (V29 0 95).toInt = ((V 0 95)).toInt := congrArg Int32.toInt ((up2_k hV29 (by decide)).trans (ajV18 0 95 rfl))
      have pq33 : (V29 0 73).toInt = ((V 0 73)).toInt := congrArg Int32.toInt ((up2_k hV29 (by decide)).trans (ajV18 0 73 rfl))
      have pq34 : (V29 0 76).toInt = ((V 0 76)).toInt := congrArg Int32.toInt ((up2_k hV29 (by decide)).trans (ajV18 0 76 rfl))
      have pq35 : (V29 0 69).toInt = ((V 0 69)).toInt := congrArg Int32.toInt ((up2_k hV29 (by decide)).trans (ajV18 0 69 rfl))
      have pq36 : (V29 0 93).toInt = z28.toInt := congrArg Int32.toInt (up2_s hV29)
      have pq37 : (V29 0 98).toInt = ((V 0 98)).toInt := congrArg Int32.toInt ((up2_k hV29 (by decide)).trans (ajV18 0 98 rfl))
      have rt38 : RT V29 := RT.ag rt hMV (show agr [(0, 93)] [80] V V29 from (agr.up (agr.tr agr.rf ajV18 (by decide) (by decide)) hV29 rfl)) ⟨⟨rfl, fun _ => rfl, fun _ => rfl, fun _ => rfl, fun _ => rfl, fun _ => rfl, fun _ => rfl⟩, by decide, by decide, rfl, rfl, fun _ => rfl, fun _ => rfl, fun _ => rfl, fun _ => rfl, fun _ => rfl, fun _ => rfl⟩ (c0k.tr (V := V) (W := V18) (X := V29) (c0k.tr (V := V) (W := V) (X := V18) c0k.rf t17 (show agr [] [] V V from agr.rf) ⟨rfl, fun _ => rfl, fun _ => rfl, fun _ => rfl, fun _ => rfl, fun _ => rfl, fun _ => rfl⟩) (Or.inl (up2_o hV29 (by decide))) (show agr [] [80] V V18 from (agr.tr agr.rf ajV18 (by decide) (by decide))) ⟨rfl, fun _ => rfl, fun _ => rfl, fun _ => rfl, fun _ => rfl, fun _ => rfl, fun _ => rfl⟩)
      refine gA_int (gA_runV (As := [.int (V18 80 0), .int p4]) (rest := []) (ci := 12) (q0 := 0) hx hb hml hown hg hP hD hK hS hA hnw hgk ((hk_s_getsWhole d9 hd9) H.size ad kk V29 L (V18 80 0) p4 hMV29 (by first | omega | ((try (have i_nq := Imp.go nq (by omega))); (try (have i_rt := Imp.go rt (by omega))); (try (have i_rt := Imp.go rt (by omega))); (try (have i_nq := Imp.go nq (by omega))); omega)) (by first | omega | ((try (have i_nq := Imp.go nq (by omega))); (try (have i_rt := Imp.go rt (by omega))); (try (have i_rt := Imp.go rt (by omega))); (try (have i_nq := Imp.go nq (by omega))); omega)) rt38 (show (V29 0 65).toInt ≤ (V29 0 60).toInt from by first | omega | ((try (have i_nq := Imp.go nq (by omega))); (try (have i_rt := Imp.go rt (by omega))); (try (have i_rt := Imp.go rt (by omega))); (try (have i_nq := Imp.go nq (by omega))); omega)) (show (V29 0 95).toInt ≤ (V29 0 65).toInt from by first | omega | ((try (have i_nq := Imp.go nq (by omega))); (try (have i_rt := Imp.go rt (by omega))); (try (have i_rt := Imp.go rt (by omega))); (try (have i_nq := Imp.go nq (by omega))); omega)) (show (V29 0 73).toInt + (V29 0 95).toInt - (V29 0 65).toInt ≤ 999000 from by first | omega | ((try (have i_nq := Imp.go nq (by omega))); (try (have i_rt := Imp.go rt (by omega))); (try (have i_rt := Imp.go rt (by omega))); (try (have i_nq := Imp.go nq (by omega))); omega)) (show (V29 0 76).toInt - (V29 0 69).toInt - (V29 0 73).toInt ≤ 1000000000 from by first | omega | ((try (have i_nq := Imp.go nq (by omega))); (try (have i_rt := Imp.go rt (by omega))); (try (have i_rt := Imp.go rt (by omega))); (try (have i_nq := Imp.go nq (by omega))); omega)) (show 300 - (V29 0 60).toInt ≤ ((d1 : Nat) : Int) from by first | omega | ((try (have i_nq := Imp.go nq (by omega))); (try (have i_rt := Imp.go rt (by omega))); (try (have i_rt := Imp.go rt (by omega))); (try (have i_nq := Imp.go nq (by omega))); omega)) (show 10 - (V29 0 93).toInt ≤ ((d9 : Nat) : Int) from by first | omega | ((try (have i_nq := Imp.go nq (by omega))); (try (have i_rt := Imp.go rt (by omega))); (try (have i_rt := Imp.go rt (by omega))); (try (have i_nq := Imp.go nq (by omega))); omega)) (show (V29 0 98).toInt + 400 * ((d9 : Nat) : Int) + 30 ≤ 19000 from by first | omega | ((try (have i_nq := Imp.go nq (by omega))); (try (have i_rt := Imp.go rt (by omega))); (try (have i_rt := Imp.go rt (by omega))); (try (have i_nq := Imp.go nq (by omega))); omega)) (th.ag tq (show agr [(0, 93)] [] V18 V29 from (agr.up agr.rf hV29 rfl)) ⟨rfl, fun _ => rfl, fun _ => rfl, fun _ => rfl, fun _ => rfl, fun _ => rfl, fun _ => rfl⟩)) w2239 w2241 w128 w172 w2242 rfl rfl hdV_yX12_getsWhole ⟨(by show (4 * (d1) + 40 * (d9) + 16) + 1 ≤ (4 * d1 + 40 * d2 + 9); omega), (by show 8 + (8 + 11) + (100 * (d1) + 1000 * (d9) + 620) ≤ (100 * d1 + 1000 * d2 + 350); omega)⟩ rfl hl.1 rfl (Nat.le_of_ble_eq_true rfl) dX12_ofLate_91 ⟨Nat.le_of_ble_eq_true rfl, Nat.le_of_ble_eq_true rfl⟩) hP hD hK hS hA (fun z39 u40 H locs w41 hP hD hK hS => ?_)
      obtain ⟨V55, L56⟩ := u40
      obtain ⟨hMV55, ajV55, axL56, rgz39, t42, t43, t44, t45, t46, t47, t48, t49, t50, t51, t52, t53, t54⟩ := w41
      have axL56 : L = L56 := Eq.symm axL56
      subst axL56
      have hP : va_P D vwCl (mw ad kk ks.1 V55 L) H := hP
      have hD : va_D A (mw ad kk ks.1 V55 L) := hD
      have hMV55 : rgd bM V55 := hMV55
      have ajV55 : agr [(0, 60), (0, 65), (0, 68), (0, 69), (0, 73), (0, 76), (0, 90), (0, 91), (0, 92), (0, 93), (0, 95), (0, 96), (0, 98)] [59, 61, 62, 63, 64, 66, 67, 74, 75, 77, 78, 79, 80, 94, 97] V29 V55 := ajV55
      have agV55 : agr [(0, 60), (0, 65), (0, 68), (0, 69), (0, 73), (0, 76), (0, 90), (0, 91), (0, 92), (0, 93), (0, 95), (0, 96), (0, 98)] [59, 61, 62, 63, 64, 66, 67, 74, 75, 77, 78, 79, 80, 94, 97] V V55 := agV29.tr ajV55 (by decide) (by decide)
      have rgz39 : 0 ≤ z39.toInt ∧ z39.toInt ≤ 2 := rgz39
      have t42 : (V55 0 93).toInt = (V29 0 93).toInt := t42
      have t43 : (V55 0 98).toInt = (V29 0 98).toInt := t43
      have t44 : (V29 0 60).toInt ≤ (V55 0 60).toInt := t44
      have t45 : (V29 0 65).toInt ≤ (V55 0 65).toInt := t45
      have t46 : (V55 0 65).toInt - (V29 0 65).toInt ≤ (V55 0 60).toInt - (V29 0 60).toInt := t46
      have t47 : (V55 0 73).toInt + (V55 0 95).toInt - (V55 0 65).toInt ≤ (V29 0 73).toInt + (V29 0 95).toInt - (V29 0 65).toInt := t47
      have t48 : (V29 0 73).toInt ≤ (V55 0 73).toInt := t48
      have t49 : (V29 0 69).toInt ≤ (V55 0 69).toInt := t49
      have t50 : (V55 0 95).toInt = (V29 0 95).toInt := t50
      have t51 : (V55 0 76).toInt - (V55 0 69).toInt - (V55 0 73).toInt ≤ (V29 0 76).toInt - (V29 0 69).toInt - (V29 0 73).toInt := t51
      have t52 : Imp (z39.toInt = 0) (0 ≤ (V55 0 92).toInt ∧ (V55 0 92).toInt < (V55 0 60).toInt) := t52
      have t53 : RT V55 := t53
      have t54 : FRM V29 V55 (-1) := t54
      have r57 : 0 ≤ ((V55 0 93)).toInt ∧ ((V55 0 93)).toInt ≤ 10 := hMV55 0 93
      have r58 : 0 ≤ ((V55 0 98)).toInt ∧ ((V55 0 98)).toInt ≤ 20000 := hMV55 0 98
      have r59 : 0 ≤ ((V55 0 60)).toInt ∧ ((V55 0 60)).toInt ≤ 300 := hMV55 0 60
      have r60 : 0 ≤ ((V55 0 65)).toInt ∧ ((V55 0 65)).toInt ≤ 1000000 := hMV55 0 65
      have r61 : 0 ≤ ((V55 0 73)).toInt ∧ ((V55 0 73)).toInt ≤ 1000000 := hMV55 0 73
      have r62 : 0 ≤ ((V55 0 95)).toInt ∧ ((V55 0 95)).toInt ≤ 300 := hMV55 0 95
      have r63 : 0 ≤ ((V55 0 69)).toInt ∧ ((V55 0 69)).toInt ≤ 3000 := hMV55 0 69
      have r64 : 0 ≤ ((V55 0 76)).toInt ∧ ((V55 0 76)).toInt ≤ 2000000000 := hMV55 0 76
      refine lv_istore (lv' := [(10, .int z39), (9, .int 0), (8, .int (V18 80 0)), (7, .int z13), (0, .ref (ad 0)), (1, .int p0), (2, .int p1), (3, .int p2), (4, .int p3), (5, .int p4), (6, .int p5)]) hx hb dX12_ofLate_94 hl (by decide) rfl (fun ls hl => ?_)
      refine lv_aload_n hx hb dX12_ofLate_96 rfl (lv_at hl 4 rfl) ?_
      refine lv_dup hx hb dX12_ofLate_97 rfl ?_
      refine va_get (D := D) (ci := 12) (v := .int (V55 0 93)) (C := RX12) (T := TX12) (N := 100) hx hb hg inX12 hown hK hP 0 rfl rfl 93 (by decide) (hg _ w1803) (fun _ h9 => h9) rfl dX12_ofLate_98 ?_
      refine lv_iconst (v := 1) hx hb dX12_ofLate_101 (by decide) ?_
      refine lv_isub hx hb dX12_ofLate_102 ?_
      refine lv_topi (fun z65 ez65 => ?_)
      have hz65 : z65.toInt = ((V55 0 93)).toInt - 1 := i_sub ez65 rfl (by decide) (by omega)
      refine va_put (D := D) (ci := 12) (v := .int z65) (ty := tyX12 93) (C := RX12) (T := TX12) (N := 100) hx hb hg inX12 tyX12 tyX12_ok nmX12 hown hK hP hD hS 0 rfl rfl 93 (by decide) (hg _ w1803) (fun _ h9 => h9) rfl (tyX12_ok 93 (by decide)) rfl rfl (Nat.le_of_ble_eq_true rfl) dX12_ofLate_103 (fun H locs hP hD hS => ?_)
      obtain ⟨V66, hV66⟩ : ∃ z, z = up2 V55 0 93 z65 := ⟨_, rfl⟩
      have hP : va_P D vwCl (mw ad kk ks.1 V66 L) H := by rw [hV66]; exact hP
      have hD : va_D A (mw ad kk ks.1 V66 L) := by rw [hV66]; exact hD
      have hMV66 : rgd bM V66 := hMV55.put hV66 (show 0 ≤ z65.toInt ∧ z65.toInt ≤ 10 from by first | omega | ((try (have i_t52 := Imp.go t52 (by omega))); (try (have i_nq := Imp.go nq (by omega))); (try (have i_rt := Imp.go rt (by omega))); (try (have i_rt := Imp.go rt (by omega))); (try (have i_nq := Imp.go nq (by omega))); (try (have i_t52 := Imp.go t52 (by omega))); omega))
      have agV66 : agr [(0, 60), (0, 65), (0, 68), (0, 69), (0, 73), (0, 76), (0, 90), (0, 91), (0, 92), (0, 93), (0, 95), (0, 96), (0, 98)] [59, 61, 62, 63, 64, 66, 67, 74, 75, 77, 78, 79, 80, 94, 97] V V66 := agV55.up hV66 rfl
      refine lv_iload hx hb dX12_ofLate_106 (lv_at hl 0 rfl) ?_
      refine lv_if_le (tgt := 114) hx hb dX12_ofLate_108 (by decide) (fun c67 => ?_) (fun c67 => ?_)
      · skip
        have f68 : z39.toInt ≤ 0 := b_le rfl (by decide) c67
        refine lv_iload hx hb dX12_ofLate_114 (lv_at hl 1 rfl) ?_
        refine lv_if_eq (tgt := 163) hx hb dX12_ofLate_116 (by decide) (fun _ => ?_) (fun q => absurd (by decide) q)
        refine lv_aload_n hx hb dX12_ofLate_163 rfl (lv_at hl 4 rfl) ?_
        refine lv_aload_n hx hb dX12_ofLate_164 rfl (lv_at hl 4 rfl) ?_
        refine va_get (D := D) (ci := 12) (v := .int (V66 0 92)) (C := RX12) (T := TX12) (N := 100) hx hb hg inX12 hown hK hP 0 rfl rfl 92 (by decide) (hg _ w1802) (fun _ h9 => h9) rfl dX12_ofLate_165 ?_
        refine g_top (v := (V55 0 92)) (up2_k hV66 (by decide)) ?_
        refine lv_iload hx hb dX12_ofLate_168 (lv_at hl 8 rfl) ?_
        refine lv_iload hx hb dX12_ofLate_170 (lv_at hl 9 rfl) ?_
        refine lv_iload hx hb dX12_ofLate_172 (lv_at hl 10 rfl) ?_
        have pq69 : (V66 0 65).toInt = ((V55 0 65)).toInt := congrArg Int32.toInt (up2_k hV66 (by decide))
        have pq70 : (V66 0 60).toInt = ((V55 0 60)).toInt := congrArg Int32.toInt (up2_k hV66 (by decide))
        have pq71 : (V66 0 95).toInt = ((V55 0 95)).toInt := congrArg Int32.toInt (up2_k hV66 (by decide))
        have pq72 : (V66 0 73).toInt = ((V55 0 73)).toInt := congrArg Int32.toInt (up2_k hV66 (by decide))
        have pq73 : (V66 0 76).toInt = ((V55 0 76)).toInt := congrArg Int32.toInt (up2_k hV66 (by decide))
        have pq74 : (V66 0 69).toInt = ((V55 0 69)).toInt := congrArg Int32.toInt (up2_k hV66 (by decide))
        have pq75 : (V66 0 93).toInt = z65.toInt := congrArg Int32.toInt (up2_s hV66)
        have pq76 : (V66 0 98).toInt = ((V55 0 98)).toInt := congrArg Int32.toInt (up2_k hV66 (by decide))
        have rt77 : RT V66 := RT.ag t53 hMV55 (show agr [(0, 93)] [] V55 V66 from (agr.up agr.rf hV66 rfl)) ⟨⟨rfl, fun _ => rfl, fun _ => rfl, fun _ => rfl, fun _ => rfl, fun _ => rfl, fun _ => rfl⟩, by decide, by decide, rfl, rfl, fun _ => rfl, fun _ => rfl, fun _ => rfl, fun _ => rfl, fun _ => rfl, fun _ => rfl⟩ (c0k.ag (show agr [(0, 93)] [] V55 V66 from (agr.up agr.rf hV66 rfl)) rfl)
        refine gA_int (gA_runV (As := [.int (V55 0 92), .int p3, .int p4, .int p5]) (rest := []) (ci := 12) (q0 := 0) hx hb hml hown hg hP hD hK hS hA hnw hgk (hk_s_calls H.size ad kk V66 L (V55 0 92) p3 p4 p5 hMV66 (by first | omega | ((try (have i_t52 := Imp.go t52 (by omega))); (try (have i_nq := Imp.go nq (by omega))); (try (have i_rt := Imp.go rt (by omega))); (try (have i_rt := Imp.go rt (by omega))); (try (have i_nq := Imp.go nq (by omega))); (try (have i_t52 := Imp.go t52 (by omega))); omega)) (by first | omega | ((try (have i_t52 := Imp.go t52 (by omega))); (try (have i_nq := Imp.go nq (by omega))); (try (have i_rt := Imp.go rt (by omega))); (try (have i_rt := Imp.go rt (by omega))); (try (have i_nq := Imp.go nq (by omega))); (try (have i_t52 := Imp.go t52 (by omega))); omega)) (by first | omega | ((try (have i_t52 := Imp.go t52 (by omega))); (try (have i_nq := Imp.go nq (by omega))); (try (have i_rt := Imp.go rt (by omega))); (try (have i_rt := Imp.go rt (by omega))); (try (have i_nq := Imp.go nq (by omega))); (try (have i_t52 := Imp.go t52 (by omega))); omega)) rt77 (show (V66 0 65).toInt ≤ (V66 0 60).toInt from by first | omega | ((try (have i_t52 := Imp.go t52 (by omega))); (try (have i_nq := Imp.go nq (by omega))); (try (have i_rt := Imp.go rt (by omega))); (try (have i_rt := Imp.go rt (by omega))); (try (have i_nq := Imp.go nq (by omega))); (try (have i_t52 := Imp.go t52 (by omega))); omega)) (show (V66 0 95).toInt ≤ (V66 0 65).toInt from by first | omega | ((try (have i_t52 := Imp.go t52 (by omega))); (try (have i_nq := Imp.go nq (by omega))); (try (have i_rt := Imp.go rt (by omega))); (try (have i_rt := Imp.go rt (by omega))); (try (have i_nq := Imp.go nq (by omega))); (try (have i_t52 := Imp.go t52 (by omega))); omega)) (show (V66 0 73).toInt + (V66 0 95).toInt - (V66 0 65).toInt ≤ 999000 from by first | omega | ((try (have i_t52 := Imp.go t52 (by omega))); (try (have i_nq := Imp.go nq (by omega))); (try (have i_rt := Imp.go rt (by omega))); (try (have i_rt := Imp.go rt (by omega))); (try (have i_nq := Imp.go nq (by omega))); (try (have i_t52 := Imp.go t52 (by omega))); omega)) (show (V66 0 76).toInt - (V66 0 69).toInt - (V66 0 73).toInt ≤ 1000000000 from by first | omega | ((try (have i_t52 := Imp.go t52 (by omega))); (try (have i_nq := Imp.go nq (by omega))); (try (have i_rt := Imp.go rt (by omega))); (try (have i_rt := Imp.go rt (by omega))); (try (have i_nq := Imp.go nq (by omega))); (try (have i_t52 := Imp.go t52 (by omega))); omega)) (show 300 - (V66 0 60).toInt ≤ ((d1 : Nat) : Int) from by first | omega | ((try (have i_t52 := Imp.go t52 (by omega))); (try (have i_nq := Imp.go nq (by omega))); (try (have i_rt := Imp.go rt (by omega))); (try (have i_rt := Imp.go rt (by omega))); (try (have i_nq := Imp.go nq (by omega))); (try (have i_t52 := Imp.go t52 (by omega))); omega)) (show 10 - (V66 0 93).toInt ≤ ((d2 : Nat) : Int) from by first | omega | ((try (have i_t52 := Imp.go t52 (by omega))); (try (have i_nq := Imp.go nq (by omega))); (try (have i_rt := Imp.go rt (by omega))); (try (have i_rt := Imp.go rt (by omega))); (try (have i_nq := Imp.go nq (by omega))); (try (have i_t52 := Imp.go t52 (by omega))); omega)) (show ((V55 0 92)).toInt < (V66 0 60).toInt from by first | omega | ((try (have i_t52 := Imp.go t52 (by omega))); (try (have i_nq := Imp.go nq (by omega))); (try (have i_rt := Imp.go rt (by omega))); (try (have i_rt := Imp.go rt (by omega))); (try (have i_nq := Imp.go nq (by omega))); (try (have i_t52 := Imp.go t52 (by omega))); omega)) (show (V66 0 98).toInt + 400 * ((d2 : Nat) : Int) ≤ 19000 from by first | omega | ((try (have i_t52 := Imp.go t52 (by omega))); (try (have i_nq := Imp.go nq (by omega))); (try (have i_rt := Imp.go rt (by omega))); (try (have i_rt := Imp.go rt (by omega))); (try (have i_nq := Imp.go nq (by omega))); (try (have i_t52 := Imp.go t52 (by omega))); omega))) w2320 w2322 w148 w172 w2323 rfl rfl hdV_yX12_calls ⟨(by show (4 * (d1) + 40 * (d2) + 8) + 1 ≤ (4 * d1 + 40 * d2 + 9); omega), (by show 8 + (6 + 11) + (100 * (d1) + 1000 * (d2) + 320) ≤ (100 * d1 + 1000 * d2 + 350); omega)⟩ rfl hl.1 rfl (Nat.le_of_ble_eq_true rfl) dX12_ofLate_174 ⟨Nat.le_of_ble_eq_true rfl, Nat.le_of_ble_eq_true rfl⟩) hP hD hK hS hA (fun z78 u79 H locs w80 hP hD hK hS => ?_)
        obtain ⟨V93, L94⟩ := u79
        obtain ⟨hMV93, ajV93, axL94, rgz78, t81, t82, t83, t84, t85, t86, t87, t88, t89, t90, t91, t92⟩ := w80
        have axL94 : L = L94 := Eq.symm axL94
        subst axL94
        have hP : va_P D vwCl (mw ad kk ks.1 V93 L) H := hP
        have hD : va_D A (mw ad kk ks.1 V93 L) := hD
        have hMV93 : rgd bM V93 := hMV93
        have ajV93 : agr [(0, 60), (0, 65), (0, 68), (0, 69), (0, 73), (0, 76), (0, 90), (0, 91), (0, 92), (0, 93), (0, 95), (0, 96), (0, 98)] [59, 61, 62, 63, 64, 66, 67, 74, 75, 77, 78, 79, 80, 94, 97] V66 V93 := ajV93
        have agV93 : agr [(0, 60), (0, 65), (0, 68), (0, 69), (0, 73), (0, 76), (0, 90), (0, 91), (0, 92), (0, 93), (0, 95), (0, 96), (0, 98)] [59, 61, 62, 63, 64, 66, 67, 74, 75, 77, 78, 79, 80, 94, 97] V V93 := agV66.tr ajV93 (by decide) (by decide)
        have rgz78 : 0 ≤ z78.toInt ∧ z78.toInt ≤ 2 := rgz78
        have t81 : (V93 0 93).toInt = (V66 0 93).toInt := t81
        have t82 : (V93 0 98).toInt = (V66 0 98).toInt := t82
        have t83 : (V66 0 60).toInt ≤ (V93 0 60).toInt := t83
        have t84 : (V66 0 65).toInt ≤ (V93 0 65).toInt := t84
        have t85 : (V93 0 65).toInt - (V66 0 65).toInt ≤ (V93 0 60).toInt - (V66 0 60).toInt := t85
        have t86 : (V93 0 73).toInt + (V93 0 95).toInt - (V93 0 65).toInt ≤ (V66 0 73).toInt + (V66 0 95).toInt - (V66 0 65).toInt := t86
        have t87 : (V66 0 73).toInt ≤ (V93 0 73).toInt := t87
        have t88 : (V66 0 69).toInt ≤ (V93 0 69).toInt := t88
        have t89 : (V93 0 95).toInt = (V66 0 95).toInt := t89
        have t90 : (V93 0 76).toInt - (V93 0 69).toInt - (V93 0 73).toInt ≤ (V66 0 76).toInt - (V66 0 69).toInt - (V66 0 73).toInt := t90
        have t91 : RT V93 := t91
        have t92 : FRM V66 V93 (-1) := t92
        have r95 : 0 ≤ ((V93 0 93)).toInt ∧ ((V93 0 93)).toInt ≤ 10 := hMV93 0 93
        have r96 : 0 ≤ ((V93 0 98)).toInt ∧ ((V93 0 98)).toInt ≤ 20000 := hMV93 0 98
        have r97 : 0 ≤ ((V93 0 60)).toInt ∧ ((V93 0 60)).toInt ≤ 300 := hMV93 0 60
        have r98 : 0 ≤ ((V93 0 65)).toInt ∧ ((V93 0 65)).toInt ≤ 1000000 := hMV93 0 65
        have r99 : 0 ≤ ((V93 0 73)).toInt ∧ ((V93 0 73)).toInt ≤ 1000000 := hMV93 0 73
        have r100 : 0 ≤ ((V93 0 95)).toInt ∧ ((V93 0 95)).toInt ≤ 300 := hMV93 0 95
        have r101 : 0 ≤ ((V93 0 69)).toInt ∧ ((V93 0 69)).toInt ≤ 3000 := hMV93 0 69
        have r102 : 0 ≤ ((V93 0 76)).toInt ∧ ((V93 0 76)).toInt ≤ 2000000000 := hMV93 0 76
        have fm103 : FRM V V29 (-1) := ((FRM.ag (show agr [(0, 93)] [80] V V29 from (agr.up (agr.tr agr.rf ajV18 (by decide) (by decide)) hV29 rfl)) ⟨⟨rfl, fun _ => rfl, fun _ => rfl, fun _ => rfl, fun _ => rfl, fun _ => rfl, fun _ => rfl⟩, by decide, by decide, rfl, rfl, fun _ => rfl, fun _ => rfl, fun _ => rfl, fun _ => rfl, fun _ => rfl, fun _ => rfl⟩) : FRM V V29 (-1))
        have fm104 : FRM V V55 (-1) := (FRM.tr fm103 t54 agV29 ⟨rfl, fun _ => rfl, fun _ => rfl, fun _ => rfl, fun _ => rfl, fun _ => rfl, fun _ => rfl⟩ (by omega))
        have fm105 : FRM V V66 (-1) := (FRM.tr fm104 (FRM.ag (show agr [(0, 93)] [] V55 V66 from (agr.up agr.rf hV66 rfl)) ⟨⟨rfl, fun _ => rfl, fun _ => rfl, fun _ => rfl, fun _ => rfl, fun _ => rfl, fun _ => rfl⟩, by decide, by decide, rfl, rfl, fun _ => rfl, fun _ => rfl, fun _ => rfl, fun _ => rfl, fun _ => rfl, fun _ => rfl⟩) agV55 ⟨rfl, fun _ => rfl, fun _ => rfl, fun _ => rfl, fun _ => rfl, fun _ => rfl, fun _ => rfl⟩ (by omega))
        have fm106 : FRM V V93 (-1) := (FRM.tr fm105 t92 agV66 ⟨rfl, fun _ => rfl, fun _ => rfl, fun _ => rfl, fun _ => rfl, fun _ => rfl, fun _ => rfl⟩ (by omega))
        exact W.iret (v := z78) hx hb hr (fun t ht hW => ⟨⟨z78, (V93, L), rfl, ⟨hMV93, agV93, rfl, (show 0 ≤ z78.toInt ∧ z78.toInt ≤ 2 from by first | omega | ((try (have i_t52 := Imp.go t52 (by omega))); (try (have i_nq := Imp.go nq (by omega))); (try (have i_rt := Imp.go rt (by omega))); (try (have i_rt := Imp.go rt (by omega))); (try (have i_nq := Imp.go nq (by omega))); (try (have i_t52 := Imp.go t52 (by omega))); omega)), (show (V93 0 93).toInt = (V 0 93).toInt from by first | omega | ((try (have i_t52 := Imp.go t52 (by omega))); (try (have i_nq := Imp.go nq (by omega))); (try (have i_rt := Imp.go rt (by omega))); (try (have i_rt := Imp.go rt (by omega))); (try (have i_nq := Imp.go nq (by omega))); (try (have i_t52 := Imp.go t52 (by omega))); omega)), (show (V93 0 98).toInt = (V 0 98).toInt from by first | omega | ((try (have i_t52 := Imp.go t52 (by omega))); (try (have i_nq := Imp.go nq (by omega))); (try (have i_rt := Imp.go rt (by omega))); (try (have i_rt := Imp.go rt (by omega))); (try (have i_nq := Imp.go nq (by omega))); (try (have i_t52 := Imp.go t52 (by omega))); omega)), (show (V 0 60).toInt ≤ (V93 0 60).toInt from by first | omega | ((try (have i_t52 := Imp.go t52 (by omega))); (try (have i_nq := Imp.go nq (by omega))); (try (have i_rt := Imp.go rt (by omega))); (try (have i_rt := Imp.go rt (by omega))); (try (have i_nq := Imp.go nq (by omega))); (try (have i_t52 := Imp.go t52 (by omega))); omega)), (show (V 0 65).toInt ≤ (V93 0 65).toInt from by first | omega | ((try (have i_t52 := Imp.go t52 (by omega))); (try (have i_nq := Imp.go nq (by omega))); (try (have i_rt := Imp.go rt (by omega))); (try (have i_rt := Imp.go rt (by omega))); (try (have i_nq := Imp.go nq (by omega))); (try (have i_t52 := Imp.go t52 (by omega))); omega)), (show (V93 0 65).toInt - (V 0 65).toInt ≤ (V93 0 60).toInt - (V 0 60).toInt from by first | omega | ((try (have i_t52 := Imp.go t52 (by omega))); (try (have i_nq := Imp.go nq (by omega))); (try (have i_rt := Imp.go rt (by omega))); (try (have i_rt := Imp.go rt (by omega))); (try (have i_nq := Imp.go nq (by omega))); (try (have i_t52 := Imp.go t52 (by omega))); omega)), (show (V93 0 73).toInt + (V93 0 95).toInt - (V93 0 65).toInt ≤ (V 0 73).toInt + (V 0 95).toInt - (V 0 65).toInt from by first | omega | ((try (have i_t52 := Imp.go t52 (by omega))); (try (have i_nq := Imp.go nq (by omega))); (try (have i_rt := Imp.go rt (by omega))); (try (have i_rt := Imp.go rt (by omega))); (try (have i_nq := Imp.go nq (by omega))); (try (have i_t52 := Imp.go t52 (by omega))); omega)), (show (V 0 73).toInt ≤ (V93 0 73).toInt from by first | omega | ((try (have i_t52 := Imp.go t52 (by omega))); (try (have i_nq := Imp.go nq (by omega))); (try (have i_rt := Imp.go rt (by omega))); (try (have i_rt := Imp.go rt (by omega))); (try (have i_nq := Imp.go nq (by omega))); (try (have i_t52 := Imp.go t52 (by omega))); omega)), (show (V 0 69).toInt ≤ (V93 0 69).toInt from by first | omega | ((try (have i_t52 := Imp.go t52 (by omega))); (try (have i_nq := Imp.go nq (by omega))); (try (have i_rt := Imp.go rt (by omega))); (try (have i_rt := Imp.go rt (by omega))); (try (have i_nq := Imp.go nq (by omega))); (try (have i_t52 := Imp.go t52 (by omega))); omega)), (show (V93 0 95).toInt = (V 0 95).toInt from by first | omega | ((try (have i_t52 := Imp.go t52 (by omega))); (try (have i_nq := Imp.go nq (by omega))); (try (have i_rt := Imp.go rt (by omega))); (try (have i_rt := Imp.go rt (by omega))); (try (have i_nq := Imp.go nq (by omega))); (try (have i_t52 := Imp.go t52 (by omega))); omega)), (show (V93 0 76).toInt - (V93 0 69).toInt - (V93 0 73).toInt ≤ (V 0 76).toInt - (V 0 69).toInt - (V 0 73).toInt from by first | omega | ((try (have i_t52 := Imp.go t52 (by omega))); (try (have i_nq := Imp.go nq (by omega))); (try (have i_rt := Imp.go rt (by omega))); (try (have i_rt := Imp.go rt (by omega))); (try (have i_nq := Imp.go nq (by omega))); (try (have i_t52 := Imp.go t52 (by omega))); omega)), t91, fm106⟩, by rw [ht]; exact hP, va_K.moved hW.alike hK, hD⟩, hS.F ht⟩) hS.2.2 dX12_ofLate_177
      · skip
        have f107 : 0 < z39.toInt := b_nle rfl (by decide) c67
        refine lv_iload hx hb dX12_ofLate_111 (lv_at hl 0 rfl) ?_
        have pq108 : (V66 0 93).toInt = z65.toInt := congrArg Int32.toInt (up2_s hV66)
        have pq109 : (V66 0 98).toInt = ((V55 0 98)).toInt := congrArg Int32.toInt (up2_k hV66 (by decide))
        have pq110 : (V66 0 60).toInt = ((V55 0 60)).toInt := congrArg Int32.toInt (up2_k hV66 (by decide))
        have pq111 : (V66 0 65).toInt = ((V55 0 65)).toInt := congrArg Int32.toInt (up2_k hV66 (by decide))
        have pq112 : (V66 0 73).toInt = ((V55 0 73)).toInt := congrArg Int32.toInt (up2_k hV66 (by decide))
        have pq113 : (V66 0 95).toInt = ((V55 0 95)).toInt := congrArg Int32.toInt (up2_k hV66 (by decide))
        have pq114 : (V66 0 69).toInt = ((V55 0 69)).toInt := congrArg Int32.toInt (up2_k hV66 (by decide))
        have pq115 : (V66 0 76).toInt = ((V55 0 76)).toInt := congrArg Int32.toInt (up2_k hV66 (by decide))
        have rt116 : RT V66 := RT.ag t53 hMV55 (show agr [(0, 93)] [] V55 V66 from (agr.up agr.rf hV66 rfl)) ⟨⟨rfl, fun _ => rfl, fun _ => rfl, fun _ => rfl, fun _ => rfl, fun _ => rfl, fun _ => rfl⟩, by decide, by decide, rfl, rfl, fun _ => rfl, fun _ => rfl, fun _ => rfl, fun _ => rfl, fun _ => rfl, fun _ => rfl⟩ (c0k.ag (show agr [(0, 93)] [] V55 V66 from (agr.up agr.rf hV66 rfl)) rfl)
        have fm117 : FRM V V29 (-1) := ((FRM.ag (show agr [(0, 93)] [80] V V29 from (agr.up (agr.tr agr.rf ajV18 (by decide) (by decide)) hV29 rfl)) ⟨⟨rfl, fun _ => rfl, fun _ => rfl, fun _ => rfl, fun _ => rfl, fun _ => rfl, fun _ => rfl⟩, by decide, by decide, rfl, rfl, fun _ => rfl, fun _ => rfl, fun _ => rfl, fun _ => rfl, fun _ => rfl, fun _ => rfl⟩) : FRM V V29 (-1))
        have fm118 : FRM V V55 (-1) := (FRM.tr fm117 t54 agV29 ⟨rfl, fun _ => rfl, fun _ => rfl, fun _ => rfl, fun _ => rfl, fun _ => rfl, fun _ => rfl⟩ (by omega))
        have fm119 : FRM V V66 (-1) := (FRM.tr fm118 (FRM.ag (show agr [(0, 93)] [] V55 V66 from (agr.up agr.rf hV66 rfl)) ⟨⟨rfl, fun _ => rfl, fun _ => rfl, fun _ => rfl, fun _ => rfl, fun _ => rfl, fun _ => rfl⟩, by decide, by decide, rfl, rfl, fun _ => rfl, fun _ => rfl, fun _ => rfl, fun _ => rfl, fun _ => rfl, fun _ => rfl⟩) agV55 ⟨rfl, fun _ => rfl, fun _ => rfl, fun _ => rfl, fun _ => rfl, fun _ => rfl, fun _ => rfl⟩ (by omega))
        exact W.iret (v := z39) hx hb hr (fun t ht hW => ⟨⟨z39, (V66, L), rfl, ⟨hMV66, agV66, rfl, (show 0 ≤ z39.toInt ∧ z39.toInt ≤ 2 from by first | omega | ((try (have i_t52 := Imp.go t52 (by omega))); (try (have i_nq := Imp.go nq (by omega))); (try (have i_rt := Imp.go rt (by omega))); (try (have i_rt := Imp.go rt (by omega))); (try (have i_nq := Imp.go nq (by omega))); (try (have i_t52 := Imp.go t52 (by omega))); omega)), (show (V66 0 93).toInt = (V 0 93).toInt from by first | omega | ((try (have i_t52 := Imp.go t52 (by omega))); (try (have i_nq := Imp.go nq (by omega))); (try (have i_rt := Imp.go rt (by omega))); (try (have i_rt := Imp.go rt (by omega))); (try (have i_nq := Imp.go nq (by omega))); (try (have i_t52 := Imp.go t52 (by omega))); omega)), (show (V66 0 98).toInt = (V 0 98).toInt from by first | omega | ((try (have i_t52 := Imp.go t52 (by omega))); (try (have i_nq := Imp.go nq (by omega))); (try (have i_rt := Imp.go rt (by omega))); (try (have i_rt := Imp.go rt (by omega))); (try (have i_nq := Imp.go nq (by omega))); (try (have i_t52 := Imp.go t52 (by omega))); omega)), (show (V 0 60).toInt ≤ (V66 0 60).toInt from by first | omega | ((try (have i_t52 := Imp.go t52 (by omega))); (try (have i_nq := Imp.go nq (by omega))); (try (have i_rt := Imp.go rt (by omega))); (try (have i_rt := Imp.go rt (by omega))); (try (have i_nq := Imp.go nq (by omega))); (try (have i_t52 := Imp.go t52 (by omega))); omega)), (show (V 0 65).toInt ≤ (V66 0 65).toInt from by first | omega | ((try (have i_t52 := Imp.go t52 (by omega))); (try (have i_nq := Imp.go nq (by omega))); (try (have i_rt := Imp.go rt (by omega))); (try (have i_rt := Imp.go rt (by omega))); (try (have i_nq := Imp.go nq (by omega))); (try (have i_t52 := Imp.go t52 (by omega))); omega)), (show (V66 0 65).toInt - (V 0 65).toInt ≤ (V66 0 60).toInt - (V 0 60).toInt from by first | omega | ((try (have i_t52 := Imp.go t52 (by omega))); (try (have i_nq := Imp.go nq (by omega))); (try (have i_rt := Imp.go rt (by omega))); (try (have i_rt := Imp.go rt (by omega))); (try (have i_nq := Imp.go nq (by omega))); (try (have i_t52 := Imp.go t52 (by omega))); omega)), (show (V66 0 73).toInt + (V66 0 95).toInt - (V66 0 65).toInt ≤ (V 0 73).toInt + (V 0 95).toInt - (V 0 65).toInt from by first | omega | ((try (have i_t52 := Imp.go t52 (by omega))); (try (have i_nq := Imp.go nq (by omega))); (try (have i_rt := Imp.go rt (by omega))); (try (have i_rt := Imp.go rt (by omega))); (try (have i_nq := Imp.go nq (by omega))); (try (have i_t52 := Imp.go t52 (by omega))); omega)), (show (V 0 73).toInt ≤ (V66 0 73).toInt from by first | omega | ((try (have i_t52 := Imp.go t52 (by omega))); (try (have i_nq := Imp.go nq (by omega))); (try (have i_rt := Imp.go rt (by omega))); (try (have i_rt := Imp.go rt (by omega))); (try (have i_nq := Imp.go nq (by omega))); (try (have i_t52 := Imp.go t52 (by omega))); omega)), (show (V 0 69).toInt ≤ (V66 0 69).toInt from by first | omega | ((try (have i_t52 := Imp.go t52 (by omega))); (try (have i_nq := Imp.go nq (by omega))); (try (have i_rt := Imp.go rt (by omega))); (try (have i_rt := Imp.go rt (by omega))); (try (have i_nq := Imp.go nq (by omega))); (try (have i_t52 := Imp.go t52 (by omega))); omega)), (show (V66 0 95).toInt = (V 0 95).toInt from by first | omega | ((try (have i_t52 := Imp.go t52 (by omega))); (try (have i_nq := Imp.go nq (by omega))); (try (have i_rt := Imp.go rt (by omega))); (try (have i_rt := Imp.go rt (by omega))); (try (have i_nq := Imp.go nq (by omega))); (try (have i_t52 := Imp.go t52 (by omega))); omega)), (show (V66 0 76).toInt - (V66 0 69).toInt - (V66 0 73).toInt ≤ (V 0 76).toInt - (V 0 69).toInt - (V 0 73).toInt from by first | omega | ((try (have i_t52 := Imp.go t52 (by omega))); (try (have i_nq := Imp.go nq (by omega))); (try (have i_rt := Imp.go rt (by omega))); (try (have i_rt := Imp.go rt (by omega))); (try (have i_nq := Imp.go nq (by omega))); (try (have i_t52 := Imp.go t52 (by omega))); omega)), rt116, fm119⟩, by rw [ht]; exact hP, va_K.moved hW.alike hK, hD⟩, hS.F ht⟩) hS.2.2 dX12_ofLate_113
    · skip
      have f120 : ((V 0 93)).toInt = 10 := b_eq rfl (by decide) c26
      refine lv_aload_n hx hb dX12_ofLate_69 rfl (lv_at hl 3 rfl) ?_
      refine lv_bipush (v := 13) hx hb dX12_ofLate_70 (by decide) ?_
      have r121 : Int32.toInt 13 = 13 := by decide
      refine gA_int (gA_runV (As := [.int 13]) (rest := []) (ci := 12) (q0 := 0) hx hb hml hown hg hP hD hK hS hA hnw hgk (s_fails2 l D ks H.size ad kk V18 L 13 hMV18 ) w2251 w2253 w131 w172 w2254 rfl rfl hdV_yX12_fails ⟨(by show (0) + 1 ≤ (4 * d1 + 40 * d2 + 9); omega), (by show 8 + (2 + 11) + (0) ≤ (100 * d1 + 1000 * d2 + 350); omega)⟩ rfl hl.1 rfl (Nat.le_of_ble_eq_true rfl) dX12_ofLate_72 ⟨Nat.le_of_ble_eq_true rfl, Nat.le_of_ble_eq_true rfl⟩) hP hD hK hS hA (fun z122 u123 H locs w124 hP hD hK hS => ?_)
      obtain ⟨V125, L126⟩ := u123
      obtain ⟨hMV125, ajV125, axL126, rgz122⟩ := w124
      have axL126 : L = L126 := Eq.symm axL126
      subst axL126
      have hP : va_P D vwCl (mw ad kk ks.1 V125 L) H := hP
      have hD : va_D A (mw ad kk ks.1 V125 L) := hD
      have hMV125 : rgd bM V125 := hMV125
      have ajV125 : agr [(0, 90), (0, 91)] [] V18 V125 := ajV125
      have agV125 : agr [(0, 60), (0, 65), (0, 68), (0, 69), (0, 73), (0, 76), (0, 90), (0, 91), (0, 92), (0, 93), (0, 95), (0, 96), (0, 98)] [59, 61, 62, 63, 64, 66, 67, 74, 75, 77, 78, 79, 80, 94, 97] V V125 := agV18.tr ajV125 (by decide) (by decide)
      have rgz122 : 1 ≤ z122.toInt ∧ z122.toInt ≤ 1 := rgz122
      have pq127 : (V125 0 93).toInt = ((V 0 93)).toInt := congrArg Int32.toInt ((ajV125 0 93 rfl).trans (ajV18 0 93 rfl))
      have pq128 : (V125 0 98).toInt = ((V 0 98)).toInt := congrArg Int32.toInt ((ajV125 0 98 rfl).trans (ajV18 0 98 rfl))
      have pq129 : (V125 0 60).toInt = ((V 0 60)).toInt := congrArg Int32.toInt ((ajV125 0 60 rfl).trans (ajV18 0 60 rfl))
      have pq130 : (V125 0 65).toInt = ((V 0 65)).toInt := congrArg Int32.toInt ((ajV125 0 65 rfl).trans (ajV18 0 65 rfl))
      have pq131 : (V125 0 73).toInt = ((V 0 73)).toInt := congrArg Int32.toInt ((ajV125 0 73 rfl).trans (ajV18 0 73 rfl))
      have pq132 : (V125 0 95).toInt = ((V 0 95)).toInt := congrArg Int32.toInt ((ajV125 0 95 rfl).trans (ajV18 0 95 rfl))
      have pq133 : (V125 0 69).toInt = ((V 0 69)).toInt := congrArg Int32.toInt ((ajV125 0 69 rfl).trans (ajV18 0 69 rfl))
      have pq134 : (V125 0 76).toInt = ((V 0 76)).toInt := congrArg Int32.toInt ((ajV125 0 76 rfl).trans (ajV18 0 76 rfl))
      have rt135 : RT V125 := RT.ag rt hMV (show agr [(0, 90), (0, 91)] [80] V V125 from (agr.tr (agr.tr agr.rf ajV18 (by decide) (by decide)) ajV125 (by decide) (by decide))) ⟨⟨rfl, fun _ => rfl, fun _ => rfl, fun _ => rfl, fun _ => rfl, fun _ => rfl, fun _ => rfl⟩, by decide, by decide, rfl, rfl, fun _ => rfl, fun _ => rfl, fun _ => rfl, fun _ => rfl, fun _ => rfl, fun _ => rfl⟩ (c0k.tr (V := V) (W := V18) (X := V125) (c0k.tr (V := V) (W := V) (X := V18) c0k.rf t17 (show agr [] [] V V from agr.rf) ⟨rfl, fun _ => rfl, fun _ => rfl, fun _ => rfl, fun _ => rfl, fun _ => rfl, fun _ => rfl⟩) (c0k.ag ajV125 rfl) (show agr [] [80] V V18 from (agr.tr agr.rf ajV18 (by decide) (by decide))) ⟨rfl, fun _ => rfl, fun _ => rfl, fun _ => rfl, fun _ => rfl, fun _ => rfl, fun _ => rfl⟩)
      have fm136 : FRM V V125 (-1) := ((FRM.ag (show agr [(0, 90), (0, 91)] [80] V V125 from (agr.tr (agr.tr agr.rf ajV18 (by decide) (by decide)) ajV125 (by decide) (by decide))) ⟨⟨rfl, fun _ => rfl, fun _ => rfl, fun _ => rfl, fun _ => rfl, fun _ => rfl, fun _ => rfl⟩, by decide, by decide, rfl, rfl, fun _ => rfl, fun _ => rfl, fun _ => rfl, fun _ => rfl, fun _ => rfl, fun _ => rfl⟩) : FRM V V125 (-1))
      exact W.iret (v := z122) hx hb hr (fun t ht hW => ⟨⟨z122, (V125, L), rfl, ⟨hMV125, agV125, rfl, (show 0 ≤ z122.toInt ∧ z122.toInt ≤ 2 from by first | omega | ((try (have i_nq := Imp.go nq (by omega))); (try (have i_rt := Imp.go rt (by omega))); (try (have i_rt := Imp.go rt (by omega))); (try (have i_nq := Imp.go nq (by omega))); omega)), (show (V125 0 93).toInt = (V 0 93).toInt from by first | omega | ((try (have i_nq := Imp.go nq (by omega))); (try (have i_rt := Imp.go rt (by omega))); (try (have i_rt := Imp.go rt (by omega))); (try (have i_nq := Imp.go nq (by omega))); omega)), (show (V125 0 98).toInt = (V 0 98).toInt from by first | omega | ((try (have i_nq := Imp.go nq (by omega))); (try (have i_rt := Imp.go rt (by omega))); (try (have i_rt := Imp.go rt (by omega))); (try (have i_nq := Imp.go nq (by omega))); omega)), (show (V 0 60).toInt ≤ (V125 0 60).toInt from by first | omega | ((try (have i_nq := Imp.go nq (by omega))); (try (have i_rt := Imp.go rt (by omega))); (try (have i_rt := Imp.go rt (by omega))); (try (have i_nq := Imp.go nq (by omega))); omega)), (show (V 0 65).toInt ≤ (V125 0 65).toInt from by first | omega | ((try (have i_nq := Imp.go nq (by omega))); (try (have i_rt := Imp.go rt (by omega))); (try (have i_rt := Imp.go rt (by omega))); (try (have i_nq := Imp.go nq (by omega))); omega)), (show (V125 0 65).toInt - (V 0 65).toInt ≤ (V125 0 60).toInt - (V 0 60).toInt from by first | omega | ((try (have i_nq := Imp.go nq (by omega))); (try (have i_rt := Imp.go rt (by omega))); (try (have i_rt := Imp.go rt (by omega))); (try (have i_nq := Imp.go nq (by omega))); omega)), (show (V125 0 73).toInt + (V125 0 95).toInt - (V125 0 65).toInt ≤ (V 0 73).toInt + (V 0 95).toInt - (V 0 65).toInt from by first | omega | ((try (have i_nq := Imp.go nq (by omega))); (try (have i_rt := Imp.go rt (by omega))); (try (have i_rt := Imp.go rt (by omega))); (try (have i_nq := Imp.go nq (by omega))); omega)), (show (V 0 73).toInt ≤ (V125 0 73).toInt from by first | omega | ((try (have i_nq := Imp.go nq (by omega))); (try (have i_rt := Imp.go rt (by omega))); (try (have i_rt := Imp.go rt (by omega))); (try (have i_nq := Imp.go nq (by omega))); omega)), (show (V 0 69).toInt ≤ (V125 0 69).toInt from by first | omega | ((try (have i_nq := Imp.go nq (by omega))); (try (have i_rt := Imp.go rt (by omega))); (try (have i_rt := Imp.go rt (by omega))); (try (have i_nq := Imp.go nq (by omega))); omega)), (show (V125 0 95).toInt = (V 0 95).toInt from by first | omega | ((try (have i_nq := Imp.go nq (by omega))); (try (have i_rt := Imp.go rt (by omega))); (try (have i_rt := Imp.go rt (by omega))); (try (have i_nq := Imp.go nq (by omega))); omega)), (show (V125 0 76).toInt - (V125 0 69).toInt - (V125 0 73).toInt ≤ (V 0 76).toInt - (V 0 69).toInt - (V 0 73).toInt from by first | omega | ((try (have i_nq := Imp.go nq (by omega))); (try (have i_rt := Imp.go rt (by omega))); (try (have i_rt := Imp.go rt (by omega))); (try (have i_nq := Imp.go nq (by omega))); omega)), rt135, fm136⟩, by rw [ht]; exact hP, va_K.moved hW.alike hK, hD⟩, hS.F ht⟩) hS.2.2 dX12_ofLate_75
  · skip
    have f137 : ((V 22 (Int32.toNatClampNeg z23))).toInt = 3 := b_eq rfl (by decide) c24
    refine lv_iconst (v := 1) hx hb dX12_ofLate_34 (by decide) ?_
    refine lv_goto (tgt := 39) hx hb dX12_ofLate_35 (by decide) ?_
    refine lv_istore (lv' := [(9, .int 1), (8, .int (V18 80 0)), (7, .int z13), (0, .ref (ad 0)), (1, .int p0), (2, .int p1), (3, .int p2), (4, .int p3), (5, .int p4), (6, .int p5)]) hx hb dX12_ofLate_39 hl (by decide) rfl (fun ls hl => ?_)
    refine lv_iload hx hb dX12_ofLate_41 (lv_at hl 0 rfl) ?_
    refine lv_if_eq (tgt := 60) hx hb dX12_ofLate_43 (by decide) (fun q => absurd q (by decide)) (fun _ => ?_)
    refine lv_aload_n hx hb dX12_ofLate_46 rfl (lv_at hl 3 rfl) ?_
    refine va_get (D := D) (ci := 12) (v := .ref (ad 66)) (C := RX12) (T := TX12) (N := 100) hx hb hg inX12 hown hK hP 0 rfl rfl 66 (by decide) (hg _ w1776) (fun _ h9 => h9) rfl dX12_ofLate_47 ?_
    refine lv_bipush (v := 8) hx hb dX12_ofLate_50 (by decide) ?_
    refine lv_iload_n hx hb dX12_ofLate_52 rfl (lv_at hl 4 rfl) ?_
    refine lv_imul hx hb dX12_ofLate_53 ?_
    refine lv_topi (fun z138 ez138 => ?_)
    have hz138 : z138.toInt = 8 * p0.toInt := i_mul ez138 (by decide) rfl (by omega)
    refine lv_iload_n hx hb dX12_ofLate_54 rfl (lv_at hl 5 rfl) ?_
    refine lv_iadd hx hb dX12_ofLate_55 ?_
    refine lv_topi (fun z139 ez139 => ?_)
    have hz139 : z139.toInt = z138.toInt + p1.toInt := i_add ez139 rfl rfl (by omega)
    refine va_iald (D := D) (i := z139) hx hb hK hP 50 49 rfl rfl (i_in (a := z139.toInt) rfl (by first | omega | ((try (have i_nq := Imp.go nq (by omega))); (try (have i_rt := Imp.go rt (by omega))); (try (have i_rt := Imp.go rt (by omega))); (try (have i_nq := Imp.go nq (by omega))); omega))) dX12_ofLate_56 ?_
    refine g_top (v := (V 66 (Int32.toNatClampNeg z139))) (ajV18 66 (Int32.toNatClampNeg z139) rfl) ?_
    have r140 : 0 ≤ ((V 66 (Int32.toNatClampNeg z139))).toInt ∧ ((V 66 (Int32.toNatClampNeg z139))).toInt ≤ 24 := hMV 66 (Int32.toNatClampNeg z139)
    refine lv_if_ne (tgt := 178) hx hb dX12_ofLate_57 (by decide) (fun c141 => ?_) (fun c141 => ?_)
    · skip
      have f142 : ((V 66 (Int32.toNatClampNeg z139))).toInt ≠ 0 := b_neq rfl (by decide) c141
      refine lv_aload_n hx hb dX12_ofLate_178 rfl (lv_at hl 3 rfl) ?_
      refine lv_aload_n hx hb dX12_ofLate_179 rfl (lv_at hl 3 rfl) ?_
      refine va_get (D := D) (ci := 12) (v := .ref (ad 67)) (C := RX12) (T := TX12) (N := 100) hx hb hg inX12 hown hK hP 0 rfl rfl 67 (by decide) (hg _ w1777) (fun _ h9 => h9) rfl dX12_ofLate_180 ?_
      refine lv_bipush (v := 24) hx hb dX12_ofLate_183 (by decide) ?_
      refine lv_bipush (v := 8) hx hb dX12_ofLate_185 (by decide) ?_
      refine lv_iload_n hx hb dX12_ofLate_187 rfl (lv_at hl 4 rfl) ?_
      refine lv_imul hx hb dX12_ofLate_188 ?_
      refine lv_topi (fun z143 ez143 => ?_)
      have hz143 : z143.toInt = 8 * p0.toInt := i_mul ez143 (by decide) rfl (by omega)
      refine lv_iload_n hx hb dX12_ofLate_189 rfl (lv_at hl 5 rfl) ?_
      refine lv_iadd hx hb dX12_ofLate_190 ?_
      refine lv_topi (fun z144 ez144 => ?_)
      have hz144 : z144.toInt = z143.toInt + p1.toInt := i_add ez144 rfl rfl (by omega)
      refine lv_imul hx hb dX12_ofLate_191 ?_
      refine lv_topi (fun z145 ez145 => ?_)
      have hz145 : z145.toInt = 24 * z144.toInt := i_mul ez145 (by decide) rfl (by omega)
      refine va_iald (D := D) (i := z145) hx hb hK hP 51 50 rfl rfl (i_in (a := z145.toInt) rfl (by first | omega | ((try (have i_nq := Imp.go nq (by omega))); (try (have i_rt := Imp.go rt (by omega))); (try (have i_rt := Imp.go rt (by omega))); (try (have i_nq := Imp.go nq (by omega))); omega))) dX12_ofLate_192 ?_
      refine g_top (v := (V 67 (Int32.toNatClampNeg z145))) (ajV18 67 (Int32.toNatClampNeg z145) rfl) ?_
      have r146 : 0 ≤ ((V 67 (Int32.toNatClampNeg z145))).toInt ∧ ((V 67 (Int32.toNatClampNeg z145))).toInt ≤ 299 := hMV 67 (Int32.toNatClampNeg z145)
      have rt147 : RT V18 := RT.ag rt hMV (show agr [] [80] V V18 from (agr.tr agr.rf ajV18 (by decide) (by decide))) ⟨⟨rfl, fun _ => rfl, fun _ => rfl, fun _ => rfl, fun _ => rfl, fun _ => rfl, fun _ => rfl⟩, by decide, by decide, rfl, rfl, fun _ => rfl, fun _ => rfl, fun _ => rfl, fun _ => rfl, fun _ => rfl, fun _ => rfl⟩ (c0k.tr (V := V) (W := V) (X := V18) c0k.rf t17 (show agr [] [] V V from agr.rf) ⟨rfl, fun _ => rfl, fun _ => rfl, fun _ => rfl, fun _ => rfl, fun _ => rfl, fun _ => rfl⟩)
      have kq : Int32.toNatClampNeg z139 = 8 * Int32.toNatClampNeg p0 + Int32.toNatClampNeg p1 := by have h9 := i_clamp (x := z139) rfl (by omega); omega
      have kz : Int32.toNatClampNeg z145 = 24 * (8 * Int32.toNatClampNeg p0 + Int32.toNatClampNeg p1) + 0 := by have h9 := i_clamp (x := z145) rfl (by omega); omega
      have pq148 : (V18 66 (Int32.toNatClampNeg z139)).toInt = ((V 66 (Int32.toNatClampNeg z139))).toInt := congrArg Int32.toInt (ajV18 66 (Int32.toNatClampNeg z139) rfl)
      have pq149 : (V18 0 60).toInt = ((V 0 60)).toInt := congrArg Int32.toInt (ajV18 0 60 rfl)
      have pq150 : (V18 67 (Int32.toNatClampNeg z145)).toInt = ((V 67 (Int32.toNatClampNeg z145))).toInt := congrArg Int32.toInt (ajV18 67 (Int32.toNatClampNeg z145) rfl)
      have q66 : (V18 66 (8 * Int32.toNatClampNeg p0 + Int32.toNatClampNeg p1)).toInt = (V18 66 (Int32.toNatClampNeg z139)).toInt := by rw [kq]
      have r66 : 0 ≤ (V18 66 (Int32.toNatClampNeg z139)).toInt := (hMV18 66 _).1
      have jn : (V18 67 (Int32.toNatClampNeg z145)).toInt < (V18 0 60).toInt := by rw [kz]; exact rt147.2.2.2.1 (Int32.toNatClampNeg p0) (Int32.toNatClampNeg p1) 0 (by omega) (by omega) (by omega)
      refine lv_iload hx hb dX12_ofLate_193 (lv_at hl 7 rfl) ?_
      refine lv_iload hx hb dX12_ofLate_195 (lv_at hl 8 rfl) ?_
      refine lv_iload hx hb dX12_ofLate_197 (lv_at hl 9 rfl) ?_
      have pq151 : (V18 0 65).toInt = ((V 0 65)).toInt := congrArg Int32.toInt (ajV18 0 65 rfl)
      have pq152 : (V18 0 95).toInt = ((V 0 95)).toInt := congrArg Int32.toInt (ajV18 0 95 rfl)
      have pq153 : (V18 0 73).toInt = ((V 0 73)).toInt := congrArg Int32.toInt (ajV18 0 73 rfl)
      have pq154 : (V18 0 76).toInt = ((V 0 76)).toInt := congrArg Int32.toInt (ajV18 0 76 rfl)
      have pq155 : (V18 0 69).toInt = ((V 0 69)).toInt := congrArg Int32.toInt (ajV18 0 69 rfl)
      have pq156 : (V18 0 93).toInt = ((V 0 93)).toInt := congrArg Int32.toInt (ajV18 0 93 rfl)
      have pq157 : (V18 0 98).toInt = ((V 0 98)).toInt := congrArg Int32.toInt (ajV18 0 98 rfl)
      have rt158 : RT V18 := RT.ag rt hMV (show agr [] [80] V V18 from (agr.tr agr.rf ajV18 (by decide) (by decide))) ⟨⟨rfl, fun _ => rfl, fun _ => rfl, fun _ => rfl, fun _ => rfl, fun _ => rfl, fun _ => rfl⟩, by decide, by decide, rfl, rfl, fun _ => rfl, fun _ => rfl, fun _ => rfl, fun _ => rfl, fun _ => rfl, fun _ => rfl⟩ (c0k.tr (V := V) (W := V) (X := V18) c0k.rf t17 (show agr [] [] V V from agr.rf) ⟨rfl, fun _ => rfl, fun _ => rfl, fun _ => rfl, fun _ => rfl, fun _ => rfl, fun _ => rfl⟩)
      refine gA_int (gA_runV (As := [.int (V 67 (Int32.toNatClampNeg z145)), .int p3, .int p4, .int p5]) (rest := []) (ci := 12) (q0 := 0) hx hb hml hown hg hP hD hK hS hA hnw hgk (hk_s_calls H.size ad kk V18 L (V 67 (Int32.toNatClampNeg z145)) p3 p4 p5 hMV18 (by first | omega | ((try (have i_nq := Imp.go nq (by omega))); (try (have i_rt := Imp.go rt (by omega))); (try (have i_rt := Imp.go rt (by omega))); (try (have i_nq := Imp.go nq (by omega))); omega)) (by first | omega | ((try (have i_nq := Imp.go nq (by omega))); (try (have i_rt := Imp.go rt (by omega))); (try (have i_rt := Imp.go rt (by omega))); (try (have i_nq := Imp.go nq (by omega))); omega)) (by first | omega | ((try (have i_nq := Imp.go nq (by omega))); (try (have i_rt := Imp.go rt (by omega))); (try (have i_rt := Imp.go rt (by omega))); (try (have i_nq := Imp.go nq (by omega))); omega)) rt158 (show (V18 0 65).toInt ≤ (V18 0 60).toInt from by first | omega | ((try (have i_nq := Imp.go nq (by omega))); (try (have i_rt := Imp.go rt (by omega))); (try (have i_rt := Imp.go rt (by omega))); (try (have i_nq := Imp.go nq (by omega))); omega)) (show (V18 0 95).toInt ≤ (V18 0 65).toInt from by first | omega | ((try (have i_nq := Imp.go nq (by omega))); (try (have i_rt := Imp.go rt (by omega))); (try (have i_rt := Imp.go rt (by omega))); (try (have i_nq := Imp.go nq (by omega))); omega)) (show (V18 0 73).toInt + (V18 0 95).toInt - (V18 0 65).toInt ≤ 999000 from by first | omega | ((try (have i_nq := Imp.go nq (by omega))); (try (have i_rt := Imp.go rt (by omega))); (try (have i_rt := Imp.go rt (by omega))); (try (have i_nq := Imp.go nq (by omega))); omega)) (show (V18 0 76).toInt - (V18 0 69).toInt - (V18 0 73).toInt ≤ 1000000000 from by first | omega | ((try (have i_nq := Imp.go nq (by omega))); (try (have i_rt := Imp.go rt (by omega))); (try (have i_rt := Imp.go rt (by omega))); (try (have i_nq := Imp.go nq (by omega))); omega)) (show 300 - (V18 0 60).toInt ≤ ((d1 : Nat) : Int) from by first | omega | ((try (have i_nq := Imp.go nq (by omega))); (try (have i_rt := Imp.go rt (by omega))); (try (have i_rt := Imp.go rt (by omega))); (try (have i_nq := Imp.go nq (by omega))); omega)) (show 10 - (V18 0 93).toInt ≤ ((d2 : Nat) : Int) from by first | omega | ((try (have i_nq := Imp.go nq (by omega))); (try (have i_rt := Imp.go rt (by omega))); (try (have i_rt := Imp.go rt (by omega))); (try (have i_nq := Imp.go nq (by omega))); omega)) (show ((V 67 (Int32.toNatClampNeg z145))).toInt < (V18 0 60).toInt from by first | omega | ((try (have i_nq := Imp.go nq (by omega))); (try (have i_rt := Imp.go rt (by omega))); (try (have i_rt := Imp.go rt (by omega))); (try (have i_nq := Imp.go nq (by omega))); omega)) (show (V18 0 98).toInt + 400 * ((d2 : Nat) : Int) ≤ 19000 from by first | omega | ((try (have i_nq := Imp.go nq (by omega))); (try (have i_rt := Imp.go rt (by omega))); (try (have i_rt := Imp.go rt (by omega))); (try (have i_nq := Imp.go nq (by omega))); omega))) w2320 w2322 w148 w172 w2323 rfl rfl hdV_yX12_calls ⟨(by show (4 * (d1) + 40 * (d2) + 8) + 1 ≤ (4 * d1 + 40 * d2 + 9); omega), (by show 8 + (6 + 11) + (100 * (d1) + 1000 * (d2) + 320) ≤ (100 * d1 + 1000 * d2 + 350); omega)⟩ rfl hl.1 rfl (Nat.le_of_ble_eq_true rfl) dX12_ofLate_199 ⟨Nat.le_of_ble_eq_true rfl, Nat.le_of_ble_eq_true rfl⟩) hP hD hK hS hA (fun z159 u160 H locs w161 hP hD hK hS => ?_)
      obtain ⟨V174, L175⟩ := u160
      obtain ⟨hMV174, ajV174, axL175, rgz159, t162, t163, t164, t165, t166, t167, t168, t169, t170, t171, t172, t173⟩ := w161
      have axL175 : L = L175 := Eq.symm axL175
      subst axL175
      have hP : va_P D vwCl (mw ad kk ks.1 V174 L) H := hP
      have hD : va_D A (mw ad kk ks.1 V174 L) := hD
      have hMV174 : rgd bM V174 := hMV174
      have ajV174 : agr [(0, 60), (0, 65), (0, 68), (0, 69), (0, 73), (0, 76), (0, 90), (0, 91), (0, 92), (0, 93), (0, 95), (0, 96), (0, 98)] [59, 61, 62, 63, 64, 66, 67, 74, 75, 77, 78, 79, 80, 94, 97] V18 V174 := ajV174
      have agV174 : agr [(0, 60), (0, 65), (0, 68), (0, 69), (0, 73), (0, 76), (0, 90), (0, 91), (0, 92), (0, 93), (0, 95), (0, 96), (0, 98)] [59, 61, 62, 63, 64, 66, 67, 74, 75, 77, 78, 79, 80, 94, 97] V V174 := agV18.tr ajV174 (by decide) (by decide)
      have rgz159 : 0 ≤ z159.toInt ∧ z159.toInt ≤ 2 := rgz159
      have t162 : (V174 0 93).toInt = (V18 0 93).toInt := t162
      have t163 : (V174 0 98).toInt = (V18 0 98).toInt := t163
      have t164 : (V18 0 60).toInt ≤ (V174 0 60).toInt := t164
      have t165 : (V18 0 65).toInt ≤ (V174 0 65).toInt := t165
      have t166 : (V174 0 65).toInt - (V18 0 65).toInt ≤ (V174 0 60).toInt - (V18 0 60).toInt := t166
      have t167 : (V174 0 73).toInt + (V174 0 95).toInt - (V174 0 65).toInt ≤ (V18 0 73).toInt + (V18 0 95).toInt - (V18 0 65).toInt := t167
      have t168 : (V18 0 73).toInt ≤ (V174 0 73).toInt := t168
      have t169 : (V18 0 69).toInt ≤ (V174 0 69).toInt := t169
      have t170 : (V174 0 95).toInt = (V18 0 95).toInt := t170
      have t171 : (V174 0 76).toInt - (V174 0 69).toInt - (V174 0 73).toInt ≤ (V18 0 76).toInt - (V18 0 69).toInt - (V18 0 73).toInt := t171
      have t172 : RT V174 := t172
      have t173 : FRM V18 V174 (-1) := t173
      have r176 : 0 ≤ ((V174 0 93)).toInt ∧ ((V174 0 93)).toInt ≤ 10 := hMV174 0 93
      have r177 : 0 ≤ ((V174 0 98)).toInt ∧ ((V174 0 98)).toInt ≤ 20000 := hMV174 0 98
      have r178 : 0 ≤ ((V174 0 60)).toInt ∧ ((V174 0 60)).toInt ≤ 300 := hMV174 0 60
      have r179 : 0 ≤ ((V174 0 65)).toInt ∧ ((V174 0 65)).toInt ≤ 1000000 := hMV174 0 65
      have r180 : 0 ≤ ((V174 0 73)).toInt ∧ ((V174 0 73)).toInt ≤ 1000000 := hMV174 0 73
      have r181 : 0 ≤ ((V174 0 95)).toInt ∧ ((V174 0 95)).toInt ≤ 300 := hMV174 0 95
      have r182 : 0 ≤ ((V174 0 69)).toInt ∧ ((V174 0 69)).toInt ≤ 3000 := hMV174 0 69
      have r183 : 0 ≤ ((V174 0 76)).toInt ∧ ((V174 0 76)).toInt ≤ 2000000000 := hMV174 0 76
      have fm184 : FRM V V18 (-1) := ((FRM.ag (show agr [] [80] V V18 from (agr.tr agr.rf ajV18 (by decide) (by decide))) ⟨⟨rfl, fun _ => rfl, fun _ => rfl, fun _ => rfl, fun _ => rfl, fun _ => rfl, fun _ => rfl⟩, by decide, by decide, rfl, rfl, fun _ => rfl, fun _ => rfl, fun _ => rfl, fun _ => rfl, fun _ => rfl, fun _ => rfl⟩) : FRM V V18 (-1))
      have fm185 : FRM V V174 (-1) := (FRM.tr fm184 t173 agV18 ⟨rfl, fun _ => rfl, fun _ => rfl, fun _ => rfl, fun _ => rfl, fun _ => rfl, fun _ => rfl⟩ (by omega))
      exact W.iret (v := z159) hx hb hr (fun t ht hW => ⟨⟨z159, (V174, L), rfl, ⟨hMV174, agV174, rfl, (show 0 ≤ z159.toInt ∧ z159.toInt ≤ 2 from by first | omega | ((try (have i_nq := Imp.go nq (by omega))); (try (have i_rt := Imp.go rt (by omega))); (try (have i_rt := Imp.go rt (by omega))); (try (have i_nq := Imp.go nq (by omega))); omega)), (show (V174 0 93).toInt = (V 0 93).toInt from by first | omega | ((try (have i_nq := Imp.go nq (by omega))); (try (have i_rt := Imp.go rt (by omega))); (try (have i_rt := Imp.go rt (by omega))); (try (have i_nq := Imp.go nq (by omega))); omega)), (show (V174 0 98).toInt = (V 0 98).toInt from by first | omega | ((try (have i_nq := Imp.go nq (by omega))); (try (have i_rt := Imp.go rt (by omega))); (try (have i_rt := Imp.go rt (by omega))); (try (have i_nq := Imp.go nq (by omega))); omega)), (show (V 0 60).toInt ≤ (V174 0 60).toInt from by first | omega | ((try (have i_nq := Imp.go nq (by omega))); (try (have i_rt := Imp.go rt (by omega))); (try (have i_rt := Imp.go rt (by omega))); (try (have i_nq := Imp.go nq (by omega))); omega)), (show (V 0 65).toInt ≤ (V174 0 65).toInt from by first | omega | ((try (have i_nq := Imp.go nq (by omega))); (try (have i_rt := Imp.go rt (by omega))); (try (have i_rt := Imp.go rt (by omega))); (try (have i_nq := Imp.go nq (by omega))); omega)), (show (V174 0 65).toInt - (V 0 65).toInt ≤ (V174 0 60).toInt - (V 0 60).toInt from by first | omega | ((try (have i_nq := Imp.go nq (by omega))); (try (have i_rt := Imp.go rt (by omega))); (try (have i_rt := Imp.go rt (by omega))); (try (have i_nq := Imp.go nq (by omega))); omega)), (show (V174 0 73).toInt + (V174 0 95).toInt - (V174 0 65).toInt ≤ (V 0 73).toInt + (V 0 95).toInt - (V 0 65).toInt from by first | omega | ((try (have i_nq := Imp.go nq (by omega))); (try (have i_rt := Imp.go rt (by omega))); (try (have i_rt := Imp.go rt (by omega))); (try (have i_nq := Imp.go nq (by omega))); omega)), (show (V 0 73).toInt ≤ (V174 0 73).toInt from by first | omega | ((try (have i_nq := Imp.go nq (by omega))); (try (have i_rt := Imp.go rt (by omega))); (try (have i_rt := Imp.go rt (by omega))); (try (have i_nq := Imp.go nq (by omega))); omega)), (show (V 0 69).toInt ≤ (V174 0 69).toInt from by first | omega | ((try (have i_nq := Imp.go nq (by omega))); (try (have i_rt := Imp.go rt (by omega))); (try (have i_rt := Imp.go rt (by omega))); (try (have i_nq := Imp.go nq (by omega))); omega)), (show (V174 0 95).toInt = (V 0 95).toInt from by first | omega | ((try (have i_nq := Imp.go nq (by omega))); (try (have i_rt := Imp.go rt (by omega))); (try (have i_rt := Imp.go rt (by omega))); (try (have i_nq := Imp.go nq (by omega))); omega)), (show (V174 0 76).toInt - (V174 0 69).toInt - (V174 0 73).toInt ≤ (V 0 76).toInt - (V 0 69).toInt - (V 0 73).toInt from by first | omega | ((try (have i_nq := Imp.go nq (by omega))); (try (have i_rt := Imp.go rt (by omega))); (try (have i_rt := Imp.go rt (by omega))); (try (have i_nq := Imp.go nq (by omega))); omega)), t172, fm185⟩, by rw [ht]; exact hP, va_K.moved hW.alike hK, hD⟩, hS.F ht⟩) hS.2.2 dX12_ofLate_202
    · skip
      have f186 : ((V 66 (Int32.toNatClampNeg z139))).toInt = 0 := b_eq rfl (by decide) c141
      refine lv_aload_n hx hb dX12_ofLate_60 rfl (lv_at hl 3 rfl) ?_
      refine va_get (D := D) (ci := 12) (v := .int (V18 0 93)) (C := RX12) (T := TX12) (N := 100) hx hb hg inX12 hown hK hP 0 rfl rfl 93 (by decide) (hg _ w1803) (fun _ h9 => h9) rfl dX12_ofLate_61 ?_
      refine g_top (v := (V 0 93)) (ajV18 0 93 rfl) ?_
      refine lv_bipush (v := 10) hx hb dX12_ofLate_64 (by decide) ?_
      refine lv_icmp_ne (tgt := 76) hx hb dX12_ofLate_66 (by decide) (fun c187 => ?_) (fun c187 => ?_)
      · skip
        have f188 : ((V 0 93)).toInt ≠ 10 := b_neq rfl (by decide) c187
        refine lv_aload_n hx hb dX12_ofLate_76 rfl (lv_at hl 3 rfl) ?_
        refine lv_dup hx hb dX12_ofLate_77 rfl ?_
        refine va_get (D := D) (ci := 12) (v := .int (V18 0 93)) (C := RX12) (T := TX12) (N := 100) hx hb hg inX12 hown hK hP 0 rfl rfl 93 (by decide) (hg _ w1803) (fun _ h9 => h9) rfl dX12_ofLate_78 ?_
        refine g_top (v := (V 0 93)) (ajV18 0 93 rfl) ?_
        refine lv_iconst (v := 1) hx hb dX12_ofLate_81 (by decide) ?_
        refine lv_iadd hx hb dX12_ofLate_82 ?_
        refine lv_topi (fun z189 ez189 => ?_)
        have hz189 : z189.toInt = ((V 0 93)).toInt + 1 := i_add ez189 rfl (by decide) (by omega)
        refine va_put (D := D) (ci := 12) (v := .int z189) (ty := tyX12 93) (C := RX12) (T := TX12) (N := 100) hx hb hg inX12 tyX12 tyX12_ok nmX12 hown hK hP hD hS 0 rfl rfl 93 (by decide) (hg _ w1803) (fun _ h9 => h9) rfl (tyX12_ok 93 (by decide)) rfl rfl (Nat.le_of_ble_eq_true rfl) dX12_ofLate_83 (fun H locs hP hD hS => ?_)
        obtain ⟨V190, hV190⟩ : ∃ z, z = up2 V18 0 93 z189 := ⟨_, rfl⟩
        have hP : va_P D vwCl (mw ad kk ks.1 V190 L) H := by rw [hV190]; exact hP
        have hD : va_D A (mw ad kk ks.1 V190 L) := by rw [hV190]; exact hD
        have hMV190 : rgd bM V190 := hMV18.put hV190 (show 0 ≤ z189.toInt ∧ z189.toInt ≤ 10 from by first | omega | ((try (have i_nq := Imp.go nq (by omega))); (try (have i_rt := Imp.go rt (by omega))); (try (have i_rt := Imp.go rt (by omega))); (try (have i_nq := Imp.go nq (by omega))); omega))
        have agV190 : agr [(0, 60), (0, 65), (0, 68), (0, 69), (0, 73), (0, 76), (0, 90), (0, 91), (0, 92), (0, 93), (0, 95), (0, 96), (0, 98)] [59, 61, 62, 63, 64, 66, 67, 74, 75, 77, 78, 79, 80, 94, 97] V V190 := agV18.up hV190 rfl
        obtain ⟨d9, hd9⟩ : ∃ d9, d2 = d9 + 1 := ⟨d2 - 1, by omega⟩
        refine lv_aload_n hx hb dX12_ofLate_86 rfl (lv_at hl 3 rfl) ?_
        refine lv_iload hx hb dX12_ofLate_87 (lv_at hl 1 rfl) ?_
        refine lv_iload hx hb dX12_ofLate_89 (lv_at hl 8 rfl) ?_
        have pq191 : (V190 0 65).toInt = ((V 0 65)).toInt := congrArg Int32.toInt ((up2_k hV190 (by decide)).trans (ajV18 0 65 rfl))
        have pq192 : (V190 0 60).toInt = ((V 0 60)).toInt := congrArg Int32.toInt ((up2_k hV190 (by decide)).trans (ajV18 0 60 rfl))
        have pq193 : (V190 0 95).toInt = ((V 0 95)).toInt := congrArg Int32.toInt ((up2_k hV190 (by decide)).trans (ajV18 0 95 rfl))
        have pq194 : (V190 0 73).toInt = ((V 0 73)).toInt := congrArg Int32.toInt ((up2_k hV190 (by decide)).trans (ajV18 0 73 rfl))
        have pq195 : (V190 0 76).toInt = ((V 0 76)).toInt := congrArg Int32.toInt ((up2_k hV190 (by decide)).trans (ajV18 0 76 rfl))
        have pq196 : (V190 0 69).toInt = ((V 0 69)).toInt := congrArg Int32.toInt ((up2_k hV190 (by decide)).trans (ajV18 0 69 rfl))
        have pq197 : (V190 0 93).toInt = z189.toInt := congrArg Int32.toInt (up2_s hV190)
        have pq198 : (V190 0 98).toInt = ((V 0 98)).toInt := congrArg Int32.toInt ((up2_k hV190 (by decide)).trans (ajV18 0 98 rfl))
        have rt199 : RT V190 := RT.ag rt hMV (show agr [(0, 93)] [80] V V190 from (agr.up (agr.tr agr.rf ajV18 (by decide) (by decide)) hV190 rfl)) ⟨⟨rfl, fun _ => rfl, fun _ => rfl, fun _ => rfl, fun _ => rfl, fun _ => rfl, fun _ => rfl⟩, by decide, by decide, rfl, rfl, fun _ => rfl, fun _ => rfl, fun _ => rfl, fun _ => rfl, fun _ => rfl, fun _ => rfl⟩ (c0k.tr (V := V) (W := V18) (X := V190) (c0k.tr (V := V) (W := V) (X := V18) c0k.rf t17 (show agr [] [] V V from agr.rf) ⟨rfl, fun _ => rfl, fun _ => rfl, fun _ => rfl, fun _ => rfl, fun _ => rfl, fun _ => rfl⟩) (Or.inl (up2_o hV190 (by decide))) (show agr [] [80] V V18 from (agr.tr agr.rf ajV18 (by decide) (by decide))) ⟨rfl, fun _ => rfl, fun _ => rfl, fun _ => rfl, fun _ => rfl, fun _ => rfl, fun _ => rfl⟩)
        refine gA_int (gA_runV (As := [.int (V18 80 0), .int p4]) (rest := []) (ci := 12) (q0 := 0) hx hb hml hown hg hP hD hK hS hA hnw hgk ((hk_s_getsWhole d9 hd9) H.size ad kk V190 L (V18 80 0) p4 hMV190 (by first | omega | ((try (have i_nq := Imp.go nq (by omega))); (try (have i_rt := Imp.go rt (by omega))); (try (have i_rt := Imp.go rt (by omega))); (try (have i_nq := Imp.go nq (by omega))); omega)) (by first | omega | ((try (have i_nq := Imp.go nq (by omega))); (try (have i_rt := Imp.go rt (by omega))); (try (have i_rt := Imp.go rt (by omega))); (try (have i_nq := Imp.go nq (by omega))); omega)) rt199 (show (V190 0 65).toInt ≤ (V190 0 60).toInt from by first | omega | ((try (have i_nq := Imp.go nq (by omega))); (try (have i_rt := Imp.go rt (by omega))); (try (have i_rt := Imp.go rt (by omega))); (try (have i_nq := Imp.go nq (by omega))); omega)) (show (V190 0 95).toInt ≤ (V190 0 65).toInt from by first | omega | ((try (have i_nq := Imp.go nq (by omega))); (try (have i_rt := Imp.go rt (by omega))); (try (have i_rt := Imp.go rt (by omega))); (try (have i_nq := Imp.go nq (by omega))); omega)) (show (V190 0 73).toInt + (V190 0 95).toInt - (V190 0 65).toInt ≤ 999000 from by first | omega | ((try (have i_nq := Imp.go nq (by omega))); (try (have i_rt := Imp.go rt (by omega))); (try (have i_rt := Imp.go rt (by omega))); (try (have i_nq := Imp.go nq (by omega))); omega)) (show (V190 0 76).toInt - (V190 0 69).toInt - (V190 0 73).toInt ≤ 1000000000 from by first | omega | ((try (have i_nq := Imp.go nq (by omega))); (try (have i_rt := Imp.go rt (by omega))); (try (have i_rt := Imp.go rt (by omega))); (try (have i_nq := Imp.go nq (by omega))); omega)) (show 300 - (V190 0 60).toInt ≤ ((d1 : Nat) : Int) from by first | omega | ((try (have i_nq := Imp.go nq (by omega))); (try (have i_rt := Imp.go rt (by omega))); (try (have i_rt := Imp.go rt (by omega))); (try (have i_nq := Imp.go nq (by omega))); omega)) (show 10 - (V190 0 93).toInt ≤ ((d9 : Nat) : Int) from by first | omega | ((try (have i_nq := Imp.go nq (by omega))); (try (have i_rt := Imp.go rt (by omega))); (try (have i_rt := Imp.go rt (by omega))); (try (have i_nq := Imp.go nq (by omega))); omega)) (show (V190 0 98).toInt + 400 * ((d9 : Nat) : Int) + 30 ≤ 19000 from by first | omega | ((try (have i_nq := Imp.go nq (by omega))); (try (have i_rt := Imp.go rt (by omega))); (try (have i_rt := Imp.go rt (by omega))); (try (have i_nq := Imp.go nq (by omega))); omega)) (th.ag tq (show agr [(0, 93)] [] V18 V190 from (agr.up agr.rf hV190 rfl)) ⟨rfl, fun _ => rfl, fun _ => rfl, fun _ => rfl, fun _ => rfl, fun _ => rfl, fun _ => rfl⟩)) w2239 w2241 w128 w172 w2242 rfl rfl hdV_yX12_getsWhole ⟨(by show (4 * (d1) + 40 * (d9) + 16) + 1 ≤ (4 * d1 + 40 * d2 + 9); omega), (by show 8 + (8 + 11) + (100 * (d1) + 1000 * (d9) + 620) ≤ (100 * d1 + 1000 * d2 + 350); omega)⟩ rfl hl.1 rfl (Nat.le_of_ble_eq_true rfl) dX12_ofLate_91 ⟨Nat.le_of_ble_eq_true rfl, Nat.le_of_ble_eq_true rfl⟩) hP hD hK hS hA (fun z200 u201 H locs w202 hP hD hK hS => ?_)
        obtain ⟨V216, L217⟩ := u201
        obtain ⟨hMV216, ajV216, axL217, rgz200, t203, t204, t205, t206, t207, t208, t209, t210, t211, t212, t213, t214, t215⟩ := w202
        have axL217 : L = L217 := Eq.symm axL217
        subst axL217
        have hP : va_P D vwCl (mw ad kk ks.1 V216 L) H := hP
        have hD : va_D A (mw ad kk ks.1 V216 L) := hD
        have hMV216 : rgd bM V216 := hMV216
        have ajV216 : agr [(0, 60), (0, 65), (0, 68), (0, 69), (0, 73), (0, 76), (0, 90), (0, 91), (0, 92), (0, 93), (0, 95), (0, 96), (0, 98)] [59, 61, 62, 63, 64, 66, 67, 74, 75, 77, 78, 79, 80, 94, 97] V190 V216 := ajV216
        have agV216 : agr [(0, 60), (0, 65), (0, 68), (0, 69), (0, 73), (0, 76), (0, 90), (0, 91), (0, 92), (0, 93), (0, 95), (0, 96), (0, 98)] [59, 61, 62, 63, 64, 66, 67, 74, 75, 77, 78, 79, 80, 94, 97] V V216 := agV190.tr ajV216 (by decide) (by decide)
        have rgz200 : 0 ≤ z200.toInt ∧ z200.toInt ≤ 2 := rgz200
        have t203 : (V216 0 93).toInt = (V190 0 93).toInt := t203
        have t204 : (V216 0 98).toInt = (V190 0 98).toInt := t204
        have t205 : (V190 0 60).toInt ≤ (V216 0 60).toInt := t205
        have t206 : (V190 0 65).toInt ≤ (V216 0 65).toInt := t206
        have t207 : (V216 0 65).toInt - (V190 0 65).toInt ≤ (V216 0 60).toInt - (V190 0 60).toInt := t207
        have t208 : (V216 0 73).toInt + (V216 0 95).toInt - (V216 0 65).toInt ≤ (V190 0 73).toInt + (V190 0 95).toInt - (V190 0 65).toInt := t208
        have t209 : (V190 0 73).toInt ≤ (V216 0 73).toInt := t209
        have t210 : (V190 0 69).toInt ≤ (V216 0 69).toInt := t210
        have t211 : (V216 0 95).toInt = (V190 0 95).toInt := t211
        have t212 : (V216 0 76).toInt - (V216 0 69).toInt - (V216 0 73).toInt ≤ (V190 0 76).toInt - (V190 0 69).toInt - (V190 0 73).toInt := t212
        have t213 : Imp (z200.toInt = 0) (0 ≤ (V216 0 92).toInt ∧ (V216 0 92).toInt < (V216 0 60).toInt) := t213
        have t214 : RT V216 := t214
        have t215 : FRM V190 V216 (-1) := t215
        have r218 : 0 ≤ ((V216 0 93)).toInt ∧ ((V216 0 93)).toInt ≤ 10 := hMV216 0 93
        have r219 : 0 ≤ ((V216 0 98)).toInt ∧ ((V216 0 98)).toInt ≤ 20000 := hMV216 0 98
        have r220 : 0 ≤ ((V216 0 60)).toInt ∧ ((V216 0 60)).toInt ≤ 300 := hMV216 0 60
        have r221 : 0 ≤ ((V216 0 65)).toInt ∧ ((V216 0 65)).toInt ≤ 1000000 := hMV216 0 65
        have r222 : 0 ≤ ((V216 0 73)).toInt ∧ ((V216 0 73)).toInt ≤ 1000000 := hMV216 0 73
        have r223 : 0 ≤ ((V216 0 95)).toInt ∧ ((V216 0 95)).toInt ≤ 300 := hMV216 0 95
        have r224 : 0 ≤ ((V216 0 69)).toInt ∧ ((V216 0 69)).toInt ≤ 3000 := hMV216 0 69
        have r225 : 0 ≤ ((V216 0 76)).toInt ∧ ((V216 0 76)).toInt ≤ 2000000000 := hMV216 0 76
        refine lv_istore (lv' := [(10, .int z200), (9, .int 1), (8, .int (V18 80 0)), (7, .int z13), (0, .ref (ad 0)), (1, .int p0), (2, .int p1), (3, .int p2), (4, .int p3), (5, .int p4), (6, .int p5)]) hx hb dX12_ofLate_94 hl (by decide) rfl (fun ls hl => ?_)
        refine lv_aload_n hx hb dX12_ofLate_96 rfl (lv_at hl 4 rfl) ?_
        refine lv_dup hx hb dX12_ofLate_97 rfl ?_
        refine va_get (D := D) (ci := 12) (v := .int (V216 0 93)) (C := RX12) (T := TX12) (N := 100) hx hb hg inX12 hown hK hP 0 rfl rfl 93 (by decide) (hg _ w1803) (fun _ h9 => h9) rfl dX12_ofLate_98 ?_
        refine lv_iconst (v := 1) hx hb dX12_ofLate_101 (by decide) ?_
        refine lv_isub hx hb dX12_ofLate_102 ?_
        refine lv_topi (fun z226 ez226 => ?_)
        have hz226 : z226.toInt = ((V216 0 93)).toInt - 1 := i_sub ez226 rfl (by decide) (by omega)
        refine va_put (D := D) (ci := 12) (v := .int z226) (ty := tyX12 93) (C := RX12) (T := TX12) (N := 100) hx hb hg inX12 tyX12 tyX12_ok nmX12 hown hK hP hD hS 0 rfl rfl 93 (by decide) (hg _ w1803) (fun _ h9 => h9) rfl (tyX12_ok 93 (by decide)) rfl rfl (Nat.le_of_ble_eq_true rfl) dX12_ofLate_103 (fun H locs hP hD hS => ?_)
        obtain ⟨V227, hV227⟩ : ∃ z, z = up2 V216 0 93 z226 := ⟨_, rfl⟩
        have hP : va_P D vwCl (mw ad kk ks.1 V227 L) H := by rw [hV227]; exact hP
        have hD : va_D A (mw ad kk ks.1 V227 L) := by rw [hV227]; exact hD
        have hMV227 : rgd bM V227 := hMV216.put hV227 (show 0 ≤ z226.toInt ∧ z226.toInt ≤ 10 from by first | omega | ((try (have i_t213 := Imp.go t213 (by omega))); (try (have i_nq := Imp.go nq (by omega))); (try (have i_rt := Imp.go rt (by omega))); (try (have i_rt := Imp.go rt (by omega))); (try (have i_nq := Imp.go nq (by omega))); (try (have i_t213 := Imp.go t213 (by omega))); omega))
        have agV227 : agr [(0, 60), (0, 65), (0, 68), (0, 69), (0, 73), (0, 76), (0, 90), (0, 91), (0, 92), (0, 93), (0, 95), (0, 96), (0, 98)] [59, 61, 62, 63, 64, 66, 67, 74, 75, 77, 78, 79, 80, 94, 97] V V227 := agV216.up hV227 rfl
        refine lv_iload hx hb dX12_ofLate_106 (lv_at hl 0 rfl) ?_
        refine lv_if_le (tgt := 114) hx hb dX12_ofLate_108 (by decide) (fun c228 => ?_) (fun c228 => ?_)
        · skip
          have f229 : z200.toInt ≤ 0 := b_le rfl (by decide) c228
          refine lv_iload hx hb dX12_ofLate_114 (lv_at hl 1 rfl) ?_
          refine lv_if_eq (tgt := 163) hx hb dX12_ofLate_116 (by decide) (fun q => absurd q (by decide)) (fun _ => ?_)
          refine lv_aload_n hx hb dX12_ofLate_119 rfl (lv_at hl 4 rfl) ?_
          refine va_get (D := D) (ci := 12) (v := .ref (ad 66)) (C := RX12) (T := TX12) (N := 100) hx hb hg inX12 hown hK hP 0 rfl rfl 66 (by decide) (hg _ w1776) (fun _ h9 => h9) rfl dX12_ofLate_120 ?_
          refine lv_bipush (v := 8) hx hb dX12_ofLate_123 (by decide) ?_
          refine lv_iload_n hx hb dX12_ofLate_125 rfl (lv_at hl 5 rfl) ?_
          refine lv_imul hx hb dX12_ofLate_126 ?_
          refine lv_topi (fun z230 ez230 => ?_)
          have hz230 : z230.toInt = 8 * p0.toInt := i_mul ez230 (by decide) rfl (by omega)
          refine lv_iload_n hx hb dX12_ofLate_127 rfl (lv_at hl 6 rfl) ?_
          refine lv_iadd hx hb dX12_ofLate_128 ?_
          refine lv_topi (fun z231 ez231 => ?_)
          have hz231 : z231.toInt = z230.toInt + p1.toInt := i_add ez231 rfl rfl (by omega)
          refine va_iald (D := D) (i := z231) hx hb hK hP 50 49 rfl rfl (i_in (a := z231.toInt) rfl (by first | omega | ((try (have i_t213 := Imp.go t213 (by omega))); (try (have i_nq := Imp.go nq (by omega))); (try (have i_rt := Imp.go rt (by omega))); (try (have i_rt := Imp.go rt (by omega))); (try (have i_nq := Imp.go nq (by omega))); (try (have i_t213 := Imp.go t213 (by omega))); omega))) dX12_ofLate_129 ?_
          refine g_top (v := (V216 66 (Int32.toNatClampNeg z231))) (up2_o hV227 (by decide)) ?_
          have r232 : 0 ≤ ((V216 66 (Int32.toNatClampNeg z231))).toInt ∧ ((V216 66 (Int32.toNatClampNeg z231))).toInt ≤ 24 := hMV216 66 (Int32.toNatClampNeg z231)
          refine lv_if_ne (tgt := 163) hx hb dX12_ofLate_130 (by decide) (fun c233 => ?_) (fun c233 => ?_)
          · skip
            have f234 : ((V216 66 (Int32.toNatClampNeg z231))).toInt ≠ 0 := b_neq rfl (by decide) c233
            refine lv_aload_n hx hb dX12_ofLate_163 rfl (lv_at hl 4 rfl) ?_
            refine lv_aload_n hx hb dX12_ofLate_164 rfl (lv_at hl 4 rfl) ?_
            refine va_get (D := D) (ci := 12) (v := .int (V227 0 92)) (C := RX12) (T := TX12) (N := 100) hx hb hg inX12 hown hK hP 0 rfl rfl 92 (by decide) (hg _ w1802) (fun _ h9 => h9) rfl dX12_ofLate_165 ?_
            refine g_top (v := (V216 0 92)) (up2_k hV227 (by decide)) ?_
            refine lv_iload hx hb dX12_ofLate_168 (lv_at hl 8 rfl) ?_
            refine lv_iload hx hb dX12_ofLate_170 (lv_at hl 9 rfl) ?_
            refine lv_iload hx hb dX12_ofLate_172 (lv_at hl 10 rfl) ?_
            have pq235 : (V227 0 65).toInt = ((V216 0 65)).toInt := congrArg Int32.toInt (up2_k hV227 (by decide))
            have pq236 : (V227 0 60).toInt = ((V216 0 60)).toInt := congrArg Int32.toInt (up2_k hV227 (by decide))
            have pq237 : (V227 0 95).toInt = ((V216 0 95)).toInt := congrArg Int32.toInt (up2_k hV227 (by decide))
            have pq238 : (V227 0 73).toInt = ((V216 0 73)).toInt := congrArg Int32.toInt (up2_k hV227 (by decide))
            have pq239 : (V227 0 76).toInt = ((V216 0 76)).toInt := congrArg Int32.toInt (up2_k hV227 (by decide))
            have pq240 : (V227 0 69).toInt = ((V216 0 69)).toInt := congrArg Int32.toInt (up2_k hV227 (by decide))
            have pq241 : (V227 0 93).toInt = z226.toInt := congrArg Int32.toInt (up2_s hV227)
            have pq242 : (V227 0 98).toInt = ((V216 0 98)).toInt := congrArg Int32.toInt (up2_k hV227 (by decide))
            have rt243 : RT V227 := RT.ag t214 hMV216 (show agr [(0, 93)] [] V216 V227 from (agr.up agr.rf hV227 rfl)) ⟨⟨rfl, fun _ => rfl, fun _ => rfl, fun _ => rfl, fun _ => rfl, fun _ => rfl, fun _ => rfl⟩, by decide, by decide, rfl, rfl, fun _ => rfl, fun _ => rfl, fun _ => rfl, fun _ => rfl, fun _ => rfl, fun _ => rfl⟩ (c0k.ag (show agr [(0, 93)] [] V216 V227 from (agr.up agr.rf hV227 rfl)) rfl)
            refine gA_int (gA_runV (As := [.int (V216 0 92), .int p3, .int p4, .int p5]) (rest := []) (ci := 12) (q0 := 0) hx hb hml hown hg hP hD hK hS hA hnw hgk (hk_s_calls H.size ad kk V227 L (V216 0 92) p3 p4 p5 hMV227 (by first | omega | ((try (have i_t213 := Imp.go t213 (by omega))); (try (have i_nq := Imp.go nq (by omega))); (try (have i_rt := Imp.go rt (by omega))); (try (have i_rt := Imp.go rt (by omega))); (try (have i_nq := Imp.go nq (by omega))); (try (have i_t213 := Imp.go t213 (by omega))); omega)) (by first | omega | ((try (have i_t213 := Imp.go t213 (by omega))); (try (have i_nq := Imp.go nq (by omega))); (try (have i_rt := Imp.go rt (by omega))); (try (have i_rt := Imp.go rt (by omega))); (try (have i_nq := Imp.go nq (by omega))); (try (have i_t213 := Imp.go t213 (by omega))); omega)) (by first | omega | ((try (have i_t213 := Imp.go t213 (by omega))); (try (have i_nq := Imp.go nq (by omega))); (try (have i_rt := Imp.go rt (by omega))); (try (have i_rt := Imp.go rt (by omega))); (try (have i_nq := Imp.go nq (by omega))); (try (have i_t213 := Imp.go t213 (by omega))); omega)) rt243 (show (V227 0 65).toInt ≤ (V227 0 60).toInt from by first | omega | ((try (have i_t213 := Imp.go t213 (by omega))); (try (have i_nq := Imp.go nq (by omega))); (try (have i_rt := Imp.go rt (by omega))); (try (have i_rt := Imp.go rt (by omega))); (try (have i_nq := Imp.go nq (by omega))); (try (have i_t213 := Imp.go t213 (by omega))); omega)) (show (V227 0 95).toInt ≤ (V227 0 65).toInt from by first | omega | ((try (have i_t213 := Imp.go t213 (by omega))); (try (have i_nq := Imp.go nq (by omega))); (try (have i_rt := Imp.go rt (by omega))); (try (have i_rt := Imp.go rt (by omega))); (try (have i_nq := Imp.go nq (by omega))); (try (have i_t213 := Imp.go t213 (by omega))); omega)) (show (V227 0 73).toInt + (V227 0 95).toInt - (V227 0 65).toInt ≤ 999000 from by first | omega | ((try (have i_t213 := Imp.go t213 (by omega))); (try (have i_nq := Imp.go nq (by omega))); (try (have i_rt := Imp.go rt (by omega))); (try (have i_rt := Imp.go rt (by omega))); (try (have i_nq := Imp.go nq (by omega))); (try (have i_t213 := Imp.go t213 (by omega))); omega)) (show (V227 0 76).toInt - (V227 0 69).toInt - (V227 0 73).toInt ≤ 1000000000 from by first | omega | ((try (have i_t213 := Imp.go t213 (by omega))); (try (have i_nq := Imp.go nq (by omega))); (try (have i_rt := Imp.go rt (by omega))); (try (have i_rt := Imp.go rt (by omega))); (try (have i_nq := Imp.go nq (by omega))); (try (have i_t213 := Imp.go t213 (by omega))); omega)) (show 300 - (V227 0 60).toInt ≤ ((d1 : Nat) : Int) from by first | omega | ((try (have i_t213 := Imp.go t213 (by omega))); (try (have i_nq := Imp.go nq (by omega))); (try (have i_rt := Imp.go rt (by omega))); (try (have i_rt := Imp.go rt (by omega))); (try (have i_nq := Imp.go nq (by omega))); (try (have i_t213 := Imp.go t213 (by omega))); omega)) (show 10 - (V227 0 93).toInt ≤ ((d2 : Nat) : Int) from by first | omega | ((try (have i_t213 := Imp.go t213 (by omega))); (try (have i_nq := Imp.go nq (by omega))); (try (have i_rt := Imp.go rt (by omega))); (try (have i_rt := Imp.go rt (by omega))); (try (have i_nq := Imp.go nq (by omega))); (try (have i_t213 := Imp.go t213 (by omega))); omega)) (show ((V216 0 92)).toInt < (V227 0 60).toInt from by first | omega | ((try (have i_t213 := Imp.go t213 (by omega))); (try (have i_nq := Imp.go nq (by omega))); (try (have i_rt := Imp.go rt (by omega))); (try (have i_rt := Imp.go rt (by omega))); (try (have i_nq := Imp.go nq (by omega))); (try (have i_t213 := Imp.go t213 (by omega))); omega)) (show (V227 0 98).toInt + 400 * ((d2 : Nat) : Int) ≤ 19000 from by first | omega | ((try (have i_t213 := Imp.go t213 (by omega))); (try (have i_nq := Imp.go nq (by omega))); (try (have i_rt := Imp.go rt (by omega))); (try (have i_rt := Imp.go rt (by omega))); (try (have i_nq := Imp.go nq (by omega))); (try (have i_t213 := Imp.go t213 (by omega))); omega))) w2320 w2322 w148 w172 w2323 rfl rfl hdV_yX12_calls ⟨(by show (4 * (d1) + 40 * (d2) + 8) + 1 ≤ (4 * d1 + 40 * d2 + 9); omega), (by show 8 + (6 + 11) + (100 * (d1) + 1000 * (d2) + 320) ≤ (100 * d1 + 1000 * d2 + 350); omega)⟩ rfl hl.1 rfl (Nat.le_of_ble_eq_true rfl) dX12_ofLate_174 ⟨Nat.le_of_ble_eq_true rfl, Nat.le_of_ble_eq_true rfl⟩) hP hD hK hS hA (fun z244 u245 H locs w246 hP hD hK hS => ?_)
            obtain ⟨V259, L260⟩ := u245
            obtain ⟨hMV259, ajV259, axL260, rgz244, t247, t248, t249, t250, t251, t252, t253, t254, t255, t256, t257, t258⟩ := w246
            have axL260 : L = L260 := Eq.symm axL260
            subst axL260
            have hP : va_P D vwCl (mw ad kk ks.1 V259 L) H := hP
            have hD : va_D A (mw ad kk ks.1 V259 L) := hD
            have hMV259 : rgd bM V259 := hMV259
            have ajV259 : agr [(0, 60), (0, 65), (0, 68), (0, 69), (0, 73), (0, 76), (0, 90), (0, 91), (0, 92), (0, 93), (0, 95), (0, 96), (0, 98)] [59, 61, 62, 63, 64, 66, 67, 74, 75, 77, 78, 79, 80, 94, 97] V227 V259 := ajV259
            have agV259 : agr [(0, 60), (0, 65), (0, 68), (0, 69), (0, 73), (0, 76), (0, 90), (0, 91), (0, 92), (0, 93), (0, 95), (0, 96), (0, 98)] [59, 61, 62, 63, 64, 66, 67, 74, 75, 77, 78, 79, 80, 94, 97] V V259 := agV227.tr ajV259 (by decide) (by decide)
            have rgz244 : 0 ≤ z244.toInt ∧ z244.toInt ≤ 2 := rgz244
            have t247 : (V259 0 93).toInt = (V227 0 93).toInt := t247
            have t248 : (V259 0 98).toInt = (V227 0 98).toInt := t248
            have t249 : (V227 0 60).toInt ≤ (V259 0 60).toInt := t249
            have t250 : (V227 0 65).toInt ≤ (V259 0 65).toInt := t250
            have t251 : (V259 0 65).toInt - (V227 0 65).toInt ≤ (V259 0 60).toInt - (V227 0 60).toInt := t251
            have t252 : (V259 0 73).toInt + (V259 0 95).toInt - (V259 0 65).toInt ≤ (V227 0 73).toInt + (V227 0 95).toInt - (V227 0 65).toInt := t252
            have t253 : (V227 0 73).toInt ≤ (V259 0 73).toInt := t253
            have t254 : (V227 0 69).toInt ≤ (V259 0 69).toInt := t254
            have t255 : (V259 0 95).toInt = (V227 0 95).toInt := t255
            have t256 : (V259 0 76).toInt - (V259 0 69).toInt - (V259 0 73).toInt ≤ (V227 0 76).toInt - (V227 0 69).toInt - (V227 0 73).toInt := t256
            have t257 : RT V259 := t257
            have t258 : FRM V227 V259 (-1) := t258
            have r261 : 0 ≤ ((V259 0 93)).toInt ∧ ((V259 0 93)).toInt ≤ 10 := hMV259 0 93
            have r262 : 0 ≤ ((V259 0 98)).toInt ∧ ((V259 0 98)).toInt ≤ 20000 := hMV259 0 98
            have r263 : 0 ≤ ((V259 0 60)).toInt ∧ ((V259 0 60)).toInt ≤ 300 := hMV259 0 60
            have r264 : 0 ≤ ((V259 0 65)).toInt ∧ ((V259 0 65)).toInt ≤ 1000000 := hMV259 0 65
            have r265 : 0 ≤ ((V259 0 73)).toInt ∧ ((V259 0 73)).toInt ≤ 1000000 := hMV259 0 73
            have r266 : 0 ≤ ((V259 0 95)).toInt ∧ ((V259 0 95)).toInt ≤ 300 := hMV259 0 95
            have r267 : 0 ≤ ((V259 0 69)).toInt ∧ ((V259 0 69)).toInt ≤ 3000 := hMV259 0 69
            have r268 : 0 ≤ ((V259 0 76)).toInt ∧ ((V259 0 76)).toInt ≤ 2000000000 := hMV259 0 76
            have fm269 : FRM V V190 (-1) := ((FRM.ag (show agr [(0, 93)] [80] V V190 from (agr.up (agr.tr agr.rf ajV18 (by decide) (by decide)) hV190 rfl)) ⟨⟨rfl, fun _ => rfl, fun _ => rfl, fun _ => rfl, fun _ => rfl, fun _ => rfl, fun _ => rfl⟩, by decide, by decide, rfl, rfl, fun _ => rfl, fun _ => rfl, fun _ => rfl, fun _ => rfl, fun _ => rfl, fun _ => rfl⟩) : FRM V V190 (-1))
            have fm270 : FRM V V216 (-1) := (FRM.tr fm269 t215 agV190 ⟨rfl, fun _ => rfl, fun _ => rfl, fun _ => rfl, fun _ => rfl, fun _ => rfl, fun _ => rfl⟩ (by omega))
            have fm271 : FRM V V227 (-1) := (FRM.tr fm270 (FRM.ag (show agr [(0, 93)] [] V216 V227 from (agr.up agr.rf hV227 rfl)) ⟨⟨rfl, fun _ => rfl, fun _ => rfl, fun _ => rfl, fun _ => rfl, fun _ => rfl, fun _ => rfl⟩, by decide, by decide, rfl, rfl, fun _ => rfl, fun _ => rfl, fun _ => rfl, fun _ => rfl, fun _ => rfl, fun _ => rfl⟩) agV216 ⟨rfl, fun _ => rfl, fun _ => rfl, fun _ => rfl, fun _ => rfl, fun _ => rfl, fun _ => rfl⟩ (by omega))
            have fm272 : FRM V V259 (-1) := (FRM.tr fm271 t258 agV227 ⟨rfl, fun _ => rfl, fun _ => rfl, fun _ => rfl, fun _ => rfl, fun _ => rfl, fun _ => rfl⟩ (by omega))
            exact W.iret (v := z244) hx hb hr (fun t ht hW => ⟨⟨z244, (V259, L), rfl, ⟨hMV259, agV259, rfl, (show 0 ≤ z244.toInt ∧ z244.toInt ≤ 2 from by first | omega | ((try (have i_t213 := Imp.go t213 (by omega))); (try (have i_nq := Imp.go nq (by omega))); (try (have i_rt := Imp.go rt (by omega))); (try (have i_rt := Imp.go rt (by omega))); (try (have i_nq := Imp.go nq (by omega))); (try (have i_t213 := Imp.go t213 (by omega))); omega)), (show (V259 0 93).toInt = (V 0 93).toInt from by first | omega | ((try (have i_t213 := Imp.go t213 (by omega))); (try (have i_nq := Imp.go nq (by omega))); (try (have i_rt := Imp.go rt (by omega))); (try (have i_rt := Imp.go rt (by omega))); (try (have i_nq := Imp.go nq (by omega))); (try (have i_t213 := Imp.go t213 (by omega))); omega)), (show (V259 0 98).toInt = (V 0 98).toInt from by first | omega | ((try (have i_t213 := Imp.go t213 (by omega))); (try (have i_nq := Imp.go nq (by omega))); (try (have i_rt := Imp.go rt (by omega))); (try (have i_rt := Imp.go rt (by omega))); (try (have i_nq := Imp.go nq (by omega))); (try (have i_t213 := Imp.go t213 (by omega))); omega)), (show (V 0 60).toInt ≤ (V259 0 60).toInt from by first | omega | ((try (have i_t213 := Imp.go t213 (by omega))); (try (have i_nq := Imp.go nq (by omega))); (try (have i_rt := Imp.go rt (by omega))); (try (have i_rt := Imp.go rt (by omega))); (try (have i_nq := Imp.go nq (by omega))); (try (have i_t213 := Imp.go t213 (by omega))); omega)), (show (V 0 65).toInt ≤ (V259 0 65).toInt from by first | omega | ((try (have i_t213 := Imp.go t213 (by omega))); (try (have i_nq := Imp.go nq (by omega))); (try (have i_rt := Imp.go rt (by omega))); (try (have i_rt := Imp.go rt (by omega))); (try (have i_nq := Imp.go nq (by omega))); (try (have i_t213 := Imp.go t213 (by omega))); omega)), (show (V259 0 65).toInt - (V 0 65).toInt ≤ (V259 0 60).toInt - (V 0 60).toInt from by first | omega | ((try (have i_t213 := Imp.go t213 (by omega))); (try (have i_nq := Imp.go nq (by omega))); (try (have i_rt := Imp.go rt (by omega))); (try (have i_rt := Imp.go rt (by omega))); (try (have i_nq := Imp.go nq (by omega))); (try (have i_t213 := Imp.go t213 (by omega))); omega)), (show (V259 0 73).toInt + (V259 0 95).toInt - (V259 0 65).toInt ≤ (V 0 73).toInt + (V 0 95).toInt - (V 0 65).toInt from by first | omega | ((try (have i_t213 := Imp.go t213 (by omega))); (try (have i_nq := Imp.go nq (by omega))); (try (have i_rt := Imp.go rt (by omega))); (try (have i_rt := Imp.go rt (by omega))); (try (have i_nq := Imp.go nq (by omega))); (try (have i_t213 := Imp.go t213 (by omega))); omega)), (show (V 0 73).toInt ≤ (V259 0 73).toInt from by first | omega | ((try (have i_t213 := Imp.go t213 (by omega))); (try (have i_nq := Imp.go nq (by omega))); (try (have i_rt := Imp.go rt (by omega))); (try (have i_rt := Imp.go rt (by omega))); (try (have i_nq := Imp.go nq (by omega))); (try (have i_t213 := Imp.go t213 (by omega))); omega)), (show (V 0 69).toInt ≤ (V259 0 69).toInt from by first | omega | ((try (have i_t213 := Imp.go t213 (by omega))); (try (have i_nq := Imp.go nq (by omega))); (try (have i_rt := Imp.go rt (by omega))); (try (have i_rt := Imp.go rt (by omega))); (try (have i_nq := Imp.go nq (by omega))); (try (have i_t213 := Imp.go t213 (by omega))); omega)), (show (V259 0 95).toInt = (V 0 95).toInt from by first | omega | ((try (have i_t213 := Imp.go t213 (by omega))); (try (have i_nq := Imp.go nq (by omega))); (try (have i_rt := Imp.go rt (by omega))); (try (have i_rt := Imp.go rt (by omega))); (try (have i_nq := Imp.go nq (by omega))); (try (have i_t213 := Imp.go t213 (by omega))); omega)), (show (V259 0 76).toInt - (V259 0 69).toInt - (V259 0 73).toInt ≤ (V 0 76).toInt - (V 0 69).toInt - (V 0 73).toInt from by first | omega | ((try (have i_t213 := Imp.go t213 (by omega))); (try (have i_nq := Imp.go nq (by omega))); (try (have i_rt := Imp.go rt (by omega))); (try (have i_rt := Imp.go rt (by omega))); (try (have i_nq := Imp.go nq (by omega))); (try (have i_t213 := Imp.go t213 (by omega))); omega)), t257, fm272⟩, by rw [ht]; exact hP, va_K.moved hW.alike hK, hD⟩, hS.F ht⟩) hS.2.2 dX12_ofLate_177
          · skip
            have f273 : ((V216 66 (Int32.toNatClampNeg z231))).toInt = 0 := b_eq rfl (by decide) c233
            refine lv_aload_n hx hb dX12_ofLate_133 rfl (lv_at hl 4 rfl) ?_
            refine va_get (D := D) (ci := 12) (v := .ref (ad 67)) (C := RX12) (T := TX12) (N := 100) hx hb hg inX12 hown hK hP 0 rfl rfl 67 (by decide) (hg _ w1777) (fun _ h9 => h9) rfl dX12_ofLate_134 ?_
            refine lv_bipush (v := 24) hx hb dX12_ofLate_137 (by decide) ?_
            refine lv_bipush (v := 8) hx hb dX12_ofLate_139 (by decide) ?_
            refine lv_iload_n hx hb dX12_ofLate_141 rfl (lv_at hl 5 rfl) ?_
            refine lv_imul hx hb dX12_ofLate_142 ?_
            refine lv_topi (fun z274 ez274 => ?_)
            have hz274 : z274.toInt = 8 * p0.toInt := i_mul ez274 (by decide) rfl (by omega)
            refine lv_iload_n hx hb dX12_ofLate_143 rfl (lv_at hl 6 rfl) ?_
            refine lv_iadd hx hb dX12_ofLate_144 ?_
            refine lv_topi (fun z275 ez275 => ?_)
            have hz275 : z275.toInt = z274.toInt + p1.toInt := i_add ez275 rfl rfl (by omega)
            refine lv_imul hx hb dX12_ofLate_145 ?_
            refine lv_topi (fun z276 ez276 => ?_)
            have hz276 : z276.toInt = 24 * z275.toInt := i_mul ez276 (by decide) rfl (by omega)
            refine lv_aload_n hx hb dX12_ofLate_146 rfl (lv_at hl 4 rfl) ?_
            refine va_get (D := D) (ci := 12) (v := .int (V227 0 92)) (C := RX12) (T := TX12) (N := 100) hx hb hg inX12 hown hK hP 0 rfl rfl 92 (by decide) (hg _ w1802) (fun _ h9 => h9) rfl dX12_ofLate_147 ?_
            refine g_top (v := (V216 0 92)) (up2_k hV227 (by decide)) ?_
            refine va_iast (D := D) (i := z276) (x := (V216 0 92)) hx hb hK hP hD hS 51 50 rfl rfl (i_in (a := z276.toInt) rfl (by first | omega | ((try (have i_t213 := Imp.go t213 (by omega))); (try (have i_nq := Imp.go nq (by omega))); (try (have i_rt := Imp.go rt (by omega))); (try (have i_rt := Imp.go rt (by omega))); (try (have i_nq := Imp.go nq (by omega))); (try (have i_t213 := Imp.go t213 (by omega))); omega))) dX12_ofLate_150 (fun H locs hP hD hS => ?_)
            obtain ⟨V277, hV277⟩ : ∃ z, z = up2 V227 67 (Int32.toNatClampNeg z276) (V216 0 92) := ⟨_, rfl⟩
            have hP : va_P D vwCl (mw ad kk ks.1 V277 L) H := by rw [hV277]; exact hP
            have hD : va_D A (mw ad kk ks.1 V277 L) := by rw [hV277]; exact hD
            have hMV277 : rgd bM V277 := hMV227.put hV277 (show 0 ≤ ((V216 0 92)).toInt ∧ ((V216 0 92)).toInt ≤ 299 from by first | omega | ((try (have i_t213 := Imp.go t213 (by omega))); (try (have i_nq := Imp.go nq (by omega))); (try (have i_rt := Imp.go rt (by omega))); (try (have i_rt := Imp.go rt (by omega))); (try (have i_nq := Imp.go nq (by omega))); (try (have i_t213 := Imp.go t213 (by omega))); omega))
            have agV277 : agr [(0, 60), (0, 65), (0, 68), (0, 69), (0, 73), (0, 76), (0, 90), (0, 91), (0, 92), (0, 93), (0, 95), (0, 96), (0, 98)] [59, 61, 62, 63, 64, 66, 67, 74, 75, 77, 78, 79, 80, 94, 97] V V277 := agV227.up hV277 rfl
            refine lv_aload_n hx hb dX12_ofLate_151 rfl (lv_at hl 4 rfl) ?_
            refine va_get (D := D) (ci := 12) (v := .ref (ad 66)) (C := RX12) (T := TX12) (N := 100) hx hb hg inX12 hown hK hP 0 rfl rfl 66 (by decide) (hg _ w1776) (fun _ h9 => h9) rfl dX12_ofLate_152 ?_
            refine lv_bipush (v := 8) hx hb dX12_ofLate_155 (by decide) ?_
            refine lv_iload_n hx hb dX12_ofLate_157 rfl (lv_at hl 5 rfl) ?_
            refine lv_imul hx hb dX12_ofLate_158 ?_
            refine lv_topi (fun z278 ez278 => ?_)
            have hz278 : z278.toInt = 8 * p0.toInt := i_mul ez278 (by decide) rfl (by omega)
            refine lv_iload_n hx hb dX12_ofLate_159 rfl (lv_at hl 6 rfl) ?_
            refine lv_iadd hx hb dX12_ofLate_160 ?_
            refine lv_topi (fun z279 ez279 => ?_)
            have hz279 : z279.toInt = z278.toInt + p1.toInt := i_add ez279 rfl rfl (by omega)
            refine lv_iconst (v := 1) hx hb dX12_ofLate_161 (by decide) ?_
            refine va_iast (D := D) (i := z279) (x := 1) hx hb hK hP hD hS 50 49 rfl rfl (i_in (a := z279.toInt) rfl (by first | omega | ((try (have i_t213 := Imp.go t213 (by omega))); (try (have i_nq := Imp.go nq (by omega))); (try (have i_rt := Imp.go rt (by omega))); (try (have i_rt := Imp.go rt (by omega))); (try (have i_nq := Imp.go nq (by omega))); (try (have i_t213 := Imp.go t213 (by omega))); omega))) dX12_ofLate_162 (fun H locs hP hD hS => ?_)
            obtain ⟨V280, hV280⟩ : ∃ z, z = up2 V277 66 (Int32.toNatClampNeg z279) 1 := ⟨_, rfl⟩
            have hP : va_P D vwCl (mw ad kk ks.1 V280 L) H := by rw [hV280]; exact hP
            have hD : va_D A (mw ad kk ks.1 V280 L) := by rw [hV280]; exact hD
            have hMV280 : rgd bM V280 := hMV277.put hV280 (show 0 ≤ Int32.toInt 1 ∧ Int32.toInt 1 ≤ 24 from by decide)
            have agV280 : agr [(0, 60), (0, 65), (0, 68), (0, 69), (0, 73), (0, 76), (0, 90), (0, 91), (0, 92), (0, 93), (0, 95), (0, 96), (0, 98)] [59, 61, 62, 63, 64, 66, 67, 74, 75, 77, 78, 79, 80, 94, 97] V V280 := agV277.up hV280 rfl
            have rt281 : RT V227 := RT.ag t214 hMV216 (show agr [(0, 93)] [] V216 V227 from (agr.up agr.rf hV227 rfl)) ⟨⟨rfl, fun _ => rfl, fun _ => rfl, fun _ => rfl, fun _ => rfl, fun _ => rfl, fun _ => rfl⟩, by decide, by decide, rfl, rfl, fun _ => rfl, fun _ => rfl, fun _ => rfl, fun _ => rfl, fun _ => rfl, fun _ => rfl⟩ (c0k.ag (show agr [(0, 93)] [] V216 V227 from (agr.up agr.rf hV227 rfl)) rfl)
            have fm282 : FRM V V190 (-1) := ((FRM.ag (show agr [(0, 93)] [80] V V190 from (agr.up (agr.tr agr.rf ajV18 (by decide) (by decide)) hV190 rfl)) ⟨⟨rfl, fun _ => rfl, fun _ => rfl, fun _ => rfl, fun _ => rfl, fun _ => rfl, fun _ => rfl⟩, by decide, by decide, rfl, rfl, fun _ => rfl, fun _ => rfl, fun _ => rfl, fun _ => rfl, fun _ => rfl, fun _ => rfl⟩) : FRM V V190 (-1))
            have fm283 : FRM V V216 (-1) := (FRM.tr fm282 t215 agV190 ⟨rfl, fun _ => rfl, fun _ => rfl, fun _ => rfl, fun _ => rfl, fun _ => rfl, fun _ => rfl⟩ (by omega))
            have fm284 : FRM V V227 (-1) := (FRM.tr fm283 (FRM.ag (show agr [(0, 93)] [] V216 V227 from (agr.up agr.rf hV227 rfl)) ⟨⟨rfl, fun _ => rfl, fun _ => rfl, fun _ => rfl, fun _ => rfl, fun _ => rfl, fun _ => rfl⟩, by decide, by decide, rfl, rfl, fun _ => rfl, fun _ => rfl, fun _ => rfl, fun _ => rfl, fun _ => rfl, fun _ => rfl⟩) agV216 ⟨rfl, fun _ => rfl, fun _ => rfl, fun _ => rfl, fun _ => rfl, fun _ => rfl, fun _ => rfl⟩ (by omega))
            have kr : Int32.toNatClampNeg z279 = 8 * Int32.toNatClampNeg p0 + Int32.toNatClampNeg p1 := by have h9 := i_clamp (x := z279) rfl (by omega); omega
            have kp := i_clamp (x := z276) rfl (by omega)
            have kq : Int32.toNatClampNeg z231 = 8 * Int32.toNatClampNeg p0 + Int32.toNatClampNeg p1 := by have h9 := i_clamp (x := z231) rfl (by omega); omega
            have q66 : (V227 66 (8 * Int32.toNatClampNeg p0 + Int32.toNatClampNeg p1)).toInt = (V227 66 (Int32.toNatClampNeg z231)).toInt := by rw [kq]
            have pq285 : (V227 66 (Int32.toNatClampNeg z231)).toInt = ((V216 66 (Int32.toNatClampNeg z231))).toInt := congrArg Int32.toInt (up2_o hV227 (by decide))
            have pq286 : (V227 0 60).toInt = ((V216 0 60)).toInt := congrArg Int32.toInt (up2_k hV227 (by decide))
            have pq287 : (V227 0 95).toInt = ((V216 0 95)).toInt := congrArg Int32.toInt (up2_k hV227 (by decide))
            have i1 : (1 : Int32).toInt = 1 := by decide
            have rt288 : RT V280 := RT.join (o := Int32.toNatClampNeg p0) (k := Int32.toNatClampNeg p1) rt281 hMV227 hV277 hV280 kr (by omega) (by omega) (by omega) (by omega) (by first | omega | ((try (have i_t213 := Imp.go t213 (by omega))); (try (have i_nq := Imp.go nq (by omega))); (try (have i_rt := Imp.go rt (by omega))); (try (have i_rt := Imp.go rt (by omega))); (try (have i_nq := Imp.go nq (by omega))); (try (have i_t213 := Imp.go t213 (by omega))); omega))
            have fm289 : FRM V V280 (-1) := FRM.tr fm284 (FRM.join (o := Int32.toNatClampNeg p0) (k := Int32.toNatClampNeg p1) hV277 hV280 kr (by omega) (Or.inr (by rw [(nwh_ag agV227 ⟨rfl, fun _ => rfl, fun _ => rfl, fun _ => rfl, fun _ => rfl, fun _ => rfl, fun _ => rfl⟩).1, (fm284.2.1 (Int32.toNatClampNeg p0) (by omega)).1, agV227 29 _ rfl, ← kN]; exact lt))) agV227 ⟨rfl, fun _ => rfl, fun _ => rfl, fun _ => rfl, fun _ => rfl, fun _ => rfl, fun _ => rfl⟩ (by omega)
            refine lv_aload_n hx hb dX12_ofLate_163 rfl (lv_at hl 4 rfl) ?_
            refine lv_aload_n hx hb dX12_ofLate_164 rfl (lv_at hl 4 rfl) ?_
            refine va_get (D := D) (ci := 12) (v := .int (V280 0 92)) (C := RX12) (T := TX12) (N := 100) hx hb hg inX12 hown hK hP 0 rfl rfl 92 (by decide) (hg _ w1802) (fun _ h9 => h9) rfl dX12_ofLate_165 ?_
            refine g_top (v := (V216 0 92)) ((up2_o hV280 (by decide)).trans ((up2_o hV277 (by decide)).trans (up2_k hV227 (by decide)))) ?_
            refine lv_iload hx hb dX12_ofLate_168 (lv_at hl 8 rfl) ?_
            refine lv_iload hx hb dX12_ofLate_170 (lv_at hl 9 rfl) ?_
            refine lv_iload hx hb dX12_ofLate_172 (lv_at hl 10 rfl) ?_
            have pq290 : (V280 0 65).toInt = ((V216 0 65)).toInt := congrArg Int32.toInt ((up2_o hV280 (by decide)).trans ((up2_o hV277 (by decide)).trans (up2_k hV227 (by decide))))
            have pq291 : (V280 0 60).toInt = ((V216 0 60)).toInt := congrArg Int32.toInt ((up2_o hV280 (by decide)).trans ((up2_o hV277 (by decide)).trans (up2_k hV227 (by decide))))
            have pq292 : (V280 0 95).toInt = ((V216 0 95)).toInt := congrArg Int32.toInt ((up2_o hV280 (by decide)).trans ((up2_o hV277 (by decide)).trans (up2_k hV227 (by decide))))
            have pq293 : (V280 0 73).toInt = ((V216 0 73)).toInt := congrArg Int32.toInt ((up2_o hV280 (by decide)).trans ((up2_o hV277 (by decide)).trans (up2_k hV227 (by decide))))
            have pq294 : (V280 0 76).toInt = ((V216 0 76)).toInt := congrArg Int32.toInt ((up2_o hV280 (by decide)).trans ((up2_o hV277 (by decide)).trans (up2_k hV227 (by decide))))
            have pq295 : (V280 0 69).toInt = ((V216 0 69)).toInt := congrArg Int32.toInt ((up2_o hV280 (by decide)).trans ((up2_o hV277 (by decide)).trans (up2_k hV227 (by decide))))
            have pq296 : (V280 0 93).toInt = z226.toInt := congrArg Int32.toInt ((up2_o hV280 (by decide)).trans ((up2_o hV277 (by decide)).trans (up2_s hV227)))
            have pq297 : (V280 0 98).toInt = ((V216 0 98)).toInt := congrArg Int32.toInt ((up2_o hV280 (by decide)).trans ((up2_o hV277 (by decide)).trans (up2_k hV227 (by decide))))
            refine gA_int (gA_runV (As := [.int (V216 0 92), .int p3, .int p4, .int p5]) (rest := []) (ci := 12) (q0 := 0) hx hb hml hown hg hP hD hK hS hA hnw hgk (hk_s_calls H.size ad kk V280 L (V216 0 92) p3 p4 p5 hMV280 (by first | omega | ((try (have i_t213 := Imp.go t213 (by omega))); (try (have i_nq := Imp.go nq (by omega))); (try (have i_rt := Imp.go rt (by omega))); (try (have i_rt := Imp.go rt (by omega))); (try (have i_nq := Imp.go nq (by omega))); (try (have i_t213 := Imp.go t213 (by omega))); omega)) (by first | omega | ((try (have i_t213 := Imp.go t213 (by omega))); (try (have i_nq := Imp.go nq (by omega))); (try (have i_rt := Imp.go rt (by omega))); (try (have i_rt := Imp.go rt (by omega))); (try (have i_nq := Imp.go nq (by omega))); (try (have i_t213 := Imp.go t213 (by omega))); omega)) (by first | omega | ((try (have i_t213 := Imp.go t213 (by omega))); (try (have i_nq := Imp.go nq (by omega))); (try (have i_rt := Imp.go rt (by omega))); (try (have i_rt := Imp.go rt (by omega))); (try (have i_nq := Imp.go nq (by omega))); (try (have i_t213 := Imp.go t213 (by omega))); omega)) rt288 (show (V280 0 65).toInt ≤ (V280 0 60).toInt from by first | omega | ((try (have i_t213 := Imp.go t213 (by omega))); (try (have i_nq := Imp.go nq (by omega))); (try (have i_rt := Imp.go rt (by omega))); (try (have i_rt := Imp.go rt (by omega))); (try (have i_nq := Imp.go nq (by omega))); (try (have i_t213 := Imp.go t213 (by omega))); omega)) (show (V280 0 95).toInt ≤ (V280 0 65).toInt from by first | omega | ((try (have i_t213 := Imp.go t213 (by omega))); (try (have i_nq := Imp.go nq (by omega))); (try (have i_rt := Imp.go rt (by omega))); (try (have i_rt := Imp.go rt (by omega))); (try (have i_nq := Imp.go nq (by omega))); (try (have i_t213 := Imp.go t213 (by omega))); omega)) (show (V280 0 73).toInt + (V280 0 95).toInt - (V280 0 65).toInt ≤ 999000 from by first | omega | ((try (have i_t213 := Imp.go t213 (by omega))); (try (have i_nq := Imp.go nq (by omega))); (try (have i_rt := Imp.go rt (by omega))); (try (have i_rt := Imp.go rt (by omega))); (try (have i_nq := Imp.go nq (by omega))); (try (have i_t213 := Imp.go t213 (by omega))); omega)) (show (V280 0 76).toInt - (V280 0 69).toInt - (V280 0 73).toInt ≤ 1000000000 from by first | omega | ((try (have i_t213 := Imp.go t213 (by omega))); (try (have i_nq := Imp.go nq (by omega))); (try (have i_rt := Imp.go rt (by omega))); (try (have i_rt := Imp.go rt (by omega))); (try (have i_nq := Imp.go nq (by omega))); (try (have i_t213 := Imp.go t213 (by omega))); omega)) (show 300 - (V280 0 60).toInt ≤ ((d1 : Nat) : Int) from by first | omega | ((try (have i_t213 := Imp.go t213 (by omega))); (try (have i_nq := Imp.go nq (by omega))); (try (have i_rt := Imp.go rt (by omega))); (try (have i_rt := Imp.go rt (by omega))); (try (have i_nq := Imp.go nq (by omega))); (try (have i_t213 := Imp.go t213 (by omega))); omega)) (show 10 - (V280 0 93).toInt ≤ ((d2 : Nat) : Int) from by first | omega | ((try (have i_t213 := Imp.go t213 (by omega))); (try (have i_nq := Imp.go nq (by omega))); (try (have i_rt := Imp.go rt (by omega))); (try (have i_rt := Imp.go rt (by omega))); (try (have i_nq := Imp.go nq (by omega))); (try (have i_t213 := Imp.go t213 (by omega))); omega)) (show ((V216 0 92)).toInt < (V280 0 60).toInt from by first | omega | ((try (have i_t213 := Imp.go t213 (by omega))); (try (have i_nq := Imp.go nq (by omega))); (try (have i_rt := Imp.go rt (by omega))); (try (have i_rt := Imp.go rt (by omega))); (try (have i_nq := Imp.go nq (by omega))); (try (have i_t213 := Imp.go t213 (by omega))); omega)) (show (V280 0 98).toInt + 400 * ((d2 : Nat) : Int) ≤ 19000 from by first | omega | ((try (have i_t213 := Imp.go t213 (by omega))); (try (have i_nq := Imp.go nq (by omega))); (try (have i_rt := Imp.go rt (by omega))); (try (have i_rt := Imp.go rt (by omega))); (try (have i_nq := Imp.go nq (by omega))); (try (have i_t213 := Imp.go t213 (by omega))); omega))) w2320 w2322 w148 w172 w2323 rfl rfl hdV_yX12_calls ⟨(by show (4 * (d1) + 40 * (d2) + 8) + 1 ≤ (4 * d1 + 40 * d2 + 9); omega), (by show 8 + (6 + 11) + (100 * (d1) + 1000 * (d2) + 320) ≤ (100 * d1 + 1000 * d2 + 350); omega)⟩ rfl hl.1 rfl (Nat.le_of_ble_eq_true rfl) dX12_ofLate_174 ⟨Nat.le_of_ble_eq_true rfl, Nat.le_of_ble_eq_true rfl⟩) hP hD hK hS hA (fun z298 u299 H locs w300 hP hD hK hS => ?_)
            obtain ⟨V313, L314⟩ := u299
            obtain ⟨hMV313, ajV313, axL314, rgz298, t301, t302, t303, t304, t305, t306, t307, t308, t309, t310, t311, t312⟩ := w300
            have axL314 : L = L314 := Eq.symm axL314
            subst axL314
            have hP : va_P D vwCl (mw ad kk ks.1 V313 L) H := hP
            have hD : va_D A (mw ad kk ks.1 V313 L) := hD
            have hMV313 : rgd bM V313 := hMV313
            have ajV313 : agr [(0, 60), (0, 65), (0, 68), (0, 69), (0, 73), (0, 76), (0, 90), (0, 91), (0, 92), (0, 93), (0, 95), (0, 96), (0, 98)] [59, 61, 62, 63, 64, 66, 67, 74, 75, 77, 78, 79, 80, 94, 97] V280 V313 := ajV313
            have agV313 : agr [(0, 60), (0, 65), (0, 68), (0, 69), (0, 73), (0, 76), (0, 90), (0, 91), (0, 92), (0, 93), (0, 95), (0, 96), (0, 98)] [59, 61, 62, 63, 64, 66, 67, 74, 75, 77, 78, 79, 80, 94, 97] V V313 := agV280.tr ajV313 (by decide) (by decide)
            have rgz298 : 0 ≤ z298.toInt ∧ z298.toInt ≤ 2 := rgz298
            have t301 : (V313 0 93).toInt = (V280 0 93).toInt := t301
            have t302 : (V313 0 98).toInt = (V280 0 98).toInt := t302
            have t303 : (V280 0 60).toInt ≤ (V313 0 60).toInt := t303
            have t304 : (V280 0 65).toInt ≤ (V313 0 65).toInt := t304
            have t305 : (V313 0 65).toInt - (V280 0 65).toInt ≤ (V313 0 60).toInt - (V280 0 60).toInt := t305
            have t306 : (V313 0 73).toInt + (V313 0 95).toInt - (V313 0 65).toInt ≤ (V280 0 73).toInt + (V280 0 95).toInt - (V280 0 65).toInt := t306
            have t307 : (V280 0 73).toInt ≤ (V313 0 73).toInt := t307
            have t308 : (V280 0 69).toInt ≤ (V313 0 69).toInt := t308
            have t309 : (V313 0 95).toInt = (V280 0 95).toInt := t309
            have t310 : (V313 0 76).toInt - (V313 0 69).toInt - (V313 0 73).toInt ≤ (V280 0 76).toInt - (V280 0 69).toInt - (V280 0 73).toInt := t310
            have t311 : RT V313 := t311
            have t312 : FRM V280 V313 (-1) := t312
            have r315 : 0 ≤ ((V313 0 93)).toInt ∧ ((V313 0 93)).toInt ≤ 10 := hMV313 0 93
            have r316 : 0 ≤ ((V313 0 98)).toInt ∧ ((V313 0 98)).toInt ≤ 20000 := hMV313 0 98
            have r317 : 0 ≤ ((V313 0 60)).toInt ∧ ((V313 0 60)).toInt ≤ 300 := hMV313 0 60
            have r318 : 0 ≤ ((V313 0 65)).toInt ∧ ((V313 0 65)).toInt ≤ 1000000 := hMV313 0 65
            have r319 : 0 ≤ ((V313 0 73)).toInt ∧ ((V313 0 73)).toInt ≤ 1000000 := hMV313 0 73
            have r320 : 0 ≤ ((V313 0 95)).toInt ∧ ((V313 0 95)).toInt ≤ 300 := hMV313 0 95
            have r321 : 0 ≤ ((V313 0 69)).toInt ∧ ((V313 0 69)).toInt ≤ 3000 := hMV313 0 69
            have r322 : 0 ≤ ((V313 0 76)).toInt ∧ ((V313 0 76)).toInt ≤ 2000000000 := hMV313 0 76
            have fm323 : FRM V V313 (-1) := (FRM.tr fm289 t312 agV280 ⟨rfl, fun _ => rfl, fun _ => rfl, fun _ => rfl, fun _ => rfl, fun _ => rfl, fun _ => rfl⟩ (by omega))
            exact W.iret (v := z298) hx hb hr (fun t ht hW => ⟨⟨z298, (V313, L), rfl, ⟨hMV313, agV313, rfl, (show 0 ≤ z298.toInt ∧ z298.toInt ≤ 2 from by first | omega | ((try (have i_t213 := Imp.go t213 (by omega))); (try (have i_nq := Imp.go nq (by omega))); (try (have i_rt := Imp.go rt (by omega))); (try (have i_rt := Imp.go rt (by omega))); (try (have i_nq := Imp.go nq (by omega))); (try (have i_t213 := Imp.go t213 (by omega))); omega)), (show (V313 0 93).toInt = (V 0 93).toInt from by first | omega | ((try (have i_t213 := Imp.go t213 (by omega))); (try (have i_nq := Imp.go nq (by omega))); (try (have i_rt := Imp.go rt (by omega))); (try (have i_rt := Imp.go rt (by omega))); (try (have i_nq := Imp.go nq (by omega))); (try (have i_t213 := Imp.go t213 (by omega))); omega)), (show (V313 0 98).toInt = (V 0 98).toInt from by first | omega | ((try (have i_t213 := Imp.go t213 (by omega))); (try (have i_nq := Imp.go nq (by omega))); (try (have i_rt := Imp.go rt (by omega))); (try (have i_rt := Imp.go rt (by omega))); (try (have i_nq := Imp.go nq (by omega))); (try (have i_t213 := Imp.go t213 (by omega))); omega)), (show (V 0 60).toInt ≤ (V313 0 60).toInt from by first | omega | ((try (have i_t213 := Imp.go t213 (by omega))); (try (have i_nq := Imp.go nq (by omega))); (try (have i_rt := Imp.go rt (by omega))); (try (have i_rt := Imp.go rt (by omega))); (try (have i_nq := Imp.go nq (by omega))); (try (have i_t213 := Imp.go t213 (by omega))); omega)), (show (V 0 65).toInt ≤ (V313 0 65).toInt from by first | omega | ((try (have i_t213 := Imp.go t213 (by omega))); (try (have i_nq := Imp.go nq (by omega))); (try (have i_rt := Imp.go rt (by omega))); (try (have i_rt := Imp.go rt (by omega))); (try (have i_nq := Imp.go nq (by omega))); (try (have i_t213 := Imp.go t213 (by omega))); omega)), (show (V313 0 65).toInt - (V 0 65).toInt ≤ (V313 0 60).toInt - (V 0 60).toInt from by first | omega | ((try (have i_t213 := Imp.go t213 (by omega))); (try (have i_nq := Imp.go nq (by omega))); (try (have i_rt := Imp.go rt (by omega))); (try (have i_rt := Imp.go rt (by omega))); (try (have i_nq := Imp.go nq (by omega))); (try (have i_t213 := Imp.go t213 (by omega))); omega)), (show (V313 0 73).toInt + (V313 0 95).toInt - (V313 0 65).toInt ≤ (V 0 73).toInt + (V 0 95).toInt - (V 0 65).toInt from by first | omega | ((try (have i_t213 := Imp.go t213 (by omega))); (try (have i_nq := Imp.go nq (by omega))); (try (have i_rt := Imp.go rt (by omega))); (try (have i_rt := Imp.go rt (by omega))); (try (have i_nq := Imp.go nq (by omega))); (try (have i_t213 := Imp.go t213 (by omega))); omega)), (show (V 0 73).toInt ≤ (V313 0 73).toInt from by first | omega | ((try (have i_t213 := Imp.go t213 (by omega))); (try (have i_nq := Imp.go nq (by omega))); (try (have i_rt := Imp.go rt (by omega))); (try (have i_rt := Imp.go rt (by omega))); (try (have i_nq := Imp.go nq (by omega))); (try (have i_t213 := Imp.go t213 (by omega))); omega)), (show (V 0 69).toInt ≤ (V313 0 69).toInt from by first | omega | ((try (have i_t213 := Imp.go t213 (by omega))); (try (have i_nq := Imp.go nq (by omega))); (try (have i_rt := Imp.go rt (by omega))); (try (have i_rt := Imp.go rt (by omega))); (try (have i_nq := Imp.go nq (by omega))); (try (have i_t213 := Imp.go t213 (by omega))); omega)), (show (V313 0 95).toInt = (V 0 95).toInt from by first | omega | ((try (have i_t213 := Imp.go t213 (by omega))); (try (have i_nq := Imp.go nq (by omega))); (try (have i_rt := Imp.go rt (by omega))); (try (have i_rt := Imp.go rt (by omega))); (try (have i_nq := Imp.go nq (by omega))); (try (have i_t213 := Imp.go t213 (by omega))); omega)), (show (V313 0 76).toInt - (V313 0 69).toInt - (V313 0 73).toInt ≤ (V 0 76).toInt - (V 0 69).toInt - (V 0 73).toInt from by first | omega | ((try (have i_t213 := Imp.go t213 (by omega))); (try (have i_nq := Imp.go nq (by omega))); (try (have i_rt := Imp.go rt (by omega))); (try (have i_rt := Imp.go rt (by omega))); (try (have i_nq := Imp.go nq (by omega))); (try (have i_t213 := Imp.go t213 (by omega))); omega)), t311, fm323⟩, by rw [ht]; exact hP, va_K.moved hW.alike hK, hD⟩, hS.F ht⟩) hS.2.2 dX12_ofLate_177
        · skip
          have f324 : 0 < z200.toInt := b_nle rfl (by decide) c228
          refine lv_iload hx hb dX12_ofLate_111 (lv_at hl 0 rfl) ?_
          have pq325 : (V227 0 93).toInt = z226.toInt := congrArg Int32.toInt (up2_s hV227)
          have pq326 : (V227 0 98).toInt = ((V216 0 98)).toInt := congrArg Int32.toInt (up2_k hV227 (by decide))
          have pq327 : (V227 0 60).toInt = ((V216 0 60)).toInt := congrArg Int32.toInt (up2_k hV227 (by decide))
          have pq328 : (V227 0 65).toInt = ((V216 0 65)).toInt := congrArg Int32.toInt (up2_k hV227 (by decide))
          have pq329 : (V227 0 73).toInt = ((V216 0 73)).toInt := congrArg Int32.toInt (up2_k hV227 (by decide))
          have pq330 : (V227 0 95).toInt = ((V216 0 95)).toInt := congrArg Int32.toInt (up2_k hV227 (by decide))
          have pq331 : (V227 0 69).toInt = ((V216 0 69)).toInt := congrArg Int32.toInt (up2_k hV227 (by decide))
          have pq332 : (V227 0 76).toInt = ((V216 0 76)).toInt := congrArg Int32.toInt (up2_k hV227 (by decide))
          have rt333 : RT V227 := RT.ag t214 hMV216 (show agr [(0, 93)] [] V216 V227 from (agr.up agr.rf hV227 rfl)) ⟨⟨rfl, fun _ => rfl, fun _ => rfl, fun _ => rfl, fun _ => rfl, fun _ => rfl, fun _ => rfl⟩, by decide, by decide, rfl, rfl, fun _ => rfl, fun _ => rfl, fun _ => rfl, fun _ => rfl, fun _ => rfl, fun _ => rfl⟩ (c0k.ag (show agr [(0, 93)] [] V216 V227 from (agr.up agr.rf hV227 rfl)) rfl)
          have fm334 : FRM V V190 (-1) := ((FRM.ag (show agr [(0, 93)] [80] V V190 from (agr.up (agr.tr agr.rf ajV18 (by decide) (by decide)) hV190 rfl)) ⟨⟨rfl, fun _ => rfl, fun _ => rfl, fun _ => rfl, fun _ => rfl, fun _ => rfl, fun _ => rfl⟩, by decide, by decide, rfl, rfl, fun _ => rfl, fun _ => rfl, fun _ => rfl, fun _ => rfl, fun _ => rfl, fun _ => rfl⟩) : FRM V V190 (-1))
          have fm335 : FRM V V216 (-1) := (FRM.tr fm334 t215 agV190 ⟨rfl, fun _ => rfl, fun _ => rfl, fun _ => rfl, fun _ => rfl, fun _ => rfl, fun _ => rfl⟩ (by omega))
          have fm336 : FRM V V227 (-1) := (FRM.tr fm335 (FRM.ag (show agr [(0, 93)] [] V216 V227 from (agr.up agr.rf hV227 rfl)) ⟨⟨rfl, fun _ => rfl, fun _ => rfl, fun _ => rfl, fun _ => rfl, fun _ => rfl, fun _ => rfl⟩, by decide, by decide, rfl, rfl, fun _ => rfl, fun _ => rfl, fun _ => rfl, fun _ => rfl, fun _ => rfl, fun _ => rfl⟩) agV216 ⟨rfl, fun _ => rfl, fun _ => rfl, fun _ => rfl, fun _ => rfl, fun _ => rfl, fun _ => rfl⟩ (by omega))
          exact W.iret (v := z200) hx hb hr (fun t ht hW => ⟨⟨z200, (V227, L), rfl, ⟨hMV227, agV227, rfl, (show 0 ≤ z200.toInt ∧ z200.toInt ≤ 2 from by first | omega | ((try (have i_t213 := Imp.go t213 (by omega))); (try (have i_nq := Imp.go nq (by omega))); (try (have i_rt := Imp.go rt (by omega))); (try (have i_rt := Imp.go rt (by omega))); (try (have i_nq := Imp.go nq (by omega))); (try (have i_t213 := Imp.go t213 (by omega))); omega)), (show (V227 0 93).toInt = (V 0 93).toInt from by first | omega | ((try (have i_t213 := Imp.go t213 (by omega))); (try (have i_nq := Imp.go nq (by omega))); (try (have i_rt := Imp.go rt (by omega))); (try (have i_rt := Imp.go rt (by omega))); (try (have i_nq := Imp.go nq (by omega))); (try (have i_t213 := Imp.go t213 (by omega))); omega)), (show (V227 0 98).toInt = (V 0 98).toInt from by first | omega | ((try (have i_t213 := Imp.go t213 (by omega))); (try (have i_nq := Imp.go nq (by omega))); (try (have i_rt := Imp.go rt (by omega))); (try (have i_rt := Imp.go rt (by omega))); (try (have i_nq := Imp.go nq (by omega))); (try (have i_t213 := Imp.go t213 (by omega))); omega)), (show (V 0 60).toInt ≤ (V227 0 60).toInt from by first | omega | ((try (have i_t213 := Imp.go t213 (by omega))); (try (have i_nq := Imp.go nq (by omega))); (try (have i_rt := Imp.go rt (by omega))); (try (have i_rt := Imp.go rt (by omega))); (try (have i_nq := Imp.go nq (by omega))); (try (have i_t213 := Imp.go t213 (by omega))); omega)), (show (V 0 65).toInt ≤ (V227 0 65).toInt from by first | omega | ((try (have i_t213 := Imp.go t213 (by omega))); (try (have i_nq := Imp.go nq (by omega))); (try (have i_rt := Imp.go rt (by omega))); (try (have i_rt := Imp.go rt (by omega))); (try (have i_nq := Imp.go nq (by omega))); (try (have i_t213 := Imp.go t213 (by omega))); omega)), (show (V227 0 65).toInt - (V 0 65).toInt ≤ (V227 0 60).toInt - (V 0 60).toInt from by first | omega | ((try (have i_t213 := Imp.go t213 (by omega))); (try (have i_nq := Imp.go nq (by omega))); (try (have i_rt := Imp.go rt (by omega))); (try (have i_rt := Imp.go rt (by omega))); (try (have i_nq := Imp.go nq (by omega))); (try (have i_t213 := Imp.go t213 (by omega))); omega)), (show (V227 0 73).toInt + (V227 0 95).toInt - (V227 0 65).toInt ≤ (V 0 73).toInt + (V 0 95).toInt - (V 0 65).toInt from by first | omega | ((try (have i_t213 := Imp.go t213 (by omega))); (try (have i_nq := Imp.go nq (by omega))); (try (have i_rt := Imp.go rt (by omega))); (try (have i_rt := Imp.go rt (by omega))); (try (have i_nq := Imp.go nq (by omega))); (try (have i_t213 := Imp.go t213 (by omega))); omega)), (show (V 0 73).toInt ≤ (V227 0 73).toInt from by first | omega | ((try (have i_t213 := Imp.go t213 (by omega))); (try (have i_nq := Imp.go nq (by omega))); (try (have i_rt := Imp.go rt (by omega))); (try (have i_rt := Imp.go rt (by omega))); (try (have i_nq := Imp.go nq (by omega))); (try (have i_t213 := Imp.go t213 (by omega))); omega)), (show (V 0 69).toInt ≤ (V227 0 69).toInt from by first | omega | ((try (have i_t213 := Imp.go t213 (by omega))); (try (have i_nq := Imp.go nq (by omega))); (try (have i_rt := Imp.go rt (by omega))); (try (have i_rt := Imp.go rt (by omega))); (try (have i_nq := Imp.go nq (by omega))); (try (have i_t213 := Imp.go t213 (by omega))); omega)), (show (V227 0 95).toInt = (V 0 95).toInt from by first | omega | ((try (have i_t213 := Imp.go t213 (by omega))); (try (have i_nq := Imp.go nq (by omega))); (try (have i_rt := Imp.go rt (by omega))); (try (have i_rt := Imp.go rt (by omega))); (try (have i_nq := Imp.go nq (by omega))); (try (have i_t213 := Imp.go t213 (by omega))); omega)), (show (V227 0 76).toInt - (V227 0 69).toInt - (V227 0 73).toInt ≤ (V 0 76).toInt - (V 0 69).toInt - (V 0 73).toInt from by first | omega | ((try (have i_t213 := Imp.go t213 (by omega))); (try (have i_nq := Imp.go nq (by omega))); (try (have i_rt := Imp.go rt (by omega))); (try (have i_rt := Imp.go rt (by omega))); (try (have i_nq := Imp.go nq (by omega))); (try (have i_t213 := Imp.go t213 (by omega))); omega)), rt333, fm336⟩, by rw [ht]; exact hP, va_K.moved hW.alike hK, hD⟩, hS.F ht⟩) hS.2.2 dX12_ofLate_113
      · skip
        have f337 : ((V 0 93)).toInt = 10 := b_eq rfl (by decide) c187
        refine lv_aload_n hx hb dX12_ofLate_69 rfl (lv_at hl 3 rfl) ?_
        refine lv_bipush (v := 13) hx hb dX12_ofLate_70 (by decide) ?_
        have r338 : Int32.toInt 13 = 13 := by decide
        refine gA_int (gA_runV (As := [.int 13]) (rest := []) (ci := 12) (q0 := 0) hx hb hml hown hg hP hD hK hS hA hnw hgk (s_fails2 l D ks H.size ad kk V18 L 13 hMV18 ) w2251 w2253 w131 w172 w2254 rfl rfl hdV_yX12_fails ⟨(by show (0) + 1 ≤ (4 * d1 + 40 * d2 + 9); omega), (by show 8 + (2 + 11) + (0) ≤ (100 * d1 + 1000 * d2 + 350); omega)⟩ rfl hl.1 rfl (Nat.le_of_ble_eq_true rfl) dX12_ofLate_72 ⟨Nat.le_of_ble_eq_true rfl, Nat.le_of_ble_eq_true rfl⟩) hP hD hK hS hA (fun z339 u340 H locs w341 hP hD hK hS => ?_)
        obtain ⟨V342, L343⟩ := u340
        obtain ⟨hMV342, ajV342, axL343, rgz339⟩ := w341
        have axL343 : L = L343 := Eq.symm axL343
        subst axL343
        have hP : va_P D vwCl (mw ad kk ks.1 V342 L) H := hP
        have hD : va_D A (mw ad kk ks.1 V342 L) := hD
        have hMV342 : rgd bM V342 := hMV342
        have ajV342 : agr [(0, 90), (0, 91)] [] V18 V342 := ajV342
        have agV342 : agr [(0, 60), (0, 65), (0, 68), (0, 69), (0, 73), (0, 76), (0, 90), (0, 91), (0, 92), (0, 93), (0, 95), (0, 96), (0, 98)] [59, 61, 62, 63, 64, 66, 67, 74, 75, 77, 78, 79, 80, 94, 97] V V342 := agV18.tr ajV342 (by decide) (by decide)
        have rgz339 : 1 ≤ z339.toInt ∧ z339.toInt ≤ 1 := rgz339
        have pq344 : (V342 0 93).toInt = ((V 0 93)).toInt := congrArg Int32.toInt ((ajV342 0 93 rfl).trans (ajV18 0 93 rfl))
        have pq345 : (V342 0 98).toInt = ((V 0 98)).toInt := congrArg Int32.toInt ((ajV342 0 98 rfl).trans (ajV18 0 98 rfl))
        have pq346 : (V342 0 60).toInt = ((V 0 60)).toInt := congrArg Int32.toInt ((ajV342 0 60 rfl).trans (ajV18 0 60 rfl))
        have pq347 : (V342 0 65).toInt = ((V 0 65)).toInt := congrArg Int32.toInt ((ajV342 0 65 rfl).trans (ajV18 0 65 rfl))
        have pq348 : (V342 0 73).toInt = ((V 0 73)).toInt := congrArg Int32.toInt ((ajV342 0 73 rfl).trans (ajV18 0 73 rfl))
        have pq349 : (V342 0 95).toInt = ((V 0 95)).toInt := congrArg Int32.toInt ((ajV342 0 95 rfl).trans (ajV18 0 95 rfl))
        have pq350 : (V342 0 69).toInt = ((V 0 69)).toInt := congrArg Int32.toInt ((ajV342 0 69 rfl).trans (ajV18 0 69 rfl))
        have pq351 : (V342 0 76).toInt = ((V 0 76)).toInt := congrArg Int32.toInt ((ajV342 0 76 rfl).trans (ajV18 0 76 rfl))
        have rt352 : RT V342 := RT.ag rt hMV (show agr [(0, 90), (0, 91)] [80] V V342 from (agr.tr (agr.tr agr.rf ajV18 (by decide) (by decide)) ajV342 (by decide) (by decide))) ⟨⟨rfl, fun _ => rfl, fun _ => rfl, fun _ => rfl, fun _ => rfl, fun _ => rfl, fun _ => rfl⟩, by decide, by decide, rfl, rfl, fun _ => rfl, fun _ => rfl, fun _ => rfl, fun _ => rfl, fun _ => rfl, fun _ => rfl⟩ (c0k.tr (V := V) (W := V18) (X := V342) (c0k.tr (V := V) (W := V) (X := V18) c0k.rf t17 (show agr [] [] V V from agr.rf) ⟨rfl, fun _ => rfl, fun _ => rfl, fun _ => rfl, fun _ => rfl, fun _ => rfl, fun _ => rfl⟩) (c0k.ag ajV342 rfl) (show agr [] [80] V V18 from (agr.tr agr.rf ajV18 (by decide) (by decide))) ⟨rfl, fun _ => rfl, fun _ => rfl, fun _ => rfl, fun _ => rfl, fun _ => rfl, fun _ => rfl⟩)
        have fm353 : FRM V V342 (-1) := ((FRM.ag (show agr [(0, 90), (0, 91)] [80] V V342 from (agr.tr (agr.tr agr.rf ajV18 (by decide) (by decide)) ajV342 (by decide) (by decide))) ⟨⟨rfl, fun _ => rfl, fun _ => rfl, fun _ => rfl, fun _ => rfl, fun _ => rfl, fun _ => rfl⟩, by decide, by decide, rfl, rfl, fun _ => rfl, fun _ => rfl, fun _ => rfl, fun _ => rfl, fun _ => rfl, fun _ => rfl⟩) : FRM V V342 (-1))
        exact W.iret (v := z339) hx hb hr (fun t ht hW => ⟨⟨z339, (V342, L), rfl, ⟨hMV342, agV342, rfl, (show 0 ≤ z339.toInt ∧ z339.toInt ≤ 2 from by first | omega | ((try (have i_nq := Imp.go nq (by omega))); (try (have i_rt := Imp.go rt (by omega))); (try (have i_rt := Imp.go rt (by omega))); (try (have i_nq := Imp.go nq (by omega))); omega)), (show (V342 0 93).toInt = (V 0 93).toInt from by first | omega | ((try (have i_nq := Imp.go nq (by omega))); (try (have i_rt := Imp.go rt (by omega))); (try (have i_rt := Imp.go rt (by omega))); (try (have i_nq := Imp.go nq (by omega))); omega)), (show (V342 0 98).toInt = (V 0 98).toInt from by first | omega | ((try (have i_nq := Imp.go nq (by omega))); (try (have i_rt := Imp.go rt (by omega))); (try (have i_rt := Imp.go rt (by omega))); (try (have i_nq := Imp.go nq (by omega))); omega)), (show (V 0 60).toInt ≤ (V342 0 60).toInt from by first | omega | ((try (have i_nq := Imp.go nq (by omega))); (try (have i_rt := Imp.go rt (by omega))); (try (have i_rt := Imp.go rt (by omega))); (try (have i_nq := Imp.go nq (by omega))); omega)), (show (V 0 65).toInt ≤ (V342 0 65).toInt from by first | omega | ((try (have i_nq := Imp.go nq (by omega))); (try (have i_rt := Imp.go rt (by omega))); (try (have i_rt := Imp.go rt (by omega))); (try (have i_nq := Imp.go nq (by omega))); omega)), (show (V342 0 65).toInt - (V 0 65).toInt ≤ (V342 0 60).toInt - (V 0 60).toInt from by first | omega | ((try (have i_nq := Imp.go nq (by omega))); (try (have i_rt := Imp.go rt (by omega))); (try (have i_rt := Imp.go rt (by omega))); (try (have i_nq := Imp.go nq (by omega))); omega)), (show (V342 0 73).toInt + (V342 0 95).toInt - (V342 0 65).toInt ≤ (V 0 73).toInt + (V 0 95).toInt - (V 0 65).toInt from by first | omega | ((try (have i_nq := Imp.go nq (by omega))); (try (have i_rt := Imp.go rt (by omega))); (try (have i_rt := Imp.go rt (by omega))); (try (have i_nq := Imp.go nq (by omega))); omega)), (show (V 0 73).toInt ≤ (V342 0 73).toInt from by first | omega | ((try (have i_nq := Imp.go nq (by omega))); (try (have i_rt := Imp.go rt (by omega))); (try (have i_rt := Imp.go rt (by omega))); (try (have i_nq := Imp.go nq (by omega))); omega)), (show (V 0 69).toInt ≤ (V342 0 69).toInt from by first | omega | ((try (have i_nq := Imp.go nq (by omega))); (try (have i_rt := Imp.go rt (by omega))); (try (have i_rt := Imp.go rt (by omega))); (try (have i_nq := Imp.go nq (by omega))); omega)), (show (V342 0 95).toInt = (V 0 95).toInt from by first | omega | ((try (have i_nq := Imp.go nq (by omega))); (try (have i_rt := Imp.go rt (by omega))); (try (have i_rt := Imp.go rt (by omega))); (try (have i_nq := Imp.go nq (by omega))); omega)), (show (V342 0 76).toInt - (V342 0 69).toInt - (V342 0 73).toInt ≤ (V 0 76).toInt - (V 0 69).toInt - (V 0 73).toInt from by first | omega | ((try (have i_nq := Imp.go nq (by omega))); (try (have i_rt := Imp.go rt (by omega))); (try (have i_rt := Imp.go rt (by omega))); (try (have i_nq := Imp.go nq (by omega))); omega)), rt352, fm353⟩, by rw [ht]; exact hP, va_K.moved hW.alike hK, hD⟩, hS.F ht⟩) hS.2.2 dX12_ofLate_75
