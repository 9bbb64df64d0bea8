theorem dX12_inside_0 : decode cX12_inside 0 = .ok (.iload 4, 2) := by decide +kernel
theorem dX12_inside_2 : decode cX12_inside 2 = .ok (.istore 5, 2) := by decide +kernel
theorem dX12_inside_4 : decode cX12_inside 4 = .ok (.aload_n 0, 1) := by decide +kernel
theorem dX12_inside_5 : decode cX12_inside 5 = .ok (.iload_n 1, 1) := by decide +kernel
theorem dX12_inside_6 : decode cX12_inside 6 = .ok (.iload_n 2, 1) := by decide +kernel
theorem dX12_inside_7 : decode cX12_inside 7 = .ok (.iconst 0, 1) := by decide +kernel
theorem dX12_inside_8 : decode cX12_inside 8 = .ok (.invokevirtual 542, 3) := by decide +kernel
theorem dX12_inside_11 : decode cX12_inside 11 = .ok (.istore 6, 2) := by decide +kernel
theorem dX12_inside_13 : decode cX12_inside 13 = .ok (.iconst 0, 1) := by decide +kernel
theorem dX12_inside_14 : decode cX12_inside 14 = .ok (.istore 7, 2) := by decide +kernel
theorem dX12_inside_16 : decode cX12_inside 16 = .ok (.iload 7, 2) := by decide +kernel
theorem dX12_inside_18 : decode cX12_inside 18 = .ok (.iload 6, 2) := by decide +kernel
theorem dX12_inside_20 : decode cX12_inside 20 = .ok (.if_icmp .ge 69, 3) := by decide +kernel
theorem dX12_inside_89 : decode cX12_inside 89 = .ok (.aload_n 0, 1) := by decide +kernel
theorem dX12_inside_90 : decode cX12_inside 90 = .ok (.getfield 107, 3) := by decide +kernel
theorem dX12_inside_93 : decode cX12_inside 93 = .ok (.bipush 20, 2) := by decide +kernel
theorem dX12_inside_95 : decode cX12_inside 95 = .ok (.bipush 24, 2) := by decide +kernel
theorem dX12_inside_97 : decode cX12_inside 97 = .ok (.aload_n 0, 1) := by decide +kernel
theorem dX12_inside_98 : decode cX12_inside 98 = .ok (.getfield 286, 3) := by decide +kernel
theorem dX12_inside_101 : decode cX12_inside 101 = .ok (.imul, 1) := by decide +kernel
theorem dX12_inside_102 : decode cX12_inside 102 = .ok (.aload_n 0, 1) := by decide +kernel
theorem dX12_inside_103 : decode cX12_inside 103 = .ok (.getfield 164, 3) := by decide +kernel
theorem dX12_inside_106 : decode cX12_inside 106 = .ok (.iload_n 1, 1) := by decide +kernel
theorem dX12_inside_107 : decode cX12_inside 107 = .ok (.iaload, 1) := by decide +kernel
theorem dX12_inside_108 : decode cX12_inside 108 = .ok (.iadd, 1) := by decide +kernel
theorem dX12_inside_109 : decode cX12_inside 109 = .ok (.imul, 1) := by decide +kernel
theorem dX12_inside_110 : decode cX12_inside 110 = .ok (.iload_n 2, 1) := by decide +kernel
theorem dX12_inside_111 : decode cX12_inside 111 = .ok (.iadd, 1) := by decide +kernel
theorem dX12_inside_112 : decode cX12_inside 112 = .ok (.iaload, 1) := by decide +kernel
theorem dX12_inside_113 : decode cX12_inside 113 = .ok (.istore 7, 2) := by decide +kernel
theorem dX12_inside_115 : decode cX12_inside 115 = .ok (.iload 7, 2) := by decide +kernel
theorem dX12_inside_117 : decode cX12_inside 117 = .ok (.ifCond .ge 10, 3) := by decide +kernel
theorem dX12_inside_127 : decode cX12_inside 127 = .ok (.aload_n 0, 1) := by decide +kernel
theorem dX12_inside_128 : decode cX12_inside 128 = .ok (.iconst 4, 1) := by decide +kernel
theorem dX12_inside_129 : decode cX12_inside 129 = .ok (.iload_n 1, 1) := by decide +kernel
theorem dX12_inside_130 : decode cX12_inside 130 = .ok (.iload 5, 2) := by decide +kernel
theorem dX12_inside_132 : decode cX12_inside 132 = .ok (.invokevirtual 535, 3) := by decide +kernel
theorem dX12_inside_135 : decode cX12_inside 135 = .ok (.aload_n 0, 1) := by decide +kernel
theorem dX12_inside_136 : decode cX12_inside 136 = .ok (.iload 7, 2) := by decide +kernel
theorem dX12_inside_138 : decode cX12_inside 138 = .ok (.iload_n 1, 1) := by decide +kernel
theorem dX12_inside_139 : decode cX12_inside 139 = .ok (.iload_n 3, 1) := by decide +kernel
theorem dX12_inside_140 : decode cX12_inside 140 = .ok (.iload 5, 2) := by decide +kernel
theorem dX12_inside_142 : decode cX12_inside 142 = .ok (.iconst (-1), 1) := by decide +kernel
theorem dX12_inside_143 : decode cX12_inside 143 = .ok (.invokevirtual 503, 3) := by decide +kernel
theorem dX12_inside_146 : decode cX12_inside 146 = .ok (.istore 8, 2) := by decide +kernel
theorem dX12_inside_148 : decode cX12_inside 148 = .ok (.aload_n 0, 1) := by decide +kernel
theorem dX12_inside_149 : decode cX12_inside 149 = .ok (.iload_n 1, 1) := by decide +kernel
theorem dX12_inside_150 : decode cX12_inside 150 = .ok (.iload_n 2, 1) := by decide +kernel
theorem dX12_inside_151 : decode cX12_inside 151 = .ok (.iconst 2, 1) := by decide +kernel
theorem dX12_inside_152 : decode cX12_inside 152 = .ok (.invokevirtual 542, 3) := by decide +kernel
theorem dX12_inside_155 : decode cX12_inside 155 = .ok (.istore 6, 2) := by decide +kernel
theorem dX12_inside_157 : decode cX12_inside 157 = .ok (.iload 6, 2) := by decide +kernel
theorem dX12_inside_159 : decode cX12_inside 159 = .ok (.iconst 1, 1) := by decide +kernel
theorem dX12_inside_160 : decode cX12_inside 160 = .ok (.isub, 1) := by decide +kernel
theorem dX12_inside_161 : decode cX12_inside 161 = .ok (.istore 9, 2) := by decide +kernel
theorem dX12_inside_163 : decode cX12_inside 163 = .ok (.iload 9, 2) := by decide +kernel
theorem dX12_inside_165 : decode cX12_inside 165 = .ok (.ifCond .lt 66, 3) := by decide +kernel
theorem dX12_inside_231 : decode cX12_inside 231 = .ok (.iload 8, 2) := by decide +kernel
theorem dX12_inside_233 : decode cX12_inside 233 = .ok (.ireturn, 1) := by decide +kernel
theorem dX12_inside_168 : decode cX12_inside 168 = .ok (.iload 8, 2) := by decide +kernel
theorem dX12_inside_170 : decode cX12_inside 170 = .ok (.ifCond .ne 61, 3) := by decide +kernel
theorem dX12_inside_173 : decode cX12_inside 173 = .ok (.aload_n 0, 1) := by decide +kernel
theorem dX12_inside_174 : decode cX12_inside 174 = .ok (.iload 9, 2) := by decide +kernel
theorem dX12_inside_176 : decode cX12_inside 176 = .ok (.iload_n 1, 1) := by decide +kernel
theorem dX12_inside_177 : decode cX12_inside 177 = .ok (.iload_n 2, 1) := by decide +kernel
theorem dX12_inside_178 : decode cX12_inside 178 = .ok (.iconst 2, 1) := by decide +kernel
theorem dX12_inside_179 : decode cX12_inside 179 = .ok (.invokevirtual 529, 3) := by decide +kernel
theorem dX12_inside_182 : decode cX12_inside 182 = .ok (.istore 10, 2) := by decide +kernel
theorem dX12_inside_184 : decode cX12_inside 184 = .ok (.aload_n 0, 1) := by decide +kernel
theorem dX12_inside_185 : decode cX12_inside 185 = .ok (.getfield 545, 3) := by decide +kernel
theorem dX12_inside_188 : decode cX12_inside 188 = .ok (.istore 5, 2) := by decide +kernel
theorem dX12_inside_190 : decode cX12_inside 190 = .ok (.aload_n 0, 1) := by decide +kernel
theorem dX12_inside_191 : decode cX12_inside 191 = .ok (.iconst 2, 1) := by decide +kernel
theorem dX12_inside_192 : decode cX12_inside 192 = .ok (.iload 10, 2) := by decide +kernel
theorem dX12_inside_194 : decode cX12_inside 194 = .ok (.iload 5, 2) := by decide +kernel
theorem dX12_inside_196 : decode cX12_inside 196 = .ok (.invokevirtual 535, 3) := by decide +kernel
theorem dX12_inside_199 : decode cX12_inside 199 = .ok (.aload_n 0, 1) := by decide +kernel
theorem dX12_inside_200 : decode cX12_inside 200 = .ok (.aload_n 0, 1) := by decide +kernel
theorem dX12_inside_201 : decode cX12_inside 201 = .ok (.getfield 137, 3) := by decide +kernel
theorem dX12_inside_204 : decode cX12_inside 204 = .ok (.bipush 12, 2) := by decide +kernel
theorem dX12_inside_206 : decode cX12_inside 206 = .ok (.aload_n 0, 1) := by decide +kernel
theorem dX12_inside_207 : decode cX12_inside 207 = .ok (.getfield 286, 3) := by decide +kernel
theorem dX12_inside_210 : decode cX12_inside 210 = .ok (.imul, 1) := by decide +kernel
theorem dX12_inside_211 : decode cX12_inside 211 = .ok (.iload 10, 2) := by decide +kernel
theorem dX12_inside_213 : decode cX12_inside 213 = .ok (.iadd, 1) := by decide +kernel
theorem dX12_inside_214 : decode cX12_inside 214 = .ok (.iaload, 1) := by decide +kernel
theorem dX12_inside_215 : decode cX12_inside 215 = .ok (.iload_n 1, 1) := by decide +kernel
theorem dX12_inside_216 : decode cX12_inside 216 = .ok (.iload_n 3, 1) := by decide +kernel
theorem dX12_inside_217 : decode cX12_inside 217 = .ok (.iload 5, 2) := by decide +kernel
theorem dX12_inside_219 : decode cX12_inside 219 = .ok (.iconst (-1), 1) := by decide +kernel
theorem dX12_inside_220 : decode cX12_inside 220 = .ok (.invokevirtual 503, 3) := by decide +kernel
theorem dX12_inside_223 : decode cX12_inside 223 = .ok (.istore 8, 2) := by decide +kernel
theorem dX12_inside_225 : decode cX12_inside 225 = .ok (.iinc 9 (-1), 3) := by decide +kernel
theorem dX12_inside_228 : decode cX12_inside 228 = .ok (.goto (-65), 3) := by decide +kernel
theorem dX12_inside_120 : decode cX12_inside 120 = .ok (.aload_n 0, 1) := by decide +kernel
theorem dX12_inside_121 : decode cX12_inside 121 = .ok (.bipush 11, 2) := by decide +kernel
theorem dX12_inside_123 : decode cX12_inside 123 = .ok (.invokevirtual 484, 3) := by decide +kernel
theorem dX12_inside_126 : decode cX12_inside 126 = .ok (.ireturn, 1) := by decide +kernel
theorem dX12_inside_23 : decode cX12_inside 23 = .ok (.aload_n 0, 1) := by decide +kernel
theorem dX12_inside_24 : decode cX12_inside 24 = .ok (.iload 7, 2) := by decide +kernel
theorem dX12_inside_26 : decode cX12_inside 26 = .ok (.iload_n 1, 1) := by decide +kernel
theorem dX12_inside_27 : decode cX12_inside 27 = .ok (.iload_n 2, 1) := by decide +kernel
theorem dX12_inside_28 : decode cX12_inside 28 = .ok (.iconst 0, 1) := by decide +kernel
theorem dX12_inside_29 : decode cX12_inside 29 = .ok (.invokevirtual 529, 3) := by decide +kernel
theorem dX12_inside_32 : decode cX12_inside 32 = .ok (.istore 8, 2) := by decide +kernel
theorem dX12_inside_34 : decode cX12_inside 34 = .ok (.aload_n 0, 1) := by decide +kernel
theorem dX12_inside_35 : decode cX12_inside 35 = .ok (.iconst 0, 1) := by decide +kernel
theorem dX12_inside_36 : decode cX12_inside 36 = .ok (.iload 8, 2) := by decide +kernel
theorem dX12_inside_38 : decode cX12_inside 38 = .ok (.iload 5, 2) := by decide +kernel
theorem dX12_inside_40 : decode cX12_inside 40 = .ok (.invokevirtual 535, 3) := by decide +kernel
theorem dX12_inside_43 : decode cX12_inside 43 = .ok (.aload_n 0, 1) := by decide +kernel
theorem dX12_inside_44 : decode cX12_inside 44 = .ok (.aload_n 0, 1) := by decide +kernel
theorem dX12_inside_45 : decode cX12_inside 45 = .ok (.getfield 137, 3) := by decide +kernel
theorem dX12_inside_48 : decode cX12_inside 48 = .ok (.bipush 12, 2) := by decide +kernel
theorem dX12_inside_50 : decode cX12_inside 50 = .ok (.aload_n 0, 1) := by decide +kernel
theorem dX12_inside_51 : decode cX12_inside 51 = .ok (.getfield 286, 3) := by decide +kernel
theorem dX12_inside_54 : decode cX12_inside 54 = .ok (.imul, 1) := by decide +kernel
theorem dX12_inside_55 : decode cX12_inside 55 = .ok (.iload 8, 2) := by decide +kernel
theorem dX12_inside_57 : decode cX12_inside 57 = .ok (.iadd, 1) := by decide +kernel
theorem dX12_inside_58 : decode cX12_inside 58 = .ok (.iaload, 1) := by decide +kernel
theorem dX12_inside_59 : decode cX12_inside 59 = .ok (.iload_n 1, 1) := by decide +kernel
theorem dX12_inside_60 : decode cX12_inside 60 = .ok (.iload_n 3, 1) := by decide +kernel
theorem dX12_inside_61 : decode cX12_inside 61 = .ok (.iload 5, 2) := by decide +kernel
theorem dX12_inside_63 : decode cX12_inside 63 = .ok (.iconst (-1), 1) := by decide +kernel
theorem dX12_inside_64 : decode cX12_inside 64 = .ok (.invokevirtual 503, 3) := by decide +kernel
theorem dX12_inside_67 : decode cX12_inside 67 = .ok (.istore 9, 2) := by decide +kernel
theorem dX12_inside_69 : decode cX12_inside 69 = .ok (.iload 9, 2) := by decide +kernel
theorem dX12_inside_71 : decode cX12_inside 71 = .ok (.ifCond .le 6, 3) := by decide +kernel
theorem dX12_inside_77 : decode cX12_inside 77 = .ok (.aload_n 0, 1) := by decide +kernel
theorem dX12_inside_78 : decode cX12_inside 78 = .ok (.getfield 545, 3) := by decide +kernel
theorem dX12_inside_81 : decode cX12_inside 81 = .ok (.istore 5, 2) := by decide +kernel
theorem dX12_inside_83 : decode cX12_inside 83 = .ok (.iinc 7 1, 3) := by decide +kernel
theorem dX12_inside_86 : decode cX12_inside 86 = .ok (.goto (-70), 3) := by decide +kernel
theorem dX12_inside_74 : decode cX12_inside 74 = .ok (.iload 9, 2) := by decide +kernel
theorem dX12_inside_76 : decode cX12_inside 76 = .ok (.ireturn, 1) := by decide +kernel
set_option maxHeartbeats 4000000 in
set_option maxRecDepth 100000 in
theorem s_inside {l : Launch} {D : va_G} {ks : KS} {d1 d2 : Nat} (hk_s_works : K_s_works l D ks d1 d2) : K_s_inside l D ks d1 d2 := by
  intro sz ad kk V L p0 p1 p2 p3 hMV rg_p0 rg_p1 rg_p2 rt n1 n2 n3 n4 n5 n6 oq1 n7
  refine g_met (q_s_inside D ks ad kk V L p0 p1 p2 p3) (by decide) (Nat.le_of_ble_eq_true rfl) ?_
  intro p e s m below meth c A ls H locs hx hb hr hml hown hg hlocks hin hnw hgk hP hK hD hS hA hl
  have hown : s.vm.findClass RX12 = some m.cls := hown
  have hl : lv_has ls 11 [(0, .ref (ad 0)), (1, .int p0), (2, .int p1), (3, .int p2), (4, .int p3)] := hl
  have hP : va_P D vwCl (mw ad kk ks.1 V L) H := hP
  have hD : va_D A (mw ad kk ks.1 V L) := hD
  have hK : va_K D vwCl (mty kk) s := hK
  have agV : agr [(0, 60), (0, 65), (0, 68), (0, 69), (0, 73), (0, 76), (0, 90), (0, 91), (0, 92), (0, 93), (0, 95), (0, 96), (0, 98)] [59, 61, 62, 63, 64, 66, 67, 74, 75, 77, 78, 79, 80, 94, 97] V V := agr.rf
  have r1 : 0 ≤ ((V 0 65)).toInt ∧ ((V 0 65)).toInt ≤ 1000000 := hMV 0 65
  have r2 : 0 ≤ ((V 0 60)).toInt ∧ ((V 0 60)).toInt ≤ 300 := hMV 0 60
  have r3 : 0 ≤ ((V 0 95)).toInt ∧ ((V 0 95)).toInt ≤ 300 := hMV 0 95
  have r4 : 0 ≤ ((V 0 73)).toInt ∧ ((V 0 73)).toInt ≤ 1000000 := hMV 0 73
  have r5 : 0 ≤ ((V 0 76)).toInt ∧ ((V 0 76)).toInt ≤ 2000000000 := hMV 0 76
  have r6 : 0 ≤ ((V 0 69)).toInt ∧ ((V 0 69)).toInt ≤ 3000 := hMV 0 69
  have r7 : 0 ≤ ((V 0 93)).toInt ∧ ((V 0 93)).toInt ≤ 10 := hMV 0 93
  have r8 : 0 ≤ ((V 0 98)).toInt ∧ ((V 0 98)).toInt ≤ 20000 := hMV 0 98
  refine lv_iload hx hb dX12_inside_0 (lv_at hl 4 rfl) ?_
  refine lv_istore (lv' := [(5, .int p3), (0, .ref (ad 0)), (1, .int p0), (2, .int p1), (3, .int p2), (4, .int p3)]) hx hb dX12_inside_2 hl (by decide) rfl (fun ls hl => ?_)
  refine lv_aload_n hx hb dX12_inside_4 rfl (lv_at hl 1 rfl) ?_
  refine lv_iload_n hx hb dX12_inside_5 rfl (lv_at hl 2 rfl) ?_
  refine lv_iload_n hx hb dX12_inside_6 rfl (lv_at hl 3 rfl) ?_
  refine lv_iconst (v := 0) hx hb dX12_inside_7 (by decide) ?_
  have r9 : Int32.toInt 0 = 0 := by decide
  refine gA_int (gA_runV (As := [.int p0, .int p1, .int 0]) (rest := []) (ci := 12) (q0 := 0) hx hb hml hown hg hP hD hK hS hA hnw hgk (s_wrapsOf2 l D ks H.size ad kk V L p0 p1 0 hMV (by first | omega | ((try (have i_rt := Imp.go rt (by omega))); omega)) (rt).1) w2300 w2302 w143 w172 w2303 rfl rfl hdV_yX12_wrapsOf ⟨(by show (1) + 1 ≤ (4 * d1 + 40 * d2 + 13); omega), (by show 8 + (6 + 11) + (25) ≤ (100 * d1 + 1000 * d2 + 500); omega)⟩ rfl hl.1 rfl (Nat.le_of_ble_eq_true rfl) dX12_inside_8 ⟨Nat.le_of_ble_eq_true rfl, Nat.le_of_ble_eq_true rfl⟩) hP hD hK hS hA (fun z10 u11 H locs w12 hP hD hK hS => ?_)
  obtain ⟨rgz10, t13⟩ := w12
  have rgz10 : 0 ≤ z10.toInt ∧ z10.toInt ≤ 12 := rgz10
  have t13 : z10.toInt = ((wcn (isWb V p0 p1 0) (wmany V) : Nat) : Int) := t13
  refine lv_istore (lv' := [(6, .int z10), (5, .int p3), (0, .ref (ad 0)), (1, .int p0), (2, .int p1), (3, .int p2), (4, .int p3)]) hx hb dX12_inside_11 hl (by decide) rfl (fun ls hl => ?_)
  refine lv_iconst (v := 0) hx hb dX12_inside_13 (by decide) ?_
  refine lv_istore (lv' := [(7, .int 0), (6, .int z10), (5, .int p3), (0, .ref (ad 0)), (1, .int p0), (2, .int p1), (3, .int p2), (4, .int p3)]) hx hb dX12_inside_14 hl (by decide) rfl (fun ls hl => ?_)
  have lp17 : ∀ (fulp17 : Nat) (y14 : Int32) (y15 : Int32) (V16 : Vf) (H : Heap) (locs : List Loc) (ls : Array Slot), 0 ≤ y14.toInt ∧ y14.toInt ≤ 12 → (V16 0 98).toInt = (V 0 98).toInt → (V16 0 93).toInt = (V 0 93).toInt → (V 0 60).toInt ≤ (V16 0 60).toInt → (V 0 65).toInt ≤ (V16 0 65).toInt → (V16 0 65).toInt - (V 0 65).toInt ≤ (V16 0 60).toInt - (V 0 60).toInt → (V16 0 73).toInt + (V16 0 95).toInt - (V16 0 65).toInt ≤ (V 0 73).toInt + (V 0 95).toInt - (V 0 65).toInt → (V 0 73).toInt ≤ (V16 0 73).toInt → (V 0 69).toInt ≤ (V16 0 69).toInt → (V16 0 95).toInt = (V 0 95).toInt → (V16 0 76).toInt - (V16 0 69).toInt - (V16 0 73).toInt ≤ (V 0 76).toInt - (V 0 69).toInt - (V 0 73).toInt → y14.toInt ≤ z10.toInt → RT V16 → FRM V V16 (-1) → 12 - y14.toInt < (fulp17 : Int) → agr [(0, 60), (0, 65), (0, 68), (0, 69), (0, 73), (0, 76), (0, 90), (0, 91), (0, 92), (0, 93), (0, 95), (0, 96), (0, 98)] [59, 61, 62, 63, 64, 66, 67, 74, 75, 77, 78, 79, 80, 94, 97] V V16 → rgd bM V16 → va_P D vwCl (mw ad kk ks.1 V16 L) H → va_D A (mw ad kk ks.1 V16 L) → va_S A s.heap H locs → lv_has ls 11 [(7, .int y14), (6, .int z10), (5, .int y15), (0, .ref (ad 0)), (1, .int p0), (2, .int p1), (3, .int p2), (4, .int p3)] → W p l e (rK2 (4 * d1 + 40 * d2 + 13) (100 * d1 + 1000 * d2 + 500)) s m ([.ref (ad 0), .int p0, .int p1, .int p2, .int p3] : List Value).toArray below meth c H locs 0 0 (MQ below (q_s_inside D ks ad kk V L p0 p1 p2 p3 A) ([.ref (ad 0), .int p0, .int p1, .int p2, .int p3] : List Value).toArray s 0 0 A) (F0 m 16 ls []) := by
    intro fulp17
    induction fulp17 with
    | zero =>
      intro y14 y15 V16 H locs ls klp17_0 xlp17_0 xlp17_1 xlp17_2 xlp17_3 xlp17_4 xlp17_5 xlp17_6 xlp17_7 xlp17_8 xlp17_9 xlp17_10 xlp17_11 xlp17_12 hn ajV16 hMV16 hP hD hS hl
      exfalso; omega
    | succ fulp17 ihlp17 =>
      intro y14 y15 V16 H locs ls klp17_0 xlp17_0 xlp17_1 xlp17_2 xlp17_3 xlp17_4 xlp17_5 xlp17_6 xlp17_7 xlp17_8 xlp17_9 xlp17_10 xlp17_11 xlp17_12 hn ajV16 hMV16 hP hD hS hl
      have agV16 : agr [(0, 60), (0, 65), (0, 68), (0, 69), (0, 73), (0, 76), (0, 90), (0, 91), (0, 92), (0, 93), (0, 95), (0, 96), (0, 98)] [59, 61, 62, 63, 64, 66, 67, 74, 75, 77, 78, 79, 80, 94, 97] V V16 := agV.tr ajV16 (by decide) (by decide)
      have r18 : 0 ≤ ((V16 0 98)).toInt ∧ ((V16 0 98)).toInt ≤ 20000 := hMV16 0 98
      have r19 : 0 ≤ ((V16 0 93)).toInt ∧ ((V16 0 93)).toInt ≤ 10 := hMV16 0 93
      have r20 : 0 ≤ ((V16 0 60)).toInt ∧ ((V16 0 60)).toInt ≤ 300 := hMV16 0 60
      have r21 : 0 ≤ ((V16 0 65)).toInt ∧ ((V16 0 65)).toInt ≤ 1000000 := hMV16 0 65
      have r22 : 0 ≤ ((V16 0 73)).toInt ∧ ((V16 0 73)).toInt ≤ 1000000 := hMV16 0 73
      have r23 : 0 ≤ ((V16 0 95)).toInt ∧ ((V16 0 95)).toInt ≤ 300 := hMV16 0 95
      have r24 : 0 ≤ ((V16 0 69)).toInt ∧ ((V16 0 69)).toInt ≤ 3000 := hMV16 0 69
      have r25 : 0 ≤ ((V16 0 76)).toInt ∧ ((V16 0 76)).toInt ≤ 2000000000 := hMV16 0 76
      refine lv_iload hx hb dX12_inside_16 (lv_at hl 0 rfl) ?_
      refine lv_iload hx hb dX12_inside_18 (lv_at hl 1 rfl) ?_
      refine lv_icmp_ge (tgt := 89) hx hb dX12_inside_20 (by decide) (fun c26 => ?_) (fun c26 => ?_)
      · skip
        have f27 : z10.toInt ≤ y14.toInt := b_le rfl rfl c26
        refine lv_aload_n hx hb dX12_inside_89 rfl (lv_at hl 3 rfl) ?_
        refine va_get (D := D) (ci := 12) (v := .ref (ad 34)) (C := RX12) (T := TX12) (N := 100) hx hb hg inX12 hown hK hP 0 rfl rfl 34 (by decide) (hg _ w1744) (fun _ h9 => h9) rfl dX12_inside_90 ?_
        refine lv_bipush (v := 20) hx hb dX12_inside_93 (by decide) ?_
        refine lv_bipush (v := 24) hx hb dX12_inside_95 (by decide) ?_
        refine lv_aload_n hx hb dX12_inside_97 rfl (lv_at hl 3 rfl) ?_
        refine va_get (D := D) (ci := 12) (v := .int (V16 0 11)) (C := RX12) (T := TX12) (N := 100) hx hb hg inX12 hown hK hP 0 rfl rfl 11 (by decide) (hg _ w1721) (fun _ h9 => h9) rfl dX12_inside_98 ?_
        refine g_top (v := (V 0 11)) (ajV16 0 11 rfl) ?_
        have r28 : 0 ≤ ((V 0 11)).toInt ∧ ((V 0 11)).toInt ≤ 1 := hMV 0 11
        refine lv_imul hx hb dX12_inside_101 ?_
        refine lv_topi (fun z29 ez29 => ?_)
        have hz29 : z29.toInt = 24 * ((V 0 11)).toInt := i_mul ez29 (by decide) rfl (by omega)
        refine lv_aload_n hx hb dX12_inside_102 rfl (lv_at hl 3 rfl) ?_
        refine va_get (D := D) (ci := 12) (v := .ref (ad 61)) (C := RX12) (T := TX12) (N := 100) hx hb hg inX12 hown hK hP 0 rfl rfl 61 (by decide) (hg _ w1771) (fun _ h9 => h9) rfl dX12_inside_103 ?_
        refine lv_iload_n hx hb dX12_inside_106 rfl (lv_at hl 4 rfl) ?_
        refine va_iald (D := D) (i := p0) hx hb hK hP 46 45 rfl rfl (i_in (a := p0.toInt) rfl (by first | omega | ((try (have i_rt := Imp.go rt (by omega))); omega))) dX12_inside_107 ?_
        have r30 : 0 ≤ ((V16 61 (Int32.toNatClampNeg p0))).toInt ∧ ((V16 61 (Int32.toNatClampNeg p0))).toInt ≤ 23 := hMV16 61 (Int32.toNatClampNeg p0)
        refine lv_iadd hx hb dX12_inside_108 ?_
        refine lv_topi (fun z31 ez31 => ?_)
        have hz31 : z31.toInt = z29.toInt + ((V16 61 (Int32.toNatClampNeg p0))).toInt := i_add ez31 rfl rfl (by omega)
        refine lv_imul hx hb dX12_inside_109 ?_
        refine lv_topi (fun z32 ez32 => ?_)
        have hz32 : z32.toInt = 20 * z31.toInt := i_mul ez32 (by decide) rfl (by omega)
        refine lv_iload_n hx hb dX12_inside_110 rfl (lv_at hl 5 rfl) ?_
        refine lv_iadd hx hb dX12_inside_111 ?_
        refine lv_topi (fun z33 ez33 => ?_)
        have hz33 : z33.toInt = z32.toInt + p1.toInt := i_add ez33 rfl rfl (by omega)
        have ko := i_clamp (x := p0) rfl (by omega)
        have kn : (nwh V16 : Int) = (V16 0 11).toInt := i_clamp (x := V16 0 11) rfl (by have h9 : 0 ≤ (V16 0 11).toInt ∧ (V16 0 11).toInt ≤ 1 := hMV16 0 11; omega)
        have hO := xlp17_11.2.2.1 (Int32.toNatClampNeg p0) (by omega)
        have cok := TB.compE xlp17_11.1 hO
        have r61 : 0 ≤ (V16 61 (Int32.toNatClampNeg p0)).toInt ∧ (V16 61 (Int32.toNatClampNeg p0)).toInt ≤ 23 := hMV16 61 _
        have k61 := i_clamp (x := V16 61 (Int32.toNatClampNeg p0)) rfl r61.1
        have nb : (nwh V16 : Int) ≤ 1 := by have h9 : 0 ≤ (V16 0 11).toInt ∧ (V16 0 11).toInt ≤ 1 := hMV16 0 11; omega
        have km := i_clamp (x := p1) rfl (by omega)
        have pq34 : (V16 0 11).toInt = ((V 0 11)).toInt := congrArg Int32.toInt (ajV16 0 11 rfl)
        have kz : Int32.toNatClampNeg z33 = 20 * (24 * nwh V16 + Int32.toNatClampNeg (V16 61 (Int32.toNatClampNeg p0))) + Int32.toNatClampNeg p1 := by have h9 := i_clamp (x := z33) rfl (by omega); omega
        have cem := cok.2.2.1 (Int32.toNatClampNeg p1) (by omega)
        rw [← kz] at cem
        refine va_iald (D := D) (i := z33) hx hb hK hP 27 26 rfl rfl (i_in (a := z33.toInt) rfl (by first | omega | ((try (have i_rt := Imp.go rt (by omega))); omega))) dX12_inside_112 ?_
        refine g_top (v := (V 34 (Int32.toNatClampNeg z33))) (ajV16 34 (Int32.toNatClampNeg z33) rfl) ?_
        refine lv_istore (lv' := [(7, .int (V 34 (Int32.toNatClampNeg z33))), (6, .int z10), (5, .int y15), (0, .ref (ad 0)), (1, .int p0), (2, .int p1), (3, .int p2), (4, .int p3)]) hx hb dX12_inside_113 hl (by decide) rfl (fun ls hl => ?_)
        refine lv_iload hx hb dX12_inside_115 (lv_at hl 0 rfl) ?_
        refine lv_if_ge (tgt := 127) hx hb dX12_inside_117 (by decide) (fun c35 => ?_) (fun c35 => ?_)
        · skip
          have f36 : 0 ≤ ((V 34 (Int32.toNatClampNeg z33))).toInt := b_le (by decide) rfl c35
          have q34 : V16 34 (Int32.toNatClampNeg z33) = V 34 (Int32.toNatClampNeg z33) := (show agr [(0, 60), (0, 65), (0, 68), (0, 69), (0, 73), (0, 76), (0, 90), (0, 91), (0, 92), (0, 93), (0, 95), (0, 96), (0, 98)] [59, 61, 62, 63, 64, 66, 67, 74, 75, 77, 78, 79, 80, 94, 97] V V16 from (agr.tr agr.rf ajV16 (by decide) (by decide))) 34 _ rfl
          rw [q34] at cem
          have ce2 := cem (by omega)
          have cl := ce2.lt
          refine lv_aload_n hx hb dX12_inside_127 rfl (lv_at hl 3 rfl) ?_
          refine lv_iconst (v := 4) hx hb dX12_inside_128 (by decide) ?_
          refine lv_iload_n hx hb dX12_inside_129 rfl (lv_at hl 4 rfl) ?_
          refine lv_iload hx hb dX12_inside_130 (lv_at hl 2 rfl) ?_
          have r37 : Int32.toInt 4 = 4 := by decide
          refine gA_void (gA_runV (As := [.int 4, .int p0, .int y15]) (rest := []) (ci := 12) (q0 := 0) hx hb hml hown hg hP hD hK hS hA hnw hgk (s_notes2 l D ks H.size ad kk V16 L 4 p0 y15 hMV16 (show (V16 0 76).toInt ≤ 1999999999 from by first | omega | ((try (have i_rt := Imp.go rt (by omega))); omega))) w2304 w2306 w144 w172 w2307 rfl rfl hdV_yX12_notes ⟨(by show (0) + 1 ≤ (4 * d1 + 40 * d2 + 13); omega), (by show 8 + (4 + 11) + (0) ≤ (100 * d1 + 1000 * d2 + 500); omega)⟩ rfl hl.1 rfl (Nat.le_of_ble_eq_true rfl) dX12_inside_132 ⟨Nat.le_of_ble_eq_true rfl, Nat.le_of_ble_eq_true rfl⟩) hP hD hK hS hA (fun u39 H locs w40 hP hD hK hS => ?_)
          obtain ⟨V42, L43⟩ := u39
          obtain ⟨hMV42, ajV42, axL43, t41⟩ := w40
          have axL43 : L = L43 := Eq.symm axL43
          subst axL43
          have hP : va_P D vwCl (mw ad kk ks.1 V42 L) H := hP
          have hD : va_D A (mw ad kk ks.1 V42 L) := hD
          have hMV42 : rgd bM V42 := hMV42
          have ajV42 : agr [(0, 76)] [77, 78, 79] V16 V42 := ajV42
          have agV42 : agr [(0, 60), (0, 65), (0, 68), (0, 69), (0, 73), (0, 76), (0, 90), (0, 91), (0, 92), (0, 93), (0, 95), (0, 96), (0, 98)] [59, 61, 62, 63, 64, 66, 67, 74, 75, 77, 78, 79, 80, 94, 97] V V42 := agV16.tr ajV42 (by decide) (by decide)
          have t41 : (V42 0 76).toInt = (V16 0 76).toInt + 1 := t41
          have r44 : 0 ≤ ((V42 0 76)).toInt ∧ ((V42 0 76)).toInt ≤ 2000000000 := hMV42 0 76
          refine lv_aload_n hx hb dX12_inside_135 rfl (lv_at hl 3 rfl) ?_
          refine lv_iload hx hb dX12_inside_136 (lv_at hl 0 rfl) ?_
          refine lv_iload_n hx hb dX12_inside_138 rfl (lv_at hl 4 rfl) ?_
          refine lv_iload_n hx hb dX12_inside_139 rfl (lv_at hl 6 rfl) ?_
          refine lv_iload hx hb dX12_inside_140 (lv_at hl 2 rfl) ?_
          refine lv_iconst (v := (-1)) hx hb dX12_inside_142 (by decide) ?_
          have r45 : Int32.toInt (-1) = (-1) := by decide
          have pq46 : (V42 0 65).toInt = ((V16 0 65)).toInt := congrArg Int32.toInt (ajV42 0 65 rfl)
          have pq47 : (V42 0 60).toInt = ((V16 0 60)).toInt := congrArg Int32.toInt (ajV42 0 60 rfl)
          have pq48 : (V42 0 95).toInt = ((V16 0 95)).toInt := congrArg Int32.toInt (ajV42 0 95 rfl)
          have pq49 : (V42 0 73).toInt = ((V16 0 73)).toInt := congrArg Int32.toInt (ajV42 0 73 rfl)
          have pq50 : (V42 0 69).toInt = ((V16 0 69)).toInt := congrArg Int32.toInt (ajV42 0 69 rfl)
          have pq51 : (V42 0 93).toInt = ((V16 0 93)).toInt := congrArg Int32.toInt (ajV42 0 93 rfl)
          have pq52 : (V42 0 98).toInt = ((V16 0 98)).toInt := congrArg Int32.toInt (ajV42 0 98 rfl)
          have rt53 : RT V42 := RT.ag xlp17_11 hMV16 (show agr [(0, 76)] [77, 78, 79] V16 V42 from (agr.tr agr.rf ajV42 (by decide) (by decide))) ⟨⟨rfl, fun _ => rfl, fun _ => rfl, fun _ => rfl, fun _ => rfl, fun _ => rfl, fun _ => rfl⟩, by decide, by decide, rfl, rfl, fun _ => rfl, fun _ => rfl, fun _ => rfl, fun _ => rfl, fun _ => rfl, fun _ => rfl⟩ (c0k.ag (show agr [(0, 76)] [77, 78, 79] V16 V42 from (agr.tr agr.rf ajV42 (by decide) (by decide))) rfl)
          refine gA_int (gA_runV (As := [.int (V 34 (Int32.toNatClampNeg z33)), .int p0, .int p2, .int y15, .int (-1)]) (rest := []) (ci := 12) (q0 := 0) hx hb hml hown hg hP hD hK hS hA hnw hgk (hk_s_works H.size ad kk V42 L (V 34 (Int32.toNatClampNeg z33)) p0 p2 y15 (-1) ((V16 27 (24 * nwh V16 + Int32.toNatClampNeg (V16 61 (Int32.toNatClampNeg p0)))).toInt) (10000 * nwh V16) (10000 * nwh V16 + 10000) hMV42 (by first | omega | ((try (have i_rt := Imp.go rt (by omega))); omega)) (by first | omega | ((try (have i_rt := Imp.go rt (by omega))); omega)) (by first | omega | ((try (have i_rt := Imp.go rt (by omega))); omega)) rt53 (show (V42 0 65).toInt ≤ (V42 0 60).toInt from by first | omega | ((try (have i_rt := Imp.go rt (by omega))); omega)) (show (V42 0 95).toInt ≤ (V42 0 65).toInt from by first | omega | ((try (have i_rt := Imp.go rt (by omega))); omega)) (show (V42 0 73).toInt + (V42 0 95).toInt - (V42 0 65).toInt ≤ 999000 from by first | omega | ((try (have i_rt := Imp.go rt (by omega))); omega)) (show (V42 0 76).toInt - (V42 0 69).toInt - (V42 0 73).toInt ≤ 1000000001 from by first | omega | ((try (have i_rt := Imp.go rt (by omega))); omega)) (show 300 - (V42 0 60).toInt ≤ ((d1 : Nat) : Int) from by first | omega | ((try (have i_rt := Imp.go rt (by omega))); omega)) (show 10 - (V42 0 93).toInt ≤ ((d2 : Nat) : Int) from by first | omega | ((try (have i_rt := Imp.go rt (by omega))); omega)) (show p0.toInt < (V42 0 60).toInt from by first | omega | ((try (have i_rt := Imp.go rt (by omega))); omega)) (show (V42 0 98).toInt + 400 * ((d2 : Nat) : Int) + 30 ≤ 19000 from by first | omega | ((try (have i_rt := Imp.go rt (by omega))); omega)) (CE.same ce2 (Int.le_refl _) (Nat.le_refl _) (fun i _ _ => ⟨(show agr [(0, 76)] [77, 78, 79] V16 V42 from (agr.tr agr.rf ajV42 (by decide) (by decide))) 45 _ rfl, (show agr [(0, 76)] [77, 78, 79] V16 V42 from (agr.tr agr.rf ajV42 (by decide) (by decide))) 46 _ rfl, (show agr [(0, 76)] [77, 78, 79] V16 V42 from (agr.tr agr.rf ajV42 (by decide) (by decide))) 47 _ rfl⟩)) (show ((10000 * nwh V16 + 10000) : Int) ≤ 20000 from by first | omega | ((try (have i_rt := Imp.go rt (by omega))); omega)) (Int.le_of_eq (by rw [(nwh_ag (show agr [(0, 76)] [77, 78, 79] V16 V42 from (agr.tr agr.rf ajV42 (by decide) (by decide))) ⟨rfl, fun _ => rfl, fun _ => rfl, fun _ => rfl, fun _ => rfl, fun _ => rfl, fun _ => rfl⟩).1, (show agr [(0, 76)] [77, 78, 79] V16 V42 from (agr.tr agr.rf ajV42 (by decide) (by decide))) 61 _ rfl, (show agr [(0, 76)] [77, 78, 79] V16 V42 from (agr.tr agr.rf ajV42 (by decide) (by decide))) 27 _ rfl]))) w2272 w2274 w136 w172 w2275 rfl rfl hdV_yX12_works ⟨(by show (4 * (d1) + 40 * (d2) + 12) + 1 ≤ (4 * d1 + 40 * d2 + 13); omega), (by show 8 + (6 + 11) + (100 * (d1) + 1000 * (d2) + 460) ≤ (100 * d1 + 1000 * d2 + 500); omega)⟩ rfl hl.1 rfl (Nat.le_of_ble_eq_true rfl) dX12_inside_143 ⟨Nat.le_of_ble_eq_true rfl, Nat.le_of_ble_eq_true rfl⟩) hP hD hK hS hA (fun z54 u55 H locs w56 hP hD hK hS => ?_)
          obtain ⟨V70, L71⟩ := u55
          obtain ⟨hMV70, ajV70, axL71, rgz54, t57, t58, t59, t60, t61, t62, t63, t64, t65, t66, t67, t68, t69⟩ := w56
          have axL71 : L = L71 := Eq.symm axL71
          subst axL71
          have hP : va_P D vwCl (mw ad kk ks.1 V70 L) H := hP
          have hD : va_D A (mw ad kk ks.1 V70 L) := hD
          have hMV70 : rgd bM V70 := hMV70
          have ajV70 : agr [(0, 60), (0, 65), (0, 68), (0, 69), (0, 73), (0, 76), (0, 90), (0, 91), (0, 92), (0, 93), (0, 95), (0, 96), (0, 98)] [59, 61, 62, 63, 64, 66, 67, 74, 75, 77, 78, 79, 80, 94, 97] V42 V70 := ajV70
          have agV70 : agr [(0, 60), (0, 65), (0, 68), (0, 69), (0, 73), (0, 76), (0, 90), (0, 91), (0, 92), (0, 93), (0, 95), (0, 96), (0, 98)] [59, 61, 62, 63, 64, 66, 67, 74, 75, 77, 78, 79, 80, 94, 97] V V70 := agV42.tr ajV70 (by decide) (by decide)
          have rgz54 : 0 ≤ z54.toInt ∧ z54.toInt ≤ 2 := rgz54
          have t57 : (V70 0 93).toInt = (V42 0 93).toInt := t57
          have t58 : (V70 0 98).toInt = (V42 0 98).toInt := t58
          have t59 : (V42 0 60).toInt ≤ (V70 0 60).toInt := t59
          have t60 : (V42 0 65).toInt ≤ (V70 0 65).toInt := t60
          have t61 : (V70 0 65).toInt - (V42 0 65).toInt ≤ (V70 0 60).toInt - (V42 0 60).toInt := t61
          have t62 : (V70 0 73).toInt + (V70 0 95).toInt - (V70 0 65).toInt ≤ (V42 0 73).toInt + (V42 0 95).toInt - (V42 0 65).toInt := t62
          have t63 : (V42 0 73).toInt ≤ (V70 0 73).toInt := t63
          have t64 : (V42 0 69).toInt ≤ (V70 0 69).toInt := t64
          have t65 : (V70 0 95).toInt = (V42 0 95).toInt := t65
          have t66 : (V70 0 76).toInt - (V70 0 69).toInt - (V70 0 73).toInt ≤ (V42 0 76).toInt - (V42 0 69).toInt - (V42 0 73).toInt := t66
          have t67 : Imp (z54.toInt ≠ 2) ((V70 0 76).toInt - (V70 0 69).toInt - (V70 0 73).toInt + 1 ≤ (V42 0 76).toInt - (V42 0 69).toInt - (V42 0 73).toInt) := t67
          have t68 : RT V70 := t68
          have t69 : FRM V42 V70 (-1) := t69
          have r72 : 0 ≤ ((V70 0 93)).toInt ∧ ((V70 0 93)).toInt ≤ 10 := hMV70 0 93
          have r73 : 0 ≤ ((V70 0 98)).toInt ∧ ((V70 0 98)).toInt ≤ 20000 := hMV70 0 98
          have r74 : 0 ≤ ((V70 0 60)).toInt ∧ ((V70 0 60)).toInt ≤ 300 := hMV70 0 60
          have r75 : 0 ≤ ((V70 0 65)).toInt ∧ ((V70 0 65)).toInt ≤ 1000000 := hMV70 0 65
          have r76 : 0 ≤ ((V70 0 73)).toInt ∧ ((V70 0 73)).toInt ≤ 1000000 := hMV70 0 73
          have r77 : 0 ≤ ((V70 0 95)).toInt ∧ ((V70 0 95)).toInt ≤ 300 := hMV70 0 95
          have r78 : 0 ≤ ((V70 0 69)).toInt ∧ ((V70 0 69)).toInt ≤ 3000 := hMV70 0 69
          have r79 : 0 ≤ ((V70 0 76)).toInt ∧ ((V70 0 76)).toInt ≤ 2000000000 := hMV70 0 76
          refine lv_istore (lv' := [(8, .int z54), (7, .int (V 34 (Int32.toNatClampNeg z33))), (6, .int z10), (5, .int y15), (0, .ref (ad 0)), (1, .int p0), (2, .int p1), (3, .int p2), (4, .int p3)]) hx hb dX12_inside_146 hl (by decide) rfl (fun ls hl => ?_)
          refine lv_aload_n hx hb dX12_inside_148 rfl (lv_at hl 4 rfl) ?_
          refine lv_iload_n hx hb dX12_inside_149 rfl (lv_at hl 5 rfl) ?_
          refine lv_iload_n hx hb dX12_inside_150 rfl (lv_at hl 6 rfl) ?_
          refine lv_iconst (v := 2) hx hb dX12_inside_151 (by decide) ?_
          have r80 : Int32.toInt 2 = 2 := by decide
          refine gA_int (gA_runV (As := [.int p0, .int p1, .int 2]) (rest := []) (ci := 12) (q0 := 0) hx hb hml hown hg hP hD hK hS hA hnw hgk (s_wrapsOf2 l D ks H.size ad kk V70 L p0 p1 2 hMV70 (by first | omega | ((try (have i_t67 := Imp.go t67 (by omega))); (try (have i_rt := Imp.go rt (by omega))); (try (have i_rt := Imp.go rt (by omega))); (try (have i_t67 := Imp.go t67 (by omega))); omega)) (t68).1) w2300 w2302 w143 w172 w2303 rfl rfl hdV_yX12_wrapsOf ⟨(by show (1) + 1 ≤ (4 * d1 + 40 * d2 + 13); omega), (by show 8 + (6 + 11) + (25) ≤ (100 * d1 + 1000 * d2 + 500); omega)⟩ rfl hl.1 rfl (Nat.le_of_ble_eq_true rfl) dX12_inside_152 ⟨Nat.le_of_ble_eq_true rfl, Nat.le_of_ble_eq_true rfl⟩) hP hD hK hS hA (fun z81 u82 H locs w83 hP hD hK hS => ?_)
          obtain ⟨rgz81, t84⟩ := w83
          have rgz81 : 0 ≤ z81.toInt ∧ z81.toInt ≤ 12 := rgz81
          have t84 : z81.toInt = ((wcn (isWb V70 p0 p1 2) (wmany V70) : Nat) : Int) := t84
          have fm85 : FRM V V42 (-1) := (FRM.tr xlp17_12 (FRM.ag (show agr [(0, 76)] [77, 78, 79] V16 V42 from (agr.tr agr.rf ajV42 (by decide) (by decide))) ⟨⟨rfl, fun _ => rfl, fun _ => rfl, fun _ => rfl, fun _ => rfl, fun _ => rfl, fun _ => rfl⟩, by decide, by decide, rfl, rfl, fun _ => rfl, fun _ => rfl, fun _ => rfl, fun _ => rfl, fun _ => rfl, fun _ => rfl⟩) agV16 ⟨rfl, fun _ => rfl, fun _ => rfl, fun _ => rfl, fun _ => rfl, fun _ => rfl, fun _ => rfl⟩ (by omega))
          have fm86 : FRM V V70 (-1) := (FRM.tr fm85 t69 agV42 ⟨rfl, fun _ => rfl, fun _ => rfl, fun _ => rfl, fun _ => rfl, fun _ => rfl, fun _ => rfl⟩ (by omega))
          refine lv_istore (lv' := [(6, .int z81), (8, .int z54), (7, .int (V 34 (Int32.toNatClampNeg z33))), (5, .int y15), (0, .ref (ad 0)), (1, .int p0), (2, .int p1), (3, .int p2), (4, .int p3)]) hx hb dX12_inside_155 hl (by decide) rfl (fun ls hl => ?_)
          refine lv_iload hx hb dX12_inside_157 (lv_at hl 0 rfl) ?_
          refine lv_iconst (v := 1) hx hb dX12_inside_159 (by decide) ?_
          refine lv_isub hx hb dX12_inside_160 ?_
          refine lv_topi (fun z87 ez87 => ?_)
          have hz87 : z87.toInt = z81.toInt - 1 := i_sub ez87 rfl (by decide) (by omega)
          refine lv_istore (lv' := [(9, .int z87), (6, .int z81), (8, .int z54), (7, .int (V 34 (Int32.toNatClampNeg z33))), (5, .int y15), (0, .ref (ad 0)), (1, .int p0), (2, .int p1), (3, .int p2), (4, .int p3)]) hx hb dX12_inside_161 hl (by decide) rfl (fun ls hl => ?_)
          have lp92 : ∀ (fulp92 : Nat) (y88 : Int32) (y89 : Int32) (y90 : Int32) (V91 : Vf) (H : Heap) (locs : List Loc) (ls : Array Slot), (-1) ≤ y88.toInt ∧ y88.toInt ≤ 11 → 0 ≤ y89.toInt ∧ y89.toInt ≤ 2 → (V91 0 98).toInt = (V 0 98).toInt → (V91 0 93).toInt = (V 0 93).toInt → (V 0 60).toInt ≤ (V91 0 60).toInt → (V 0 65).toInt ≤ (V91 0 65).toInt → (V91 0 65).toInt - (V 0 65).toInt ≤ (V91 0 60).toInt - (V 0 60).toInt → (V91 0 73).toInt + (V91 0 95).toInt - (V91 0 65).toInt ≤ (V 0 73).toInt + (V 0 95).toInt - (V 0 65).toInt → (V 0 73).toInt ≤ (V91 0 73).toInt → (V 0 69).toInt ≤ (V91 0 69).toInt → (V91 0 95).toInt = (V 0 95).toInt → (V91 0 76).toInt - (V91 0 69).toInt - (V91 0 73).toInt ≤ (V 0 76).toInt - (V 0 69).toInt - (V 0 73).toInt + 1 → Imp (y89.toInt ≠ 2) ((V91 0 76).toInt - (V91 0 69).toInt - (V91 0 73).toInt ≤ (V 0 76).toInt - (V 0 69).toInt - (V 0 73).toInt) → y88.toInt ≤ z81.toInt - 1 → RT V91 → FRM V V91 (-1) → y88.toInt + 1 < (fulp92 : Int) → agr [(0, 60), (0, 65), (0, 68), (0, 69), (0, 73), (0, 76), (0, 90), (0, 91), (0, 92), (0, 93), (0, 95), (0, 96), (0, 98)] [59, 61, 62, 63, 64, 66, 67, 74, 75, 77, 78, 79, 80, 94, 97] V70 V91 → rgd bM V91 → va_P D vwCl (mw ad kk ks.1 V91 L) H → va_D A (mw ad kk ks.1 V91 L) → va_S A s.heap H locs → lv_has ls 11 [(9, .int y88), (6, .int z81), (8, .int y89), (7, .int (V 34 (Int32.toNatClampNeg z33))), (5, .int y90), (0, .ref (ad 0)), (1, .int p0), (2, .int p1), (3, .int p2), (4, .int p3)] → W p l e (rK2 (4 * d1 + 40 * d2 + 13) (100 * d1 + 1000 * d2 + 500)) s m ([.ref (ad 0), .int p0, .int p1, .int p2, .int p3] : List Value).toArray below meth c H locs 0 0 (MQ below (q_s_inside D ks ad kk V L p0 p1 p2 p3 A) ([.ref (ad 0), .int p0, .int p1, .int p2, .int p3] : List Value).toArray s 0 0 A) (F0 m 163 ls []) := by
            intro fulp92
            induction fulp92 with
            | zero =>
              intro y88 y89 y90 V91 H locs ls klp92_0 klp92_1 xlp92_0 xlp92_1 xlp92_2 xlp92_3 xlp92_4 xlp92_5 xlp92_6 xlp92_7 xlp92_8 xlp92_9 xlp92_10 xlp92_11 xlp92_12 xlp92_13 hn ajV91 hMV91 hP hD hS hl
              exfalso; omega
            | succ fulp92 ihlp92 =>
              intro y88 y89 y90 V91 H locs ls klp92_0 klp92_1 xlp92_0 xlp92_1 xlp92_2 xlp92_3 xlp92_4 xlp92_5 xlp92_6 xlp92_7 xlp92_8 xlp92_9 xlp92_10 xlp92_11 xlp92_12 xlp92_13 hn ajV91 hMV91 hP hD hS hl
              have agV91 : agr [(0, 60), (0, 65), (0, 68), (0, 69), (0, 73), (0, 76), (0, 90), (0, 91), (0, 92), (0, 93), (0, 95), (0, 96), (0, 98)] [59, 61, 62, 63, 64, 66, 67, 74, 75, 77, 78, 79, 80, 94, 97] V V91 := agV70.tr ajV91 (by decide) (by decide)
              have r93 : 0 ≤ ((V91 0 98)).toInt ∧ ((V91 0 98)).toInt ≤ 20000 := hMV91 0 98
              have r94 : 0 ≤ ((V91 0 93)).toInt ∧ ((V91 0 93)).toInt ≤ 10 := hMV91 0 93
              have r95 : 0 ≤ ((V91 0 60)).toInt ∧ ((V91 0 60)).toInt ≤ 300 := hMV91 0 60
              have r96 : 0 ≤ ((V91 0 65)).toInt ∧ ((V91 0 65)).toInt ≤ 1000000 := hMV91 0 65
              have r97 : 0 ≤ ((V91 0 73)).toInt ∧ ((V91 0 73)).toInt ≤ 1000000 := hMV91 0 73
              have r98 : 0 ≤ ((V91 0 95)).toInt ∧ ((V91 0 95)).toInt ≤ 300 := hMV91 0 95
              have r99 : 0 ≤ ((V91 0 69)).toInt ∧ ((V91 0 69)).toInt ≤ 3000 := hMV91 0 69
              have r100 : 0 ≤ ((V91 0 76)).toInt ∧ ((V91 0 76)).toInt ≤ 2000000000 := hMV91 0 76
              refine lv_iload hx hb dX12_inside_163 (lv_at hl 0 rfl) ?_
              refine lv_if_lt (tgt := 231) hx hb dX12_inside_165 (by decide) (fun c101 => ?_) (fun c101 => ?_)
              · skip
                have f102 : y88.toInt < 0 := b_lt rfl (by decide) c101
                refine lv_iload hx hb dX12_inside_231 (lv_at hl 2 rfl) ?_
                exact W.iret (v := y89) hx hb hr (fun t ht hW => ⟨⟨y89, (V91, L), rfl, ⟨hMV91, agV91, rfl, (show 0 ≤ y89.toInt ∧ y89.toInt ≤ 2 from by first | omega | ((try (have i_xlp92_10 := Imp.go xlp92_10 (by omega))); (try (have i_t67 := Imp.go t67 (by omega))); (try (have i_rt := Imp.go rt (by omega))); (try (have i_rt := Imp.go rt (by omega))); (try (have i_t67 := Imp.go t67 (by omega))); (try (have i_xlp92_10 := Imp.go xlp92_10 (by omega))); omega)), (show (V91 0 93).toInt = (V 0 93).toInt from by first | omega | ((try (have i_xlp92_10 := Imp.go xlp92_10 (by omega))); (try (have i_t67 := Imp.go t67 (by omega))); (try (have i_rt := Imp.go rt (by omega))); (try (have i_rt := Imp.go rt (by omega))); (try (have i_t67 := Imp.go t67 (by omega))); (try (have i_xlp92_10 := Imp.go xlp92_10 (by omega))); omega)), (show (V91 0 98).toInt = (V 0 98).toInt from by first | omega | ((try (have i_xlp92_10 := Imp.go xlp92_10 (by omega))); (try (have i_t67 := Imp.go t67 (by omega))); (try (have i_rt := Imp.go rt (by omega))); (try (have i_rt := Imp.go rt (by omega))); (try (have i_t67 := Imp.go t67 (by omega))); (try (have i_xlp92_10 := Imp.go xlp92_10 (by omega))); omega)), (show (V 0 60).toInt ≤ (V91 0 60).toInt from by first | omega | ((try (have i_xlp92_10 := Imp.go xlp92_10 (by omega))); (try (have i_t67 := Imp.go t67 (by omega))); (try (have i_rt := Imp.go rt (by omega))); (try (have i_rt := Imp.go rt (by omega))); (try (have i_t67 := Imp.go t67 (by omega))); (try (have i_xlp92_10 := Imp.go xlp92_10 (by omega))); omega)), (show (V 0 65).toInt ≤ (V91 0 65).toInt from by first | omega | ((try (have i_xlp92_10 := Imp.go xlp92_10 (by omega))); (try (have i_t67 := Imp.go t67 (by omega))); (try (have i_rt := Imp.go rt (by omega))); (try (have i_rt := Imp.go rt (by omega))); (try (have i_t67 := Imp.go t67 (by omega))); (try (have i_xlp92_10 := Imp.go xlp92_10 (by omega))); omega)), (show (V91 0 65).toInt - (V 0 65).toInt ≤ (V91 0 60).toInt - (V 0 60).toInt from by first | omega | ((try (have i_xlp92_10 := Imp.go xlp92_10 (by omega))); (try (have i_t67 := Imp.go t67 (by omega))); (try (have i_rt := Imp.go rt (by omega))); (try (have i_rt := Imp.go rt (by omega))); (try (have i_t67 := Imp.go t67 (by omega))); (try (have i_xlp92_10 := Imp.go xlp92_10 (by omega))); omega)), (show (V91 0 73).toInt + (V91 0 95).toInt - (V91 0 65).toInt ≤ (V 0 73).toInt + (V 0 95).toInt - (V 0 65).toInt from by first | omega | ((try (have i_xlp92_10 := Imp.go xlp92_10 (by omega))); (try (have i_t67 := Imp.go t67 (by omega))); (try (have i_rt := Imp.go rt (by omega))); (try (have i_rt := Imp.go rt (by omega))); (try (have i_t67 := Imp.go t67 (by omega))); (try (have i_xlp92_10 := Imp.go xlp92_10 (by omega))); omega)), (show (V 0 73).toInt ≤ (V91 0 73).toInt from by first | omega | ((try (have i_xlp92_10 := Imp.go xlp92_10 (by omega))); (try (have i_t67 := Imp.go t67 (by omega))); (try (have i_rt := Imp.go rt (by omega))); (try (have i_rt := Imp.go rt (by omega))); (try (have i_t67 := Imp.go t67 (by omega))); (try (have i_xlp92_10 := Imp.go xlp92_10 (by omega))); omega)), (show (V 0 69).toInt ≤ (V91 0 69).toInt from by first | omega | ((try (have i_xlp92_10 := Imp.go xlp92_10 (by omega))); (try (have i_t67 := Imp.go t67 (by omega))); (try (have i_rt := Imp.go rt (by omega))); (try (have i_rt := Imp.go rt (by omega))); (try (have i_t67 := Imp.go t67 (by omega))); (try (have i_xlp92_10 := Imp.go xlp92_10 (by omega))); omega)), (show (V91 0 95).toInt = (V 0 95).toInt from by first | omega | ((try (have i_xlp92_10 := Imp.go xlp92_10 (by omega))); (try (have i_t67 := Imp.go t67 (by omega))); (try (have i_rt := Imp.go rt (by omega))); (try (have i_rt := Imp.go rt (by omega))); (try (have i_t67 := Imp.go t67 (by omega))); (try (have i_xlp92_10 := Imp.go xlp92_10 (by omega))); omega)), (show (V91 0 76).toInt - (V91 0 69).toInt - (V91 0 73).toInt ≤ (V 0 76).toInt - (V 0 69).toInt - (V 0 73).toInt + 1 from by first | omega | ((try (have i_xlp92_10 := Imp.go xlp92_10 (by omega))); (try (have i_t67 := Imp.go t67 (by omega))); (try (have i_rt := Imp.go rt (by omega))); (try (have i_rt := Imp.go rt (by omega))); (try (have i_t67 := Imp.go t67 (by omega))); (try (have i_xlp92_10 := Imp.go xlp92_10 (by omega))); omega)), (Imp.mk (fun hp => have hp : y89.toInt ≠ 2 := hp; (show (V91 0 76).toInt - (V91 0 69).toInt - (V91 0 73).toInt ≤ (V 0 76).toInt - (V 0 69).toInt - (V 0 73).toInt from by first | omega | ((try (have i_xlp92_10 := Imp.go xlp92_10 (by omega))); (try (have i_t67 := Imp.go t67 (by omega))); (try (have i_rt := Imp.go rt (by omega))); (try (have i_rt := Imp.go rt (by omega))); (try (have i_t67 := Imp.go t67 (by omega))); (try (have i_xlp92_10 := Imp.go xlp92_10 (by omega))); omega)))), xlp92_12, xlp92_13⟩, by rw [ht]; exact hP, va_K.moved hW.alike hK, hD⟩, hS.F ht⟩) hS.2.2 dX12_inside_233
              · skip
                have f103 : 0 ≤ y88.toInt := b_nlt rfl (by decide) c101
                refine lv_iload hx hb dX12_inside_168 (lv_at hl 2 rfl) ?_
                refine lv_if_ne (tgt := 231) hx hb dX12_inside_170 (by decide) (fun c104 => ?_) (fun c104 => ?_)
                · skip
                  have f105 : y89.toInt ≠ 0 := b_neq rfl (by decide) c104
                  refine lv_iload hx hb dX12_inside_231 (lv_at hl 2 rfl) ?_
                  exact W.iret (v := y89) hx hb hr (fun t ht hW => ⟨⟨y89, (V91, L), rfl, ⟨hMV91, agV91, rfl, (show 0 ≤ y89.toInt ∧ y89.toInt ≤ 2 from by first | omega | ((try (have i_xlp92_10 := Imp.go xlp92_10 (by omega))); (try (have i_t67 := Imp.go t67 (by omega))); (try (have i_rt := Imp.go rt (by omega))); (try (have i_rt := Imp.go rt (by omega))); (try (have i_t67 := Imp.go t67 (by omega))); (try (have i_xlp92_10 := Imp.go xlp92_10 (by omega))); omega)), (show (V91 0 93).toInt = (V 0 93).toInt from by first | omega | ((try (have i_xlp92_10 := Imp.go xlp92_10 (by omega))); (try (have i_t67 := Imp.go t67 (by omega))); (try (have i_rt := Imp.go rt (by omega))); (try (have i_rt := Imp.go rt (by omega))); (try (have i_t67 := Imp.go t67 (by omega))); (try (have i_xlp92_10 := Imp.go xlp92_10 (by omega))); omega)), (show (V91 0 98).toInt = (V 0 98).toInt from by first | omega | ((try (have i_xlp92_10 := Imp.go xlp92_10 (by omega))); (try (have i_t67 := Imp.go t67 (by omega))); (try (have i_rt := Imp.go rt (by omega))); (try (have i_rt := Imp.go rt (by omega))); (try (have i_t67 := Imp.go t67 (by omega))); (try (have i_xlp92_10 := Imp.go xlp92_10 (by omega))); omega)), (show (V 0 60).toInt ≤ (V91 0 60).toInt from by first | omega | ((try (have i_xlp92_10 := Imp.go xlp92_10 (by omega))); (try (have i_t67 := Imp.go t67 (by omega))); (try (have i_rt := Imp.go rt (by omega))); (try (have i_rt := Imp.go rt (by omega))); (try (have i_t67 := Imp.go t67 (by omega))); (try (have i_xlp92_10 := Imp.go xlp92_10 (by omega))); omega)), (show (V 0 65).toInt ≤ (V91 0 65).toInt from by first | omega | ((try (have i_xlp92_10 := Imp.go xlp92_10 (by omega))); (try (have i_t67 := Imp.go t67 (by omega))); (try (have i_rt := Imp.go rt (by omega))); (try (have i_rt := Imp.go rt (by omega))); (try (have i_t67 := Imp.go t67 (by omega))); (try (have i_xlp92_10 := Imp.go xlp92_10 (by omega))); omega)), (show (V91 0 65).toInt - (V 0 65).toInt ≤ (V91 0 60).toInt - (V 0 60).toInt from by first | omega | ((try (have i_xlp92_10 := Imp.go xlp92_10 (by omega))); (try (have i_t67 := Imp.go t67 (by omega))); (try (have i_rt := Imp.go rt (by omega))); (try (have i_rt := Imp.go rt (by omega))); (try (have i_t67 := Imp.go t67 (by omega))); (try (have i_xlp92_10 := Imp.go xlp92_10 (by omega))); omega)), (show (V91 0 73).toInt + (V91 0 95).toInt - (V91 0 65).toInt ≤ (V 0 73).toInt + (V 0 95).toInt - (V 0 65).toInt from by first | omega | ((try (have i_xlp92_10 := Imp.go xlp92_10 (by omega))); (try (have i_t67 := Imp.go t67 (by omega))); (try (have i_rt := Imp.go rt (by omega))); (try (have i_rt := Imp.go rt (by omega))); (try (have i_t67 := Imp.go t67 (by omega))); (try (have i_xlp92_10 := Imp.go xlp92_10 (by omega))); omega)), (show (V 0 73).toInt ≤ (V91 0 73).toInt from by first | omega | ((try (have i_xlp92_10 := Imp.go xlp92_10 (by omega))); (try (have i_t67 := Imp.go t67 (by omega))); (try (have i_rt := Imp.go rt (by omega))); (try (have i_rt := Imp.go rt (by omega))); (try (have i_t67 := Imp.go t67 (by omega))); (try (have i_xlp92_10 := Imp.go xlp92_10 (by omega))); omega)), (show (V 0 69).toInt ≤ (V91 0 69).toInt from by first | omega | ((try (have i_xlp92_10 := Imp.go xlp92_10 (by omega))); (try (have i_t67 := Imp.go t67 (by omega))); (try (have i_rt := Imp.go rt (by omega))); (try (have i_rt := Imp.go rt (by omega))); (try (have i_t67 := Imp.go t67 (by omega))); (try (have i_xlp92_10 := Imp.go xlp92_10 (by omega))); omega)), (show (V91 0 95).toInt = (V 0 95).toInt from by first | omega | ((try (have i_xlp92_10 := Imp.go xlp92_10 (by omega))); (try (have i_t67 := Imp.go t67 (by omega))); (try (have i_rt := Imp.go rt (by omega))); (try (have i_rt := Imp.go rt (by omega))); (try (have i_t67 := Imp.go t67 (by omega))); (try (have i_xlp92_10 := Imp.go xlp92_10 (by omega))); omega)), (show (V91 0 76).toInt - (V91 0 69).toInt - (V91 0 73).toInt ≤ (V 0 76).toInt - (V 0 69).toInt - (V 0 73).toInt + 1 from by first | omega | ((try (have i_xlp92_10 := Imp.go xlp92_10 (by omega))); (try (have i_t67 := Imp.go t67 (by omega))); (try (have i_rt := Imp.go rt (by omega))); (try (have i_rt := Imp.go rt (by omega))); (try (have i_t67 := Imp.go t67 (by omega))); (try (have i_xlp92_10 := Imp.go xlp92_10 (by omega))); omega)), (Imp.mk (fun hp => have hp : y89.toInt ≠ 2 := hp; (show (V91 0 76).toInt - (V91 0 69).toInt - (V91 0 73).toInt ≤ (V 0 76).toInt - (V 0 69).toInt - (V 0 73).toInt from by first | omega | ((try (have i_xlp92_10 := Imp.go xlp92_10 (by omega))); (try (have i_t67 := Imp.go t67 (by omega))); (try (have i_rt := Imp.go rt (by omega))); (try (have i_rt := Imp.go rt (by omega))); (try (have i_t67 := Imp.go t67 (by omega))); (try (have i_xlp92_10 := Imp.go xlp92_10 (by omega))); omega)))), xlp92_12, xlp92_13⟩, by rw [ht]; exact hP, va_K.moved hW.alike hK, hD⟩, hS.F ht⟩) hS.2.2 dX12_inside_233
                · skip
                  have f106 : y89.toInt = 0 := b_eq rfl (by decide) c104
                  refine lv_aload_n hx hb dX12_inside_173 rfl (lv_at hl 5 rfl) ?_
                  refine lv_iload hx hb dX12_inside_174 (lv_at hl 0 rfl) ?_
                  refine lv_iload_n hx hb dX12_inside_176 rfl (lv_at hl 6 rfl) ?_
                  refine lv_iload_n hx hb dX12_inside_177 rfl (lv_at hl 7 rfl) ?_
                  refine lv_iconst (v := 2) hx hb dX12_inside_178 (by decide) ?_
                  refine gA_int (gA_runV (As := [.int y88, .int p0, .int p1, .int 2]) (rest := []) (ci := 12) (q0 := 0) hx hb hml hown hg hP hD hK hS hA hnw hgk (s_wrapAt2 l D ks H.size ad kk V91 L y88 p0 p1 2 hMV91 (by first | omega | ((try (have i_xlp92_10 := Imp.go xlp92_10 (by omega))); (try (have i_t67 := Imp.go t67 (by omega))); (try (have i_rt := Imp.go rt (by omega))); (try (have i_rt := Imp.go rt (by omega))); (try (have i_t67 := Imp.go t67 (by omega))); (try (have i_xlp92_10 := Imp.go xlp92_10 (by omega))); omega)) (by first | omega | ((try (have i_xlp92_10 := Imp.go xlp92_10 (by omega))); (try (have i_t67 := Imp.go t67 (by omega))); (try (have i_rt := Imp.go rt (by omega))); (try (have i_rt := Imp.go rt (by omega))); (try (have i_t67 := Imp.go t67 (by omega))); (try (have i_xlp92_10 := Imp.go xlp92_10 (by omega))); omega)) (xlp92_12).1) w2288 w2290 w140 w172 w2291 rfl rfl hdV_yX12_wrapAt ⟨(by show (1) + 1 ≤ (4 * d1 + 40 * d2 + 13); omega), (by show 8 + (8 + 11) + (25) ≤ (100 * d1 + 1000 * d2 + 500); omega)⟩ rfl hl.1 rfl (Nat.le_of_ble_eq_true rfl) dX12_inside_179 ⟨Nat.le_of_ble_eq_true rfl, Nat.le_of_ble_eq_true rfl⟩) hP hD hK hS hA (fun z107 u108 H locs w109 hP hD hK hS => ?_)
                  obtain ⟨rgz107, t110, t111⟩ := w109
                  have rgz107 : (-1) ≤ z107.toInt ∧ z107.toInt ≤ 11 := rgz107
                  have t110 : Imp (0 ≤ z107.toInt) (z107.toInt < (V91 39 (nwh V91)).toInt ∧ isWb V91 p0 p1 2 (Int32.toNatClampNeg z107) = true ∧ y88.toInt < ((wcn (isWb V91 p0 p1 2) (wmany V91) : Nat) : Int)) := t110
                  have t111 : Imp (z107.toInt = -1) (((wcn (isWb V91 p0 p1 2) (wmany V91) : Nat) : Int) ≤ y88.toInt) := t111
                  refine lv_istore (lv' := [(10, .int z107), (9, .int y88), (6, .int z81), (8, .int y89), (7, .int (V 34 (Int32.toNatClampNeg z33))), (5, .int y90), (0, .ref (ad 0)), (1, .int p0), (2, .int p1), (3, .int p2), (4, .int p3)]) hx hb dX12_inside_182 hl (by decide) rfl (fun ls hl => ?_)
                  have ko := i_clamp (x := p0) rfl (by omega)
                  have iw := isWb_ag (o := p0) (m := p1) (ph := 2) (show agr [(0, 60), (0, 65), (0, 68), (0, 69), (0, 73), (0, 76), (0, 90), (0, 91), (0, 92), (0, 93), (0, 95), (0, 96), (0, 98)] [59, 61, 62, 63, 64, 66, 67, 74, 75, 77, 78, 79, 80, 94, 97] V70 V91 from (agr.tr agr.rf ajV91 (by decide) (by decide))) rfl (by decide) (by decide) ((xlp92_13.2.1 (Int32.toNatClampNeg p0) (by omega)).1.trans (fm86.2.1 (Int32.toNatClampNeg p0) (by omega)).1.symm)
                  have wn : 0 ≤ z107.toInt := by
                    refine Int.not_lt.mp (fun hq => ?_)
                    have h9 := Imp.go t111 (by omega)
                    rw [iw.1, iw.2] at h9
                    omega
                  have hw := Imp.go t110 wn
                  have r39 : 0 ≤ (V91 39 (nwh V91)).toInt ∧ (V91 39 (nwh V91)).toInt ≤ 12 := hMV91 39 _
                  have kw := i_clamp (x := z107) rfl wn
                  have nb : 0 ≤ (V91 0 11).toInt ∧ (V91 0 11).toInt ≤ 1 := hMV91 0 11
                  have kn : (nwh V91 : Int) = (V91 0 11).toInt := i_clamp (x := V91 0 11) rfl nb.1
                  have wE := TB.wrapE (ar := false) (w := Int32.toNatClampNeg z107) xlp92_12.1 (by omega) hw.2.1 (by decide)
                  have wE1 := wE.1
                  have wE2 := wE.2.lt
                  refine lv_aload_n hx hb dX12_inside_184 rfl (lv_at hl 6 rfl) ?_
                  refine va_get (D := D) (ci := 12) (v := .int (V91 0 96)) (C := RX12) (T := TX12) (N := 100) hx hb hg inX12 hown hK hP 0 rfl rfl 96 (by decide) (hg _ w1806) (fun _ h9 => h9) rfl dX12_inside_185 ?_
                  refine lv_istore (lv' := [(5, .int (V91 0 96)), (10, .int z107), (9, .int y88), (6, .int z81), (8, .int y89), (7, .int (V 34 (Int32.toNatClampNeg z33))), (0, .ref (ad 0)), (1, .int p0), (2, .int p1), (3, .int p2), (4, .int p3)]) hx hb dX12_inside_188 hl (by decide) rfl (fun ls hl => ?_)
                  refine lv_aload_n hx hb dX12_inside_190 rfl (lv_at hl 6 rfl) ?_
                  refine lv_iconst (v := 2) hx hb dX12_inside_191 (by decide) ?_
                  refine lv_iload hx hb dX12_inside_192 (lv_at hl 1 rfl) ?_
                  refine lv_iload hx hb dX12_inside_194 (lv_at hl 0 rfl) ?_
                  refine gA_void (gA_runV (As := [.int 2, .int z107, .int (V91 0 96)]) (rest := []) (ci := 12) (q0 := 0) hx hb hml hown hg hP hD hK hS hA hnw hgk (s_notes2 l D ks H.size ad kk V91 L 2 z107 (V91 0 96) hMV91 (show (V91 0 76).toInt ≤ 1999999999 from by first | omega | ((try (have i_xlp92_10 := Imp.go xlp92_10 (by omega))); (try (have i_t67 := Imp.go t67 (by omega))); (try (have i_rt := Imp.go rt (by omega))); (try (have i_rt := Imp.go rt (by omega))); (try (have i_t67 := Imp.go t67 (by omega))); (try (have i_xlp92_10 := Imp.go xlp92_10 (by omega))); omega))) w2304 w2306 w144 w172 w2307 rfl rfl hdV_yX12_notes ⟨(by show (0) + 1 ≤ (4 * d1 + 40 * d2 + 13); omega), (by show 8 + (4 + 11) + (0) ≤ (100 * d1 + 1000 * d2 + 500); omega)⟩ rfl hl.1 rfl (Nat.le_of_ble_eq_true rfl) dX12_inside_196 ⟨Nat.le_of_ble_eq_true rfl, Nat.le_of_ble_eq_true rfl⟩) hP hD hK hS hA (fun u113 H locs w114 hP hD hK hS => ?_)
                  obtain ⟨V116, L117⟩ := u113
                  obtain ⟨hMV116, ajV116, axL117, t115⟩ := w114
                  have axL117 : L = L117 := Eq.symm axL117
                  subst axL117
                  have hP : va_P D vwCl (mw ad kk ks.1 V116 L) H := hP
                  have hD : va_D A (mw ad kk ks.1 V116 L) := hD
                  have hMV116 : rgd bM V116 := hMV116
                  have ajV116 : agr [(0, 76)] [77, 78, 79] V91 V116 := ajV116
                  have agV116 : agr [(0, 60), (0, 65), (0, 68), (0, 69), (0, 73), (0, 76), (0, 90), (0, 91), (0, 92), (0, 93), (0, 95), (0, 96), (0, 98)] [59, 61, 62, 63, 64, 66, 67, 74, 75, 77, 78, 79, 80, 94, 97] V V116 := agV91.tr ajV116 (by decide) (by decide)
                  have t115 : (V116 0 76).toInt = (V91 0 76).toInt + 1 := t115
                  have r118 : 0 ≤ ((V116 0 76)).toInt ∧ ((V116 0 76)).toInt ≤ 2000000000 := hMV116 0 76
                  refine lv_aload_n hx hb dX12_inside_199 rfl (lv_at hl 6 rfl) ?_
                  refine lv_aload_n hx hb dX12_inside_200 rfl (lv_at hl 6 rfl) ?_
                  refine va_get (D := D) (ci := 12) (v := .ref (ad 44)) (C := RX12) (T := TX12) (N := 100) hx hb hg inX12 hown hK hP 0 rfl rfl 44 (by decide) (hg _ w1754) (fun _ h9 => h9) rfl dX12_inside_201 ?_
                  refine lv_bipush (v := 12) hx hb dX12_inside_204 (by decide) ?_
                  refine lv_aload_n hx hb dX12_inside_206 rfl (lv_at hl 6 rfl) ?_
                  refine va_get (D := D) (ci := 12) (v := .int (V116 0 11)) (C := RX12) (T := TX12) (N := 100) hx hb hg inX12 hown hK hP 0 rfl rfl 11 (by decide) (hg _ w1721) (fun _ h9 => h9) rfl dX12_inside_207 ?_
                  refine g_top (v := (V 0 11)) ((ajV116 0 11 rfl).trans ((ajV91 0 11 rfl).trans ((ajV70 0 11 rfl).trans ((ajV42 0 11 rfl).trans (ajV16 0 11 rfl))))) ?_
                  refine lv_imul hx hb dX12_inside_210 ?_
                  refine lv_topi (fun z119 ez119 => ?_)
                  have hz119 : z119.toInt = 12 * ((V 0 11)).toInt := i_mul ez119 (by decide) rfl (by omega)
                  refine lv_iload hx hb dX12_inside_211 (lv_at hl 1 rfl) ?_
                  refine lv_iadd hx hb dX12_inside_213 ?_
                  refine lv_topi (fun z120 ez120 => ?_)
                  have hz120 : z120.toInt = z119.toInt + z107.toInt := i_add ez120 rfl rfl (by omega)
                  have pq121 : (V116 0 11).toInt = ((V 0 11)).toInt := congrArg Int32.toInt ((ajV116 0 11 rfl).trans ((ajV91 0 11 rfl).trans ((ajV70 0 11 rfl).trans ((ajV42 0 11 rfl).trans (ajV16 0 11 rfl)))))
                  have pq122 : (V91 0 11).toInt = ((V 0 11)).toInt := congrArg Int32.toInt ((ajV91 0 11 rfl).trans ((ajV70 0 11 rfl).trans ((ajV42 0 11 rfl).trans (ajV16 0 11 rfl))))
                  have kz : Int32.toNatClampNeg z120 = 12 * nwh V91 + Int32.toNatClampNeg z107 := by have h9 := i_clamp (x := z120) rfl (by omega); omega
                  have e44 : V116 44 (Int32.toNatClampNeg z120) = V91 44 (Int32.toNatClampNeg z120) := (show agr [(0, 76)] [77, 78, 79] V91 V116 from (agr.tr agr.rf ajV116 (by decide) (by decide))) 44 _ rfl
                  have q44 : V91 44 (12 * nwh V91 + Int32.toNatClampNeg z107) = V91 44 (Int32.toNatClampNeg z120) := by rw [kz]
                  have q44i := congrArg Int32.toInt q44
                  have e44i := congrArg Int32.toInt e44
                  have pq123 : (V91 44 (Int32.toNatClampNeg z120)).toInt = ((V 44 (Int32.toNatClampNeg z120))).toInt := congrArg Int32.toInt ((ajV91 44 (Int32.toNatClampNeg z120) rfl).trans ((ajV70 44 (Int32.toNatClampNeg z120) rfl).trans ((ajV42 44 (Int32.toNatClampNeg z120) rfl).trans (ajV16 44 (Int32.toNatClampNeg z120) rfl))))
                  have pq124 : (V116 44 (Int32.toNatClampNeg z120)).toInt = ((V 44 (Int32.toNatClampNeg z120))).toInt := congrArg Int32.toInt ((ajV116 44 (Int32.toNatClampNeg z120) rfl).trans ((ajV91 44 (Int32.toNatClampNeg z120) rfl).trans ((ajV70 44 (Int32.toNatClampNeg z120) rfl).trans ((ajV42 44 (Int32.toNatClampNeg z120) rfl).trans (ajV16 44 (Int32.toNatClampNeg z120) rfl)))))
                  have q44b : V91 44 (12 * nwh V91 + Int32.toNatClampNeg z107) = V 44 (Int32.toNatClampNeg z120) := q44.trans ((show agr [(0, 60), (0, 65), (0, 68), (0, 69), (0, 73), (0, 76), (0, 90), (0, 91), (0, 92), (0, 93), (0, 95), (0, 96), (0, 98)] [59, 61, 62, 63, 64, 66, 67, 74, 75, 77, 78, 79, 80, 94, 97] V V91 from (agr.tr (agr.tr (agr.tr (agr.tr agr.rf ajV16 (by decide) (by decide)) ajV42 (by decide) (by decide)) ajV70 (by decide) (by decide)) ajV91 (by decide) (by decide))) 44 _ rfl)
                  refine va_iald (D := D) (i := z120) hx hb hK hP 37 36 rfl rfl (i_in (a := z120.toInt) rfl (by first | omega | ((try (have i_xlp92_10 := Imp.go xlp92_10 (by omega))); (try (have i_t67 := Imp.go t67 (by omega))); (try (have i_rt := Imp.go rt (by omega))); (try (have i_rt := Imp.go rt (by omega))); (try (have i_t67 := Imp.go t67 (by omega))); (try (have i_xlp92_10 := Imp.go xlp92_10 (by omega))); omega))) dX12_inside_214 ?_
                  refine g_top (v := (V 44 (Int32.toNatClampNeg z120))) ((ajV116 44 (Int32.toNatClampNeg z120) rfl).trans ((ajV91 44 (Int32.toNatClampNeg z120) rfl).trans ((ajV70 44 (Int32.toNatClampNeg z120) rfl).trans ((ajV42 44 (Int32.toNatClampNeg z120) rfl).trans (ajV16 44 (Int32.toNatClampNeg z120) rfl))))) ?_
                  refine lv_iload_n hx hb dX12_inside_215 rfl (lv_at hl 7 rfl) ?_
                  refine lv_iload_n hx hb dX12_inside_216 rfl (lv_at hl 9 rfl) ?_
                  refine lv_iload hx hb dX12_inside_217 (lv_at hl 0 rfl) ?_
                  refine lv_iconst (v := (-1)) hx hb dX12_inside_219 (by decide) ?_
                  have pq125 : (V116 0 65).toInt = ((V91 0 65)).toInt := congrArg Int32.toInt (ajV116 0 65 rfl)
                  have pq126 : (V116 0 60).toInt = ((V91 0 60)).toInt := congrArg Int32.toInt (ajV116 0 60 rfl)
                  have pq127 : (V116 0 95).toInt = ((V91 0 95)).toInt := congrArg Int32.toInt (ajV116 0 95 rfl)
                  have pq128 : (V116 0 73).toInt = ((V91 0 73)).toInt := congrArg Int32.toInt (ajV116 0 73 rfl)
                  have pq129 : (V116 0 69).toInt = ((V91 0 69)).toInt := congrArg Int32.toInt (ajV116 0 69 rfl)
                  have pq130 : (V116 0 93).toInt = ((V91 0 93)).toInt := congrArg Int32.toInt (ajV116 0 93 rfl)
                  have pq131 : (V116 0 98).toInt = ((V91 0 98)).toInt := congrArg Int32.toInt (ajV116 0 98 rfl)
                  have rt132 : RT V116 := RT.ag xlp92_12 hMV91 (show agr [(0, 76)] [77, 78, 79] V91 V116 from (agr.tr agr.rf ajV116 (by decide) (by decide))) ⟨⟨rfl, fun _ => rfl, fun _ => rfl, fun _ => rfl, fun _ => rfl, fun _ => rfl, fun _ => rfl⟩, by decide, by decide, rfl, rfl, fun _ => rfl, fun _ => rfl, fun _ => rfl, fun _ => rfl, fun _ => rfl, fun _ => rfl⟩ (c0k.ag (show agr [(0, 76)] [77, 78, 79] V91 V116 from (agr.tr agr.rf ajV116 (by decide) (by decide))) rfl)
                  refine gA_int (gA_runV (As := [.int (V 44 (Int32.toNatClampNeg z120)), .int p0, .int p2, .int (V91 0 96), .int (-1)]) (rest := []) (ci := 12) (q0 := 0) hx hb hml hown hg hP hD hK hS hA hnw hgk (hk_s_works H.size ad kk V116 L (V 44 (Int32.toNatClampNeg z120)) p0 p2 (V91 0 96) (-1) (0) (10000 * nwh V91) (10000 * nwh V91 + 10000) hMV116 (by first | omega | ((try (have i_xlp92_10 := Imp.go xlp92_10 (by omega))); (try (have i_t67 := Imp.go t67 (by omega))); (try (have i_rt := Imp.go rt (by omega))); (try (have i_rt := Imp.go rt (by omega))); (try (have i_t67 := Imp.go t67 (by omega))); (try (have i_xlp92_10 := Imp.go xlp92_10 (by omega))); omega)) (by first | omega | ((try (have i_xlp92_10 := Imp.go xlp92_10 (by omega))); (try (have i_t67 := Imp.go t67 (by omega))); (try (have i_rt := Imp.go rt (by omega))); (try (have i_rt := Imp.go rt (by omega))); (try (have i_t67 := Imp.go t67 (by omega))); (try (have i_xlp92_10 := Imp.go xlp92_10 (by omega))); omega)) (by first | omega | ((try (have i_xlp92_10 := Imp.go xlp92_10 (by omega))); (try (have i_t67 := Imp.go t67 (by omega))); (try (have i_rt := Imp.go rt (by omega))); (try (have i_rt := Imp.go rt (by omega))); (try (have i_t67 := Imp.go t67 (by omega))); (try (have i_xlp92_10 := Imp.go xlp92_10 (by omega))); omega)) rt132 (show (V116 0 65).toInt ≤ (V116 0 60).toInt from by first | omega | ((try (have i_xlp92_10 := Imp.go xlp92_10 (by omega))); (try (have i_t67 := Imp.go t67 (by omega))); (try (have i_rt := Imp.go rt (by omega))); (try (have i_rt := Imp.go rt (by omega))); (try (have i_t67 := Imp.go t67 (by omega))); (try (have i_xlp92_10 := Imp.go xlp92_10 (by omega))); omega)) (show (V116 0 95).toInt ≤ (V116 0 65).toInt from by first | omega | ((try (have i_xlp92_10 := Imp.go xlp92_10 (by omega))); (try (have i_t67 := Imp.go t67 (by omega))); (try (have i_rt := Imp.go rt (by omega))); (try (have i_rt := Imp.go rt (by omega))); (try (have i_t67 := Imp.go t67 (by omega))); (try (have i_xlp92_10 := Imp.go xlp92_10 (by omega))); omega)) (show (V116 0 73).toInt + (V116 0 95).toInt - (V116 0 65).toInt ≤ 999000 from by first | omega | ((try (have i_xlp92_10 := Imp.go xlp92_10 (by omega))); (try (have i_t67 := Imp.go t67 (by omega))); (try (have i_rt := Imp.go rt (by omega))); (try (have i_rt := Imp.go rt (by omega))); (try (have i_t67 := Imp.go t67 (by omega))); (try (have i_xlp92_10 := Imp.go xlp92_10 (by omega))); omega)) (show (V116 0 76).toInt - (V116 0 69).toInt - (V116 0 73).toInt ≤ 1000000001 from by first | omega | ((try (have i_xlp92_10 := Imp.go xlp92_10 (by omega))); (try (have i_t67 := Imp.go t67 (by omega))); (try (have i_rt := Imp.go rt (by omega))); (try (have i_rt := Imp.go rt (by omega))); (try (have i_t67 := Imp.go t67 (by omega))); (try (have i_xlp92_10 := Imp.go xlp92_10 (by omega))); omega)) (show 300 - (V116 0 60).toInt ≤ ((d1 : Nat) : Int) from by first | omega | ((try (have i_xlp92_10 := Imp.go xlp92_10 (by omega))); (try (have i_t67 := Imp.go t67 (by omega))); (try (have i_rt := Imp.go rt (by omega))); (try (have i_rt := Imp.go rt (by omega))); (try (have i_t67 := Imp.go t67 (by omega))); (try (have i_xlp92_10 := Imp.go xlp92_10 (by omega))); omega)) (show 10 - (V116 0 93).toInt ≤ ((d2 : Nat) : Int) from by first | omega | ((try (have i_xlp92_10 := Imp.go xlp92_10 (by omega))); (try (have i_t67 := Imp.go t67 (by omega))); (try (have i_rt := Imp.go rt (by omega))); (try (have i_rt := Imp.go rt (by omega))); (try (have i_t67 := Imp.go t67 (by omega))); (try (have i_xlp92_10 := Imp.go xlp92_10 (by omega))); omega)) (show p0.toInt < (V116 0 60).toInt from by first | omega | ((try (have i_xlp92_10 := Imp.go xlp92_10 (by omega))); (try (have i_t67 := Imp.go t67 (by omega))); (try (have i_rt := Imp.go rt (by omega))); (try (have i_rt := Imp.go rt (by omega))); (try (have i_t67 := Imp.go t67 (by omega))); (try (have i_xlp92_10 := Imp.go xlp92_10 (by omega))); omega)) (show (V116 0 98).toInt + 400 * ((d2 : Nat) : Int) + 30 ≤ 19000 from by first | omega | ((try (have i_xlp92_10 := Imp.go xlp92_10 (by omega))); (try (have i_t67 := Imp.go t67 (by omega))); (try (have i_rt := Imp.go rt (by omega))); (try (have i_rt := Imp.go rt (by omega))); (try (have i_t67 := Imp.go t67 (by omega))); (try (have i_xlp92_10 := Imp.go xlp92_10 (by omega))); omega)) (CE.same (show CE 0 false V91 (10000 * nwh V91) (10000 * nwh V91 + 10000) (V 44 (Int32.toNatClampNeg z120)).toInt.toNat from q44b ▸ wE.2) (Int.le_refl _) (Nat.le_refl _) (fun i _ _ => ⟨(show agr [(0, 76)] [77, 78, 79] V91 V116 from (agr.tr agr.rf ajV116 (by decide) (by decide))) 45 _ rfl, (show agr [(0, 76)] [77, 78, 79] V91 V116 from (agr.tr agr.rf ajV116 (by decide) (by decide))) 46 _ rfl, (show agr [(0, 76)] [77, 78, 79] V91 V116 from (agr.tr agr.rf ajV116 (by decide) (by decide))) 47 _ rfl⟩)) (show ((10000 * nwh V91 + 10000) : Int) ≤ 20000 from by first | omega | ((try (have i_xlp92_10 := Imp.go xlp92_10 (by omega))); (try (have i_t67 := Imp.go t67 (by omega))); (try (have i_rt := Imp.go rt (by omega))); (try (have i_rt := Imp.go rt (by omega))); (try (have i_t67 := Imp.go t67 (by omega))); (try (have i_xlp92_10 := Imp.go xlp92_10 (by omega))); omega)) (hMV116 27 _).1) w2272 w2274 w136 w172 w2275 rfl rfl hdV_yX12_works ⟨(by show (4 * (d1) + 40 * (d2) + 12) + 1 ≤ (4 * d1 + 40 * d2 + 13); omega), (by show 8 + (6 + 11) + (100 * (d1) + 1000 * (d2) + 460) ≤ (100 * d1 + 1000 * d2 + 500); omega)⟩ rfl hl.1 rfl (Nat.le_of_ble_eq_true rfl) dX12_inside_220 ⟨Nat.le_of_ble_eq_true rfl, Nat.le_of_ble_eq_true rfl⟩) hP hD hK hS hA (fun z133 u134 H locs w135 hP hD hK hS => ?_)
                  obtain ⟨V149, L150⟩ := u134
                  obtain ⟨hMV149, ajV149, axL150, rgz133, t136, t137, t138, t139, t140, t141, t142, t143, t144, t145, t146, t147, t148⟩ := w135
                  have axL150 : L = L150 := Eq.symm axL150
                  subst axL150
                  have hP : va_P D vwCl (mw ad kk ks.1 V149 L) H := hP
                  have hD : va_D A (mw ad kk ks.1 V149 L) := hD
                  have hMV149 : rgd bM V149 := hMV149
                  have ajV149 : agr [(0, 60), (0, 65), (0, 68), (0, 69), (0, 73), (0, 76), (0, 90), (0, 91), (0, 92), (0, 93), (0, 95), (0, 96), (0, 98)] [59, 61, 62, 63, 64, 66, 67, 74, 75, 77, 78, 79, 80, 94, 97] V116 V149 := ajV149
                  have agV149 : agr [(0, 60), (0, 65), (0, 68), (0, 69), (0, 73), (0, 76), (0, 90), (0, 91), (0, 92), (0, 93), (0, 95), (0, 96), (0, 98)] [59, 61, 62, 63, 64, 66, 67, 74, 75, 77, 78, 79, 80, 94, 97] V V149 := agV116.tr ajV149 (by decide) (by decide)
                  have rgz133 : 0 ≤ z133.toInt ∧ z133.toInt ≤ 2 := rgz133
                  have t136 : (V149 0 93).toInt = (V116 0 93).toInt := t136
                  have t137 : (V149 0 98).toInt = (V116 0 98).toInt := t137
                  have t138 : (V116 0 60).toInt ≤ (V149 0 60).toInt := t138
                  have t139 : (V116 0 65).toInt ≤ (V149 0 65).toInt := t139
                  have t140 : (V149 0 65).toInt - (V116 0 65).toInt ≤ (V149 0 60).toInt - (V116 0 60).toInt := t140
                  have t141 : (V149 0 73).toInt + (V149 0 95).toInt - (V149 0 65).toInt ≤ (V116 0 73).toInt + (V116 0 95).toInt - (V116 0 65).toInt := t141
                  have t142 : (V116 0 73).toInt ≤ (V149 0 73).toInt := t142
                  have t143 : (V116 0 69).toInt ≤ (V149 0 69).toInt := t143
                  have t144 : (V149 0 95).toInt = (V116 0 95).toInt := t144
                  have t145 : (V149 0 76).toInt - (V149 0 69).toInt - (V149 0 73).toInt ≤ (V116 0 76).toInt - (V116 0 69).toInt - (V116 0 73).toInt := t145
                  have t146 : Imp (z133.toInt ≠ 2) ((V149 0 76).toInt - (V149 0 69).toInt - (V149 0 73).toInt + 1 ≤ (V116 0 76).toInt - (V116 0 69).toInt - (V116 0 73).toInt) := t146
                  have t147 : RT V149 := t147
                  have t148 : FRM V116 V149 (-1) := t148
                  have r151 : 0 ≤ ((V149 0 93)).toInt ∧ ((V149 0 93)).toInt ≤ 10 := hMV149 0 93
                  have r152 : 0 ≤ ((V149 0 98)).toInt ∧ ((V149 0 98)).toInt ≤ 20000 := hMV149 0 98
                  have r153 : 0 ≤ ((V149 0 60)).toInt ∧ ((V149 0 60)).toInt ≤ 300 := hMV149 0 60
                  have r154 : 0 ≤ ((V149 0 65)).toInt ∧ ((V149 0 65)).toInt ≤ 1000000 := hMV149 0 65
                  have r155 : 0 ≤ ((V149 0 73)).toInt ∧ ((V149 0 73)).toInt ≤ 1000000 := hMV149 0 73
                  have r156 : 0 ≤ ((V149 0 95)).toInt ∧ ((V149 0 95)).toInt ≤ 300 := hMV149 0 95
                  have r157 : 0 ≤ ((V149 0 69)).toInt ∧ ((V149 0 69)).toInt ≤ 3000 := hMV149 0 69
                  have r158 : 0 ≤ ((V149 0 76)).toInt ∧ ((V149 0 76)).toInt ≤ 2000000000 := hMV149 0 76
                  refine lv_istore (lv' := [(8, .int z133), (5, .int (V91 0 96)), (10, .int z107), (9, .int y88), (6, .int z81), (7, .int (V 34 (Int32.toNatClampNeg z33))), (0, .ref (ad 0)), (1, .int p0), (2, .int p1), (3, .int p2), (4, .int p3)]) hx hb dX12_inside_223 hl (by decide) rfl (fun ls hl => ?_)
                  obtain ⟨z159, ez159⟩ : ∃ y : Int32, y = y88 + (-1) := ⟨_, rfl⟩
                  have hz159 : z159.toInt = y88.toInt + (-1) := i_add ez159 rfl (by decide) (by omega)
                  refine lv_iinc (v := z159) (lv' := [(9, .int z159), (8, .int z133), (5, .int (V91 0 96)), (10, .int z107), (6, .int z81), (7, .int (V 34 (Int32.toNatClampNeg z33))), (0, .ref (ad 0)), (1, .int p0), (2, .int p1), (3, .int p2), (4, .int p3)]) hx hb dX12_inside_225 hl (k := 3) rfl (by rw [ez159]; rfl) (by decide) rfl (fun ls hl => ?_)
                  refine lv_goto (tgt := 163) hx hb dX12_inside_228 (by decide) ?_
                  have fm160 : FRM V V116 (-1) := (FRM.tr xlp92_13 (FRM.ag (show agr [(0, 76)] [77, 78, 79] V91 V116 from (agr.tr agr.rf ajV116 (by decide) (by decide))) ⟨⟨rfl, fun _ => rfl, fun _ => rfl, fun _ => rfl, fun _ => rfl, fun _ => rfl, fun _ => rfl⟩, by decide, by decide, rfl, rfl, fun _ => rfl, fun _ => rfl, fun _ => rfl, fun _ => rfl, fun _ => rfl, fun _ => rfl⟩) agV91 ⟨rfl, fun _ => rfl, fun _ => rfl, fun _ => rfl, fun _ => rfl, fun _ => rfl, fun _ => rfl⟩ (by omega))
                  have fm161 : FRM V V149 (-1) := (FRM.tr fm160 t148 agV116 ⟨rfl, fun _ => rfl, fun _ => rfl, fun _ => rfl, fun _ => rfl, fun _ => rfl, fun _ => rfl⟩ (by omega))
                  exact ihlp92 z159 z133 (V91 0 96) V149 H locs ls (by first | omega | ((try (have i_t146 := Imp.go t146 (by omega))); (try (have i_xlp92_10 := Imp.go xlp92_10 (by omega))); (try (have i_t67 := Imp.go t67 (by omega))); (try (have i_rt := Imp.go rt (by omega))); (try (have i_rt := Imp.go rt (by omega))); (try (have i_t67 := Imp.go t67 (by omega))); (try (have i_xlp92_10 := Imp.go xlp92_10 (by omega))); (try (have i_t146 := Imp.go t146 (by omega))); omega)) (by first | omega | ((try (have i_t146 := Imp.go t146 (by omega))); (try (have i_xlp92_10 := Imp.go xlp92_10 (by omega))); (try (have i_t67 := Imp.go t67 (by omega))); (try (have i_rt := Imp.go rt (by omega))); (try (have i_rt := Imp.go rt (by omega))); (try (have i_t67 := Imp.go t67 (by omega))); (try (have i_xlp92_10 := Imp.go xlp92_10 (by omega))); (try (have i_t146 := Imp.go t146 (by omega))); omega)) (show (V149 0 98).toInt = (V 0 98).toInt from by first | omega | ((try (have i_t146 := Imp.go t146 (by omega))); (try (have i_xlp92_10 := Imp.go xlp92_10 (by omega))); (try (have i_t67 := Imp.go t67 (by omega))); (try (have i_rt := Imp.go rt (by omega))); (try (have i_rt := Imp.go rt (by omega))); (try (have i_t67 := Imp.go t67 (by omega))); (try (have i_xlp92_10 := Imp.go xlp92_10 (by omega))); (try (have i_t146 := Imp.go t146 (by omega))); omega)) (show (V149 0 93).toInt = (V 0 93).toInt from by first | omega | ((try (have i_t146 := Imp.go t146 (by omega))); (try (have i_xlp92_10 := Imp.go xlp92_10 (by omega))); (try (have i_t67 := Imp.go t67 (by omega))); (try (have i_rt := Imp.go rt (by omega))); (try (have i_rt := Imp.go rt (by omega))); (try (have i_t67 := Imp.go t67 (by omega))); (try (have i_xlp92_10 := Imp.go xlp92_10 (by omega))); (try (have i_t146 := Imp.go t146 (by omega))); omega)) (show (V 0 60).toInt ≤ (V149 0 60).toInt from by first | omega | ((try (have i_t146 := Imp.go t146 (by omega))); (try (have i_xlp92_10 := Imp.go xlp92_10 (by omega))); (try (have i_t67 := Imp.go t67 (by omega))); (try (have i_rt := Imp.go rt (by omega))); (try (have i_rt := Imp.go rt (by omega))); (try (have i_t67 := Imp.go t67 (by omega))); (try (have i_xlp92_10 := Imp.go xlp92_10 (by omega))); (try (have i_t146 := Imp.go t146 (by omega))); omega)) (show (V 0 65).toInt ≤ (V149 0 65).toInt from by first | omega | ((try (have i_t146 := Imp.go t146 (by omega))); (try (have i_xlp92_10 := Imp.go xlp92_10 (by omega))); (try (have i_t67 := Imp.go t67 (by omega))); (try (have i_rt := Imp.go rt (by omega))); (try (have i_rt := Imp.go rt (by omega))); (try (have i_t67 := Imp.go t67 (by omega))); (try (have i_xlp92_10 := Imp.go xlp92_10 (by omega))); (try (have i_t146 := Imp.go t146 (by omega))); omega)) (show (V149 0 65).toInt - (V 0 65).toInt ≤ (V149 0 60).toInt - (V 0 60).toInt from by first | omega | ((try (have i_t146 := Imp.go t146 (by omega))); (try (have i_xlp92_10 := Imp.go xlp92_10 (by omega))); (try (have i_t67 := Imp.go t67 (by omega))); (try (have i_rt := Imp.go rt (by omega))); (try (have i_rt := Imp.go rt (by omega))); (try (have i_t67 := Imp.go t67 (by omega))); (try (have i_xlp92_10 := Imp.go xlp92_10 (by omega))); (try (have i_t146 := Imp.go t146 (by omega))); omega)) (show (V149 0 73).toInt + (V149 0 95).toInt - (V149 0 65).toInt ≤ (V 0 73).toInt + (V 0 95).toInt - (V 0 65).toInt from by first | omega | ((try (have i_t146 := Imp.go t146 (by omega))); (try (have i_xlp92_10 := Imp.go xlp92_10 (by omega))); (try (have i_t67 := Imp.go t67 (by omega))); (try (have i_rt := Imp.go rt (by omega))); (try (have i_rt := Imp.go rt (by omega))); (try (have i_t67 := Imp.go t67 (by omega))); (try (have i_xlp92_10 := Imp.go xlp92_10 (by omega))); (try (have i_t146 := Imp.go t146 (by omega))); omega)) (show (V 0 73).toInt ≤ (V149 0 73).toInt from by first | omega | ((try (have i_t146 := Imp.go t146 (by omega))); (try (have i_xlp92_10 := Imp.go xlp92_10 (by omega))); (try (have i_t67 := Imp.go t67 (by omega))); (try (have i_rt := Imp.go rt (by omega))); (try (have i_rt := Imp.go rt (by omega))); (try (have i_t67 := Imp.go t67 (by omega))); (try (have i_xlp92_10 := Imp.go xlp92_10 (by omega))); (try (have i_t146 := Imp.go t146 (by omega))); omega)) (show (V 0 69).toInt ≤ (V149 0 69).toInt from by first | omega | ((try (have i_t146 := Imp.go t146 (by omega))); (try (have i_xlp92_10 := Imp.go xlp92_10 (by omega))); (try (have i_t67 := Imp.go t67 (by omega))); (try (have i_rt := Imp.go rt (by omega))); (try (have i_rt := Imp.go rt (by omega))); (try (have i_t67 := Imp.go t67 (by omega))); (try (have i_xlp92_10 := Imp.go xlp92_10 (by omega))); (try (have i_t146 := Imp.go t146 (by omega))); omega)) (show (V149 0 95).toInt = (V 0 95).toInt from by first | omega | ((try (have i_t146 := Imp.go t146 (by omega))); (try (have i_xlp92_10 := Imp.go xlp92_10 (by omega))); (try (have i_t67 := Imp.go t67 (by omega))); (try (have i_rt := Imp.go rt (by omega))); (try (have i_rt := Imp.go rt (by omega))); (try (have i_t67 := Imp.go t67 (by omega))); (try (have i_xlp92_10 := Imp.go xlp92_10 (by omega))); (try (have i_t146 := Imp.go t146 (by omega))); omega)) (show (V149 0 76).toInt - (V149 0 69).toInt - (V149 0 73).toInt ≤ (V 0 76).toInt - (V 0 69).toInt - (V 0 73).toInt + 1 from by first | omega | ((try (have i_t146 := Imp.go t146 (by omega))); (try (have i_xlp92_10 := Imp.go xlp92_10 (by omega))); (try (have i_t67 := Imp.go t67 (by omega))); (try (have i_rt := Imp.go rt (by omega))); (try (have i_rt := Imp.go rt (by omega))); (try (have i_t67 := Imp.go t67 (by omega))); (try (have i_xlp92_10 := Imp.go xlp92_10 (by omega))); (try (have i_t146 := Imp.go t146 (by omega))); omega)) (Imp.mk (fun hp => have hp : z133.toInt ≠ 2 := hp; (show (V149 0 76).toInt - (V149 0 69).toInt - (V149 0 73).toInt ≤ (V 0 76).toInt - (V 0 69).toInt - (V 0 73).toInt from by first | omega | ((try (have i_t146 := Imp.go t146 (by omega))); (try (have i_xlp92_10 := Imp.go xlp92_10 (by omega))); (try (have i_t67 := Imp.go t67 (by omega))); (try (have i_rt := Imp.go rt (by omega))); (try (have i_rt := Imp.go rt (by omega))); (try (have i_t67 := Imp.go t67 (by omega))); (try (have i_xlp92_10 := Imp.go xlp92_10 (by omega))); (try (have i_t146 := Imp.go t146 (by omega))); omega)))) (show z159.toInt ≤ z81.toInt - 1 from by first | omega | ((try (have i_t146 := Imp.go t146 (by omega))); (try (have i_xlp92_10 := Imp.go xlp92_10 (by omega))); (try (have i_t67 := Imp.go t67 (by omega))); (try (have i_rt := Imp.go rt (by omega))); (try (have i_rt := Imp.go rt (by omega))); (try (have i_t67 := Imp.go t67 (by omega))); (try (have i_xlp92_10 := Imp.go xlp92_10 (by omega))); (try (have i_t146 := Imp.go t146 (by omega))); omega)) t147 fm161 (by first | omega | ((try (have i_t146 := Imp.go t146 (by omega))); (try (have i_xlp92_10 := Imp.go xlp92_10 (by omega))); (try (have i_t67 := Imp.go t67 (by omega))); (try (have i_rt := Imp.go rt (by omega))); (try (have i_rt := Imp.go rt (by omega))); (try (have i_t67 := Imp.go t67 (by omega))); (try (have i_xlp92_10 := Imp.go xlp92_10 (by omega))); (try (have i_t146 := Imp.go t146 (by omega))); omega)) (agr.tr (agr.tr (agr.tr agr.rf ajV91 (by decide) (by decide)) ajV116 (by decide) (by decide)) ajV149 (by decide) (by decide)) hMV149 hP hD hS (lv_sub hl [0, 4, 1, 5, 2, 6, 7, 8, 9, 10] rfl)
          have fm162 : FRM V V42 (-1) := (FRM.tr xlp17_12 (FRM.ag (show agr [(0, 76)] [77, 78, 79] V16 V42 from (agr.tr agr.rf ajV42 (by decide) (by decide))) ⟨⟨rfl, fun _ => rfl, fun _ => rfl, fun _ => rfl, fun _ => rfl, fun _ => rfl, fun _ => rfl⟩, by decide, by decide, rfl, rfl, fun _ => rfl, fun _ => rfl, fun _ => rfl, fun _ => rfl, fun _ => rfl, fun _ => rfl⟩) agV16 ⟨rfl, fun _ => rfl, fun _ => rfl, fun _ => rfl, fun _ => rfl, fun _ => rfl, fun _ => rfl⟩ (by omega))
          have fm163 : FRM V V70 (-1) := (FRM.tr fm162 t69 agV42 ⟨rfl, fun _ => rfl, fun _ => rfl, fun _ => rfl, fun _ => rfl, fun _ => rfl, fun _ => rfl⟩ (by omega))
          exact lp92 ((z87.toInt + 1 + 1 : Int).toNat) z87 z54 y15 V70 H locs ls (by first | omega | ((try (have i_t67 := Imp.go t67 (by omega))); (try (have i_rt := Imp.go rt (by omega))); (try (have i_rt := Imp.go rt (by omega))); (try (have i_t67 := Imp.go t67 (by omega))); omega)) (by first | omega | ((try (have i_t67 := Imp.go t67 (by omega))); (try (have i_rt := Imp.go rt (by omega))); (try (have i_rt := Imp.go rt (by omega))); (try (have i_t67 := Imp.go t67 (by omega))); omega)) (show (V70 0 98).toInt = (V 0 98).toInt from by first | omega | ((try (have i_t67 := Imp.go t67 (by omega))); (try (have i_rt := Imp.go rt (by omega))); (try (have i_rt := Imp.go rt (by omega))); (try (have i_t67 := Imp.go t67 (by omega))); omega)) (show (V70 0 93).toInt = (V 0 93).toInt from by first | omega | ((try (have i_t67 := Imp.go t67 (by omega))); (try (have i_rt := Imp.go rt (by omega))); (try (have i_rt := Imp.go rt (by omega))); (try (have i_t67 := Imp.go t67 (by omega))); omega)) (show (V 0 60).toInt ≤ (V70 0 60).toInt from by first | omega | ((try (have i_t67 := Imp.go t67 (by omega))); (try (have i_rt := Imp.go rt (by omega))); (try (have i_rt := Imp.go rt (by omega))); (try (have i_t67 := Imp.go t67 (by omega))); omega)) (show (V 0 65).toInt ≤ (V70 0 65).toInt from by first | omega | ((try (have i_t67 := Imp.go t67 (by omega))); (try (have i_rt := Imp.go rt (by omega))); (try (have i_rt := Imp.go rt (by omega))); (try (have i_t67 := Imp.go t67 (by omega))); omega)) (show (V70 0 65).toInt - (V 0 65).toInt ≤ (V70 0 60).toInt - (V 0 60).toInt from by first | omega | ((try (have i_t67 := Imp.go t67 (by omega))); (try (have i_rt := Imp.go rt (by omega))); (try (have i_rt := Imp.go rt (by omega))); (try (have i_t67 := Imp.go t67 (by omega))); omega)) (show (V70 0 73).toInt + (V70 0 95).toInt - (V70 0 65).toInt ≤ (V 0 73).toInt + (V 0 95).toInt - (V 0 65).toInt from by first | omega | ((try (have i_t67 := Imp.go t67 (by omega))); (try (have i_rt := Imp.go rt (by omega))); (try (have i_rt := Imp.go rt (by omega))); (try (have i_t67 := Imp.go t67 (by omega))); omega)) (show (V 0 73).toInt ≤ (V70 0 73).toInt from by first | omega | ((try (have i_t67 := Imp.go t67 (by omega))); (try (have i_rt := Imp.go rt (by omega))); (try (have i_rt := Imp.go rt (by omega))); (try (have i_t67 := Imp.go t67 (by omega))); omega)) (show (V 0 69).toInt ≤ (V70 0 69).toInt from by first | omega | ((try (have i_t67 := Imp.go t67 (by omega))); (try (have i_rt := Imp.go rt (by omega))); (try (have i_rt := Imp.go rt (by omega))); (try (have i_t67 := Imp.go t67 (by omega))); omega)) (show (V70 0 95).toInt = (V 0 95).toInt from by first | omega | ((try (have i_t67 := Imp.go t67 (by omega))); (try (have i_rt := Imp.go rt (by omega))); (try (have i_rt := Imp.go rt (by omega))); (try (have i_t67 := Imp.go t67 (by omega))); omega)) (show (V70 0 76).toInt - (V70 0 69).toInt - (V70 0 73).toInt ≤ (V 0 76).toInt - (V 0 69).toInt - (V 0 73).toInt + 1 from by first | omega | ((try (have i_t67 := Imp.go t67 (by omega))); (try (have i_rt := Imp.go rt (by omega))); (try (have i_rt := Imp.go rt (by omega))); (try (have i_t67 := Imp.go t67 (by omega))); omega)) (Imp.mk (fun hp => have hp : z54.toInt ≠ 2 := hp; (show (V70 0 76).toInt - (V70 0 69).toInt - (V70 0 73).toInt ≤ (V 0 76).toInt - (V 0 69).toInt - (V 0 73).toInt from by first | omega | ((try (have i_t67 := Imp.go t67 (by omega))); (try (have i_rt := Imp.go rt (by omega))); (try (have i_rt := Imp.go rt (by omega))); (try (have i_t67 := Imp.go t67 (by omega))); omega)))) (show z87.toInt ≤ z81.toInt - 1 from by first | omega | ((try (have i_t67 := Imp.go t67 (by omega))); (try (have i_rt := Imp.go rt (by omega))); (try (have i_rt := Imp.go rt (by omega))); (try (have i_t67 := Imp.go t67 (by omega))); omega)) t68 fm163 (by first | omega | ((try (have i_t67 := Imp.go t67 (by omega))); (try (have i_rt := Imp.go rt (by omega))); (try (have i_rt := Imp.go rt (by omega))); (try (have i_t67 := Imp.go t67 (by omega))); omega)) agr.rf hMV70 hP hD hS (lv_sub hl [0, 1, 2, 3, 4, 5, 6, 7, 8, 9] rfl)
        · skip
          have f164 : ((V 34 (Int32.toNatClampNeg z33))).toInt < 0 := b_nle (by decide) rfl c35
          refine lv_aload_n hx hb dX12_inside_120 rfl (lv_at hl 3 rfl) ?_
          refine lv_bipush (v := 11) hx hb dX12_inside_121 (by decide) ?_
          have r165 : Int32.toInt 11 = 11 := by decide
          refine gA_int (gA_runV (As := [.int 11]) (rest := []) (ci := 12) (q0 := 0) hx hb hml hown hg hP hD hK hS hA hnw hgk (s_fails2 l D ks H.size ad kk V16 L 11 hMV16 ) w2251 w2253 w131 w172 w2254 rfl rfl hdV_yX12_fails ⟨(by show (0) + 1 ≤ (4 * d1 + 40 * d2 + 13); omega), (by show 8 + (2 + 11) + (0) ≤ (100 * d1 + 1000 * d2 + 500); omega)⟩ rfl hl.1 rfl (Nat.le_of_ble_eq_true rfl) dX12_inside_123 ⟨Nat.le_of_ble_eq_true rfl, Nat.le_of_ble_eq_true rfl⟩) hP hD hK hS hA (fun z166 u167 H locs w168 hP hD hK hS => ?_)
          obtain ⟨V169, L170⟩ := u167
          obtain ⟨hMV169, ajV169, axL170, rgz166⟩ := w168
          have axL170 : L = L170 := Eq.symm axL170
          subst axL170
          have hP : va_P D vwCl (mw ad kk ks.1 V169 L) H := hP
          have hD : va_D A (mw ad kk ks.1 V169 L) := hD
          have hMV169 : rgd bM V169 := hMV169
          have ajV169 : agr [(0, 90), (0, 91)] [] V16 V169 := ajV169
          have agV169 : agr [(0, 60), (0, 65), (0, 68), (0, 69), (0, 73), (0, 76), (0, 90), (0, 91), (0, 92), (0, 93), (0, 95), (0, 96), (0, 98)] [59, 61, 62, 63, 64, 66, 67, 74, 75, 77, 78, 79, 80, 94, 97] V V169 := agV16.tr ajV169 (by decide) (by decide)
          have rgz166 : 1 ≤ z166.toInt ∧ z166.toInt ≤ 1 := rgz166
          have pq171 : (V169 0 93).toInt = ((V16 0 93)).toInt := congrArg Int32.toInt (ajV169 0 93 rfl)
          have pq172 : (V169 0 98).toInt = ((V16 0 98)).toInt := congrArg Int32.toInt (ajV169 0 98 rfl)
          have pq173 : (V169 0 60).toInt = ((V16 0 60)).toInt := congrArg Int32.toInt (ajV169 0 60 rfl)
          have pq174 : (V169 0 65).toInt = ((V16 0 65)).toInt := congrArg Int32.toInt (ajV169 0 65 rfl)
          have pq175 : (V169 0 73).toInt = ((V16 0 73)).toInt := congrArg Int32.toInt (ajV169 0 73 rfl)
          have pq176 : (V169 0 95).toInt = ((V16 0 95)).toInt := congrArg Int32.toInt (ajV169 0 95 rfl)
          have pq177 : (V169 0 69).toInt = ((V16 0 69)).toInt := congrArg Int32.toInt (ajV169 0 69 rfl)
          have pq178 : (V169 0 76).toInt = ((V16 0 76)).toInt := congrArg Int32.toInt (ajV169 0 76 rfl)
          have rt179 : RT V169 := RT.ag xlp17_11 hMV16 (show agr [(0, 90), (0, 91)] [] V16 V169 from (agr.tr agr.rf ajV169 (by decide) (by decide))) ⟨⟨rfl, fun _ => rfl, fun _ => rfl, fun _ => rfl, fun _ => rfl, fun _ => rfl, fun _ => rfl⟩, by decide, by decide, rfl, rfl, fun _ => rfl, fun _ => rfl, fun _ => rfl, fun _ => rfl, fun _ => rfl, fun _ => rfl⟩ (c0k.ag (show agr [(0, 90), (0, 91)] [] V16 V169 from (agr.tr agr.rf ajV169 (by decide) (by decide))) rfl)
          have fm180 : FRM V V169 (-1) := (FRM.tr xlp17_12 (FRM.ag (show agr [(0, 90), (0, 91)] [] V16 V169 from (agr.tr agr.rf ajV169 (by decide) (by decide))) ⟨⟨rfl, fun _ => rfl, fun _ => rfl, fun _ => rfl, fun _ => rfl, fun _ => rfl, fun _ => rfl⟩, by decide, by decide, rfl, rfl, fun _ => rfl, fun _ => rfl, fun _ => rfl, fun _ => rfl, fun _ => rfl, fun _ => rfl⟩) agV16 ⟨rfl, fun _ => rfl, fun _ => rfl, fun _ => rfl, fun _ => rfl, fun _ => rfl, fun _ => rfl⟩ (by omega))
          exact W.iret (v := z166) hx hb hr (fun t ht hW => ⟨⟨z166, (V169, L), rfl, ⟨hMV169, agV169, rfl, (show 0 ≤ z166.toInt ∧ z166.toInt ≤ 2 from by first | omega | ((try (have i_rt := Imp.go rt (by omega))); omega)), (show (V169 0 93).toInt = (V 0 93).toInt from by first | omega | ((try (have i_rt := Imp.go rt (by omega))); omega)), (show (V169 0 98).toInt = (V 0 98).toInt from by first | omega | ((try (have i_rt := Imp.go rt (by omega))); omega)), (show (V 0 60).toInt ≤ (V169 0 60).toInt from by first | omega | ((try (have i_rt := Imp.go rt (by omega))); omega)), (show (V 0 65).toInt ≤ (V169 0 65).toInt from by first | omega | ((try (have i_rt := Imp.go rt (by omega))); omega)), (show (V169 0 65).toInt - (V 0 65).toInt ≤ (V169 0 60).toInt - (V 0 60).toInt from by first | omega | ((try (have i_rt := Imp.go rt (by omega))); omega)), (show (V169 0 73).toInt + (V169 0 95).toInt - (V169 0 65).toInt ≤ (V 0 73).toInt + (V 0 95).toInt - (V 0 65).toInt from by first | omega | ((try (have i_rt := Imp.go rt (by omega))); omega)), (show (V 0 73).toInt ≤ (V169 0 73).toInt from by first | omega | ((try (have i_rt := Imp.go rt (by omega))); omega)), (show (V 0 69).toInt ≤ (V169 0 69).toInt from by first | omega | ((try (have i_rt := Imp.go rt (by omega))); omega)), (show (V169 0 95).toInt = (V 0 95).toInt from by first | omega | ((try (have i_rt := Imp.go rt (by omega))); omega)), (show (V169 0 76).toInt - (V169 0 69).toInt - (V169 0 73).toInt ≤ (V 0 76).toInt - (V 0 69).toInt - (V 0 73).toInt + 1 from by first | omega | ((try (have i_rt := Imp.go rt (by omega))); omega)), (Imp.mk (fun hp => have hp : z166.toInt ≠ 2 := hp; (show (V169 0 76).toInt - (V169 0 69).toInt - (V169 0 73).toInt ≤ (V 0 76).toInt - (V 0 69).toInt - (V 0 73).toInt from by first | omega | ((try (have i_rt := Imp.go rt (by omega))); omega)))), rt179, fm180⟩, by rw [ht]; exact hP, va_K.moved hW.alike hK, hD⟩, hS.F ht⟩) hS.2.2 dX12_inside_126
      · skip
        have f181 : y14.toInt < z10.toInt := b_nle rfl rfl c26
        refine lv_aload_n hx hb dX12_inside_23 rfl (lv_at hl 3 rfl) ?_
        refine lv_iload hx hb dX12_inside_24 (lv_at hl 0 rfl) ?_
        refine lv_iload_n hx hb dX12_inside_26 rfl (lv_at hl 4 rfl) ?_
        refine lv_iload_n hx hb dX12_inside_27 rfl (lv_at hl 5 rfl) ?_
        refine lv_iconst (v := 0) hx hb dX12_inside_28 (by decide) ?_
        refine gA_int (gA_runV (As := [.int y14, .int p0, .int p1, .int 0]) (rest := []) (ci := 12) (q0 := 0) hx hb hml hown hg hP hD hK hS hA hnw hgk (s_wrapAt2 l D ks H.size ad kk V16 L y14 p0 p1 0 hMV16 (by first | omega | ((try (have i_rt := Imp.go rt (by omega))); omega)) (by first | omega | ((try (have i_rt := Imp.go rt (by omega))); omega)) (xlp17_11).1) w2288 w2290 w140 w172 w2291 rfl rfl hdV_yX12_wrapAt ⟨(by show (1) + 1 ≤ (4 * d1 + 40 * d2 + 13); omega), (by show 8 + (8 + 11) + (25) ≤ (100 * d1 + 1000 * d2 + 500); omega)⟩ rfl hl.1 rfl (Nat.le_of_ble_eq_true rfl) dX12_inside_29 ⟨Nat.le_of_ble_eq_true rfl, Nat.le_of_ble_eq_true rfl⟩) hP hD hK hS hA (fun z182 u183 H locs w184 hP hD hK hS => ?_)
        obtain ⟨rgz182, t185, t186⟩ := w184
        have rgz182 : (-1) ≤ z182.toInt ∧ z182.toInt ≤ 11 := rgz182
        have t185 : Imp (0 ≤ z182.toInt) (z182.toInt < (V16 39 (nwh V16)).toInt ∧ isWb V16 p0 p1 0 (Int32.toNatClampNeg z182) = true ∧ y14.toInt < ((wcn (isWb V16 p0 p1 0) (wmany V16) : Nat) : Int)) := t185
        have t186 : Imp (z182.toInt = -1) (((wcn (isWb V16 p0 p1 0) (wmany V16) : Nat) : Int) ≤ y14.toInt) := t186
        refine lv_istore (lv' := [(8, .int z182), (7, .int y14), (6, .int z10), (5, .int y15), (0, .ref (ad 0)), (1, .int p0), (2, .int p1), (3, .int p2), (4, .int p3)]) hx hb dX12_inside_32 hl (by decide) rfl (fun ls hl => ?_)
        have ko := i_clamp (x := p0) rfl (by omega)
        have iw := isWb_ag (o := p0) (m := p1) (ph := 0) (show agr [(0, 60), (0, 65), (0, 68), (0, 69), (0, 73), (0, 76), (0, 90), (0, 91), (0, 92), (0, 93), (0, 95), (0, 96), (0, 98)] [59, 61, 62, 63, 64, 66, 67, 74, 75, 77, 78, 79, 80, 94, 97] V V16 from (agr.tr agr.rf ajV16 (by decide) (by decide))) rfl (by decide) (by decide) ((xlp17_12.2.1 (Int32.toNatClampNeg p0) (by omega)).1.trans ((FRM.rf : FRM V V (-1)).2.1 (Int32.toNatClampNeg p0) (by omega)).1.symm)
        have wn : 0 ≤ z182.toInt := by
          refine Int.not_lt.mp (fun hq => ?_)
          have h9 := Imp.go t186 (by omega)
          rw [iw.1, iw.2] at h9
          omega
        have hw := Imp.go t185 wn
        have r39 : 0 ≤ (V16 39 (nwh V16)).toInt ∧ (V16 39 (nwh V16)).toInt ≤ 12 := hMV16 39 _
        have kw := i_clamp (x := z182) rfl wn
        have nb : 0 ≤ (V16 0 11).toInt ∧ (V16 0 11).toInt ≤ 1 := hMV16 0 11
        have kn : (nwh V16 : Int) = (V16 0 11).toInt := i_clamp (x := V16 0 11) rfl nb.1
        have wE := TB.wrapE (ar := false) (w := Int32.toNatClampNeg z182) xlp17_11.1 (by omega) hw.2.1 (by decide)
        have wE1 := wE.1
        have wE2 := wE.2.lt
        refine lv_aload_n hx hb dX12_inside_34 rfl (lv_at hl 4 rfl) ?_
        refine lv_iconst (v := 0) hx hb dX12_inside_35 (by decide) ?_
        refine lv_iload hx hb dX12_inside_36 (lv_at hl 0 rfl) ?_
        refine lv_iload hx hb dX12_inside_38 (lv_at hl 3 rfl) ?_
        refine gA_void (gA_runV (As := [.int 0, .int z182, .int y15]) (rest := []) (ci := 12) (q0 := 0) hx hb hml hown hg hP hD hK hS hA hnw hgk (s_notes2 l D ks H.size ad kk V16 L 0 z182 y15 hMV16 (show (V16 0 76).toInt ≤ 1999999999 from by first | omega | ((try (have i_rt := Imp.go rt (by omega))); omega))) w2304 w2306 w144 w172 w2307 rfl rfl hdV_yX12_notes ⟨(by show (0) + 1 ≤ (4 * d1 + 40 * d2 + 13); omega), (by show 8 + (4 + 11) + (0) ≤ (100 * d1 + 1000 * d2 + 500); omega)⟩ rfl hl.1 rfl (Nat.le_of_ble_eq_true rfl) dX12_inside_40 ⟨Nat.le_of_ble_eq_true rfl, Nat.le_of_ble_eq_true rfl⟩) hP hD hK hS hA (fun u188 H locs w189 hP hD hK hS => ?_)
        obtain ⟨V191, L192⟩ := u188
        obtain ⟨hMV191, ajV191, axL192, t190⟩ := w189
        have axL192 : L = L192 := Eq.symm axL192
        subst axL192
        have hP : va_P D vwCl (mw ad kk ks.1 V191 L) H := hP
        have hD : va_D A (mw ad kk ks.1 V191 L) := hD
        have hMV191 : rgd bM V191 := hMV191
        have ajV191 : agr [(0, 76)] [77, 78, 79] V16 V191 := ajV191
        have agV191 : agr [(0, 60), (0, 65), (0, 68), (0, 69), (0, 73), (0, 76), (0, 90), (0, 91), (0, 92), (0, 93), (0, 95), (0, 96), (0, 98)] [59, 61, 62, 63, 64, 66, 67, 74, 75, 77, 78, 79, 80, 94, 97] V V191 := agV16.tr ajV191 (by decide) (by decide)
        have t190 : (V191 0 76).toInt = (V16 0 76).toInt + 1 := t190
        have r193 : 0 ≤ ((V191 0 76)).toInt ∧ ((V191 0 76)).toInt ≤ 2000000000 := hMV191 0 76
        refine lv_aload_n hx hb dX12_inside_43 rfl (lv_at hl 4 rfl) ?_
        refine lv_aload_n hx hb dX12_inside_44 rfl (lv_at hl 4 rfl) ?_
        refine va_get (D := D) (ci := 12) (v := .ref (ad 44)) (C := RX12) (T := TX12) (N := 100) hx hb hg inX12 hown hK hP 0 rfl rfl 44 (by decide) (hg _ w1754) (fun _ h9 => h9) rfl dX12_inside_45 ?_
        refine lv_bipush (v := 12) hx hb dX12_inside_48 (by decide) ?_
        refine lv_aload_n hx hb dX12_inside_50 rfl (lv_at hl 4 rfl) ?_
        refine va_get (D := D) (ci := 12) (v := .int (V191 0 11)) (C := RX12) (T := TX12) (N := 100) hx hb hg inX12 hown hK hP 0 rfl rfl 11 (by decide) (hg _ w1721) (fun _ h9 => h9) rfl dX12_inside_51 ?_
        refine g_top (v := (V 0 11)) ((ajV191 0 11 rfl).trans (ajV16 0 11 rfl)) ?_
        have r194 : 0 ≤ ((V 0 11)).toInt ∧ ((V 0 11)).toInt ≤ 1 := hMV 0 11
        refine lv_imul hx hb dX12_inside_54 ?_
        refine lv_topi (fun z195 ez195 => ?_)
        have hz195 : z195.toInt = 12 * ((V 0 11)).toInt := i_mul ez195 (by decide) rfl (by omega)
        refine lv_iload hx hb dX12_inside_55 (lv_at hl 0 rfl) ?_
        refine lv_iadd hx hb dX12_inside_57 ?_
        refine lv_topi (fun z196 ez196 => ?_)
        have hz196 : z196.toInt = z195.toInt + z182.toInt := i_add ez196 rfl rfl (by omega)
        have pq197 : (V191 0 11).toInt = ((V 0 11)).toInt := congrArg Int32.toInt ((ajV191 0 11 rfl).trans (ajV16 0 11 rfl))
        have pq198 : (V16 0 11).toInt = ((V 0 11)).toInt := congrArg Int32.toInt (ajV16 0 11 rfl)
        have kz : Int32.toNatClampNeg z196 = 12 * nwh V16 + Int32.toNatClampNeg z182 := by have h9 := i_clamp (x := z196) rfl (by omega); omega
        have e44 : V191 44 (Int32.toNatClampNeg z196) = V16 44 (Int32.toNatClampNeg z196) := (show agr [(0, 76)] [77, 78, 79] V16 V191 from (agr.tr agr.rf ajV191 (by decide) (by decide))) 44 _ rfl
        have q44 : V16 44 (12 * nwh V16 + Int32.toNatClampNeg z182) = V16 44 (Int32.toNatClampNeg z196) := by rw [kz]
        have q44i := congrArg Int32.toInt q44
        have e44i := congrArg Int32.toInt e44
        have pq199 : (V16 44 (Int32.toNatClampNeg z196)).toInt = ((V 44 (Int32.toNatClampNeg z196))).toInt := congrArg Int32.toInt (ajV16 44 (Int32.toNatClampNeg z196) rfl)
        have pq200 : (V191 44 (Int32.toNatClampNeg z196)).toInt = ((V 44 (Int32.toNatClampNeg z196))).toInt := congrArg Int32.toInt ((ajV191 44 (Int32.toNatClampNeg z196) rfl).trans (ajV16 44 (Int32.toNatClampNeg z196) rfl))
        have q44b : V16 44 (12 * nwh V16 + Int32.toNatClampNeg z182) = V 44 (Int32.toNatClampNeg z196) := q44.trans ((show agr [(0, 60), (0, 65), (0, 68), (0, 69), (0, 73), (0, 76), (0, 90), (0, 91), (0, 92), (0, 93), (0, 95), (0, 96), (0, 98)] [59, 61, 62, 63, 64, 66, 67, 74, 75, 77, 78, 79, 80, 94, 97] V V16 from (agr.tr agr.rf ajV16 (by decide) (by decide))) 44 _ rfl)
        refine va_iald (D := D) (i := z196) hx hb hK hP 37 36 rfl rfl (i_in (a := z196.toInt) rfl (by first | omega | ((try (have i_rt := Imp.go rt (by omega))); omega))) dX12_inside_58 ?_
        refine g_top (v := (V 44 (Int32.toNatClampNeg z196))) ((ajV191 44 (Int32.toNatClampNeg z196) rfl).trans (ajV16 44 (Int32.toNatClampNeg z196) rfl)) ?_
        refine lv_iload_n hx hb dX12_inside_59 rfl (lv_at hl 5 rfl) ?_
        refine lv_iload_n hx hb dX12_inside_60 rfl (lv_at hl 7 rfl) ?_
        refine lv_iload hx hb dX12_inside_61 (lv_at hl 3 rfl) ?_
        refine lv_iconst (v := (-1)) hx hb dX12_inside_63 (by decide) ?_
        have r201 : Int32.toInt (-1) = (-1) := by decide
        have pq202 : (V191 0 65).toInt = ((V16 0 65)).toInt := congrArg Int32.toInt (ajV191 0 65 rfl)
        have pq203 : (V191 0 60).toInt = ((V16 0 60)).toInt := congrArg Int32.toInt (ajV191 0 60 rfl)
        have pq204 : (V191 0 95).toInt = ((V16 0 95)).toInt := congrArg Int32.toInt (ajV191 0 95 rfl)
        have pq205 : (V191 0 73).toInt = ((V16 0 73)).toInt := congrArg Int32.toInt (ajV191 0 73 rfl)
        have pq206 : (V191 0 69).toInt = ((V16 0 69)).toInt := congrArg Int32.toInt (ajV191 0 69 rfl)
        have pq207 : (V191 0 93).toInt = ((V16 0 93)).toInt := congrArg Int32.toInt (ajV191 0 93 rfl)
        have pq208 : (V191 0 98).toInt = ((V16 0 98)).toInt := congrArg Int32.toInt (ajV191 0 98 rfl)
        have rt209 : RT V191 := RT.ag xlp17_11 hMV16 (show agr [(0, 76)] [77, 78, 79] V16 V191 from (agr.tr agr.rf ajV191 (by decide) (by decide))) ⟨⟨rfl, fun _ => rfl, fun _ => rfl, fun _ => rfl, fun _ => rfl, fun _ => rfl, fun _ => rfl⟩, by decide, by decide, rfl, rfl, fun _ => rfl, fun _ => rfl, fun _ => rfl, fun _ => rfl, fun _ => rfl, fun _ => rfl⟩ (c0k.ag (show agr [(0, 76)] [77, 78, 79] V16 V191 from (agr.tr agr.rf ajV191 (by decide) (by decide))) rfl)
        refine gA_int (gA_runV (As := [.int (V 44 (Int32.toNatClampNeg z196)), .int p0, .int p2, .int y15, .int (-1)]) (rest := []) (ci := 12) (q0 := 0) hx hb hml hown hg hP hD hK hS hA hnw hgk (hk_s_works H.size ad kk V191 L (V 44 (Int32.toNatClampNeg z196)) p0 p2 y15 (-1) (0) (10000 * nwh V16) (10000 * nwh V16 + 10000) hMV191 (by first | omega | ((try (have i_rt := Imp.go rt (by omega))); omega)) (by first | omega | ((try (have i_rt := Imp.go rt (by omega))); omega)) (by first | omega | ((try (have i_rt := Imp.go rt (by omega))); omega)) rt209 (show (V191 0 65).toInt ≤ (V191 0 60).toInt from by first | omega | ((try (have i_rt := Imp.go rt (by omega))); omega)) (show (V191 0 95).toInt ≤ (V191 0 65).toInt from by first | omega | ((try (have i_rt := Imp.go rt (by omega))); omega)) (show (V191 0 73).toInt + (V191 0 95).toInt - (V191 0 65).toInt ≤ 999000 from by first | omega | ((try (have i_rt := Imp.go rt (by omega))); omega)) (show (V191 0 76).toInt - (V191 0 69).toInt - (V191 0 73).toInt ≤ 1000000001 from by first | omega | ((try (have i_rt := Imp.go rt (by omega))); omega)) (show 300 - (V191 0 60).toInt ≤ ((d1 : Nat) : Int) from by first | omega | ((try (have i_rt := Imp.go rt (by omega))); omega)) (show 10 - (V191 0 93).toInt ≤ ((d2 : Nat) : Int) from by first | omega | ((try (have i_rt := Imp.go rt (by omega))); omega)) (show p0.toInt < (V191 0 60).toInt from by first | omega | ((try (have i_rt := Imp.go rt (by omega))); omega)) (show (V191 0 98).toInt + 400 * ((d2 : Nat) : Int) + 30 ≤ 19000 from by first | omega | ((try (have i_rt := Imp.go rt (by omega))); omega)) (CE.same (show CE 0 false V16 (10000 * nwh V16) (10000 * nwh V16 + 10000) (V 44 (Int32.toNatClampNeg z196)).toInt.toNat from q44b ▸ wE.2) (Int.le_refl _) (Nat.le_refl _) (fun i _ _ => ⟨(show agr [(0, 76)] [77, 78, 79] V16 V191 from (agr.tr agr.rf ajV191 (by decide) (by decide))) 45 _ rfl, (show agr [(0, 76)] [77, 78, 79] V16 V191 from (agr.tr agr.rf ajV191 (by decide) (by decide))) 46 _ rfl, (show agr [(0, 76)] [77, 78, 79] V16 V191 from (agr.tr agr.rf ajV191 (by decide) (by decide))) 47 _ rfl⟩)) (show ((10000 * nwh V16 + 10000) : Int) ≤ 20000 from by first | omega | ((try (have i_rt := Imp.go rt (by omega))); omega)) (hMV191 27 _).1) w2272 w2274 w136 w172 w2275 rfl rfl hdV_yX12_works ⟨(by show (4 * (d1) + 40 * (d2) + 12) + 1 ≤ (4 * d1 + 40 * d2 + 13); omega), (by show 8 + (6 + 11) + (100 * (d1) + 1000 * (d2) + 460) ≤ (100 * d1 + 1000 * d2 + 500); omega)⟩ rfl hl.1 rfl (Nat.le_of_ble_eq_true rfl) dX12_inside_64 ⟨Nat.le_of_ble_eq_true rfl, Nat.le_of_ble_eq_true rfl⟩) hP hD hK hS hA (fun z210 u211 H locs w212 hP hD hK hS => ?_)
        obtain ⟨V226, L227⟩ := u211
        obtain ⟨hMV226, ajV226, axL227, rgz210, t213, t214, t215, t216, t217, t218, t219, t220, t221, t222, t223, t224, t225⟩ := w212
        have axL227 : L = L227 := Eq.symm axL227
        subst axL227
        have hP : va_P D vwCl (mw ad kk ks.1 V226 L) H := hP
        have hD : va_D A (mw ad kk ks.1 V226 L) := hD
        have hMV226 : rgd bM V226 := hMV226
        have ajV226 : agr [(0, 60), (0, 65), (0, 68), (0, 69), (0, 73), (0, 76), (0, 90), (0, 91), (0, 92), (0, 93), (0, 95), (0, 96), (0, 98)] [59, 61, 62, 63, 64, 66, 67, 74, 75, 77, 78, 79, 80, 94, 97] V191 V226 := ajV226
        have agV226 : agr [(0, 60), (0, 65), (0, 68), (0, 69), (0, 73), (0, 76), (0, 90), (0, 91), (0, 92), (0, 93), (0, 95), (0, 96), (0, 98)] [59, 61, 62, 63, 64, 66, 67, 74, 75, 77, 78, 79, 80, 94, 97] V V226 := agV191.tr ajV226 (by decide) (by decide)
        have rgz210 : 0 ≤ z210.toInt ∧ z210.toInt ≤ 2 := rgz210
        have t213 : (V226 0 93).toInt = (V191 0 93).toInt := t213
        have t214 : (V226 0 98).toInt = (V191 0 98).toInt := t214
        have t215 : (V191 0 60).toInt ≤ (V226 0 60).toInt := t215
        have t216 : (V191 0 65).toInt ≤ (V226 0 65).toInt := t216
        have t217 : (V226 0 65).toInt - (V191 0 65).toInt ≤ (V226 0 60).toInt - (V191 0 60).toInt := t217
        have t218 : (V226 0 73).toInt + (V226 0 95).toInt - (V226 0 65).toInt ≤ (V191 0 73).toInt + (V191 0 95).toInt - (V191 0 65).toInt := t218
        have t219 : (V191 0 73).toInt ≤ (V226 0 73).toInt := t219
        have t220 : (V191 0 69).toInt ≤ (V226 0 69).toInt := t220
        have t221 : (V226 0 95).toInt = (V191 0 95).toInt := t221
        have t222 : (V226 0 76).toInt - (V226 0 69).toInt - (V226 0 73).toInt ≤ (V191 0 76).toInt - (V191 0 69).toInt - (V191 0 73).toInt := t222
        have t223 : Imp (z210.toInt ≠ 2) ((V226 0 76).toInt - (V226 0 69).toInt - (V226 0 73).toInt + 1 ≤ (V191 0 76).toInt - (V191 0 69).toInt - (V191 0 73).toInt) := t223
        have t224 : RT V226 := t224
        have t225 : FRM V191 V226 (-1) := t225
        have r228 : 0 ≤ ((V226 0 93)).toInt ∧ ((V226 0 93)).toInt ≤ 10 := hMV226 0 93
        have r229 : 0 ≤ ((V226 0 98)).toInt ∧ ((V226 0 98)).toInt ≤ 20000 := hMV226 0 98
        have r230 : 0 ≤ ((V226 0 60)).toInt ∧ ((V226 0 60)).toInt ≤ 300 := hMV226 0 60
        have r231 : 0 ≤ ((V226 0 65)).toInt ∧ ((V226 0 65)).toInt ≤ 1000000 := hMV226 0 65
        have r232 : 0 ≤ ((V226 0 73)).toInt ∧ ((V226 0 73)).toInt ≤ 1000000 := hMV226 0 73
        have r233 : 0 ≤ ((V226 0 95)).toInt ∧ ((V226 0 95)).toInt ≤ 300 := hMV226 0 95
        have r234 : 0 ≤ ((V226 0 69)).toInt ∧ ((V226 0 69)).toInt ≤ 3000 := hMV226 0 69
        have r235 : 0 ≤ ((V226 0 76)).toInt ∧ ((V226 0 76)).toInt ≤ 2000000000 := hMV226 0 76
        refine lv_istore (lv' := [(9, .int z210), (8, .int z182), (7, .int y14), (6, .int z10), (5, .int y15), (0, .ref (ad 0)), (1, .int p0), (2, .int p1), (3, .int p2), (4, .int p3)]) hx hb dX12_inside_67 hl (by decide) rfl (fun ls hl => ?_)
        refine lv_iload hx hb dX12_inside_69 (lv_at hl 0 rfl) ?_
        refine lv_if_le (tgt := 77) hx hb dX12_inside_71 (by decide) (fun c236 => ?_) (fun c236 => ?_)
        · skip
          have f237 : z210.toInt ≤ 0 := b_le rfl (by decide) c236
          refine lv_aload_n hx hb dX12_inside_77 rfl (lv_at hl 5 rfl) ?_
          refine va_get (D := D) (ci := 12) (v := .int (V226 0 96)) (C := RX12) (T := TX12) (N := 100) hx hb hg inX12 hown hK hP 0 rfl rfl 96 (by decide) (hg _ w1806) (fun _ h9 => h9) rfl dX12_inside_78 ?_
          refine lv_istore (lv' := [(5, .int (V226 0 96)), (9, .int z210), (8, .int z182), (7, .int y14), (6, .int z10), (0, .ref (ad 0)), (1, .int p0), (2, .int p1), (3, .int p2), (4, .int p3)]) hx hb dX12_inside_81 hl (by decide) rfl (fun ls hl => ?_)
          obtain ⟨z238, ez238⟩ : ∃ y : Int32, y = y14 + 1 := ⟨_, rfl⟩
          have hz238 : z238.toInt = y14.toInt + 1 := i_add ez238 rfl (by decide) (by omega)
          refine lv_iinc (v := z238) (lv' := [(7, .int z238), (5, .int (V226 0 96)), (9, .int z210), (8, .int z182), (6, .int z10), (0, .ref (ad 0)), (1, .int p0), (2, .int p1), (3, .int p2), (4, .int p3)]) hx hb dX12_inside_83 hl (k := 3) rfl (by rw [ez238]; rfl) (by decide) rfl (fun ls hl => ?_)
          refine lv_goto (tgt := 16) hx hb dX12_inside_86 (by decide) ?_
          have fm239 : FRM V V191 (-1) := (FRM.tr xlp17_12 (FRM.ag (show agr [(0, 76)] [77, 78, 79] V16 V191 from (agr.tr agr.rf ajV191 (by decide) (by decide))) ⟨⟨rfl, fun _ => rfl, fun _ => rfl, fun _ => rfl, fun _ => rfl, fun _ => rfl, fun _ => rfl⟩, by decide, by decide, rfl, rfl, fun _ => rfl, fun _ => rfl, fun _ => rfl, fun _ => rfl, fun _ => rfl, fun _ => rfl⟩) agV16 ⟨rfl, fun _ => rfl, fun _ => rfl, fun _ => rfl, fun _ => rfl, fun _ => rfl, fun _ => rfl⟩ (by omega))
          have fm240 : FRM V V226 (-1) := (FRM.tr fm239 t225 agV191 ⟨rfl, fun _ => rfl, fun _ => rfl, fun _ => rfl, fun _ => rfl, fun _ => rfl, fun _ => rfl⟩ (by omega))
          exact ihlp17 z238 (V226 0 96) V226 H locs ls (by first | omega | ((try (have i_t223 := Imp.go t223 (by omega))); (try (have i_rt := Imp.go rt (by omega))); (try (have i_rt := Imp.go rt (by omega))); (try (have i_t223 := Imp.go t223 (by omega))); omega)) (show (V226 0 98).toInt = (V 0 98).toInt from by first | omega | ((try (have i_t223 := Imp.go t223 (by omega))); (try (have i_rt := Imp.go rt (by omega))); (try (have i_rt := Imp.go rt (by omega))); (try (have i_t223 := Imp.go t223 (by omega))); omega)) (show (V226 0 93).toInt = (V 0 93).toInt from by first | omega | ((try (have i_t223 := Imp.go t223 (by omega))); (try (have i_rt := Imp.go rt (by omega))); (try (have i_rt := Imp.go rt (by omega))); (try (have i_t223 := Imp.go t223 (by omega))); omega)) (show (V 0 60).toInt ≤ (V226 0 60).toInt from by first | omega | ((try (have i_t223 := Imp.go t223 (by omega))); (try (have i_rt := Imp.go rt (by omega))); (try (have i_rt := Imp.go rt (by omega))); (try (have i_t223 := Imp.go t223 (by omega))); omega)) (show (V 0 65).toInt ≤ (V226 0 65).toInt from by first | omega | ((try (have i_t223 := Imp.go t223 (by omega))); (try (have i_rt := Imp.go rt (by omega))); (try (have i_rt := Imp.go rt (by omega))); (try (have i_t223 := Imp.go t223 (by omega))); omega)) (show (V226 0 65).toInt - (V 0 65).toInt ≤ (V226 0 60).toInt - (V 0 60).toInt from by first | omega | ((try (have i_t223 := Imp.go t223 (by omega))); (try (have i_rt := Imp.go rt (by omega))); (try (have i_rt := Imp.go rt (by omega))); (try (have i_t223 := Imp.go t223 (by omega))); omega)) (show (V226 0 73).toInt + (V226 0 95).toInt - (V226 0 65).toInt ≤ (V 0 73).toInt + (V 0 95).toInt - (V 0 65).toInt from by first | omega | ((try (have i_t223 := Imp.go t223 (by omega))); (try (have i_rt := Imp.go rt (by omega))); (try (have i_rt := Imp.go rt (by omega))); (try (have i_t223 := Imp.go t223 (by omega))); omega)) (show (V 0 73).toInt ≤ (V226 0 73).toInt from by first | omega | ((try (have i_t223 := Imp.go t223 (by omega))); (try (have i_rt := Imp.go rt (by omega))); (try (have i_rt := Imp.go rt (by omega))); (try (have i_t223 := Imp.go t223 (by omega))); omega)) (show (V 0 69).toInt ≤ (V226 0 69).toInt from by first | omega | ((try (have i_t223 := Imp.go t223 (by omega))); (try (have i_rt := Imp.go rt (by omega))); (try (have i_rt := Imp.go rt (by omega))); (try (have i_t223 := Imp.go t223 (by omega))); omega)) (show (V226 0 95).toInt = (V 0 95).toInt from by first | omega | ((try (have i_t223 := Imp.go t223 (by omega))); (try (have i_rt := Imp.go rt (by omega))); (try (have i_rt := Imp.go rt (by omega))); (try (have i_t223 := Imp.go t223 (by omega))); omega)) (show (V226 0 76).toInt - (V226 0 69).toInt - (V226 0 73).toInt ≤ (V 0 76).toInt - (V 0 69).toInt - (V 0 73).toInt from by first | omega | ((try (have i_t223 := Imp.go t223 (by omega))); (try (have i_rt := Imp.go rt (by omega))); (try (have i_rt := Imp.go rt (by omega))); (try (have i_t223 := Imp.go t223 (by omega))); omega)) (show z238.toInt ≤ z10.toInt from by first | omega | ((try (have i_t223 := Imp.go t223 (by omega))); (try (have i_rt := Imp.go rt (by omega))); (try (have i_rt := Imp.go rt (by omega))); (try (have i_t223 := Imp.go t223 (by omega))); omega)) t224 fm240 (by first | omega | ((try (have i_t223 := Imp.go t223 (by omega))); (try (have i_rt := Imp.go rt (by omega))); (try (have i_rt := Imp.go rt (by omega))); (try (have i_t223 := Imp.go t223 (by omega))); omega)) (agr.tr (agr.tr (agr.tr agr.rf ajV16 (by decide) (by decide)) ajV191 (by decide) (by decide)) ajV226 (by decide) (by decide)) hMV226 hP hD hS (lv_sub hl [0, 4, 1, 5, 6, 7, 8, 9] rfl)
        · skip
          have f241 : 0 < z210.toInt := b_nle rfl (by decide) c236
          refine lv_iload hx hb dX12_inside_74 (lv_at hl 0 rfl) ?_
          have fm242 : FRM V V191 (-1) := (FRM.tr xlp17_12 (FRM.ag (show agr [(0, 76)] [77, 78, 79] V16 V191 from (agr.tr agr.rf ajV191 (by decide) (by decide))) ⟨⟨rfl, fun _ => rfl, fun _ => rfl, fun _ => rfl, fun _ => rfl, fun _ => rfl, fun _ => rfl⟩, by decide, by decide, rfl, rfl, fun _ => rfl, fun _ => rfl, fun _ => rfl, fun _ => rfl, fun _ => rfl, fun _ => rfl⟩) agV16 ⟨rfl, fun _ => rfl, fun _ => rfl, fun _ => rfl, fun _ => rfl, fun _ => rfl, fun _ => rfl⟩ (by omega))
          have fm243 : FRM V V226 (-1) := (FRM.tr fm242 t225 agV191 ⟨rfl, fun _ => rfl, fun _ => rfl, fun _ => rfl, fun _ => rfl, fun _ => rfl, fun _ => rfl⟩ (by omega))
          exact W.iret (v := z210) hx hb hr (fun t ht hW => ⟨⟨z210, (V226, L), rfl, ⟨hMV226, agV226, rfl, (show 0 ≤ z210.toInt ∧ z210.toInt ≤ 2 from by first | omega | ((try (have i_t223 := Imp.go t223 (by omega))); (try (have i_rt := Imp.go rt (by omega))); (try (have i_rt := Imp.go rt (by omega))); (try (have i_t223 := Imp.go t223 (by omega))); omega)), (show (V226 0 93).toInt = (V 0 93).toInt from by first | omega | ((try (have i_t223 := Imp.go t223 (by omega))); (try (have i_rt := Imp.go rt (by omega))); (try (have i_rt := Imp.go rt (by omega))); (try (have i_t223 := Imp.go t223 (by omega))); omega)), (show (V226 0 98).toInt = (V 0 98).toInt from by first | omega | ((try (have i_t223 := Imp.go t223 (by omega))); (try (have i_rt := Imp.go rt (by omega))); (try (have i_rt := Imp.go rt (by omega))); (try (have i_t223 := Imp.go t223 (by omega))); omega)), (show (V 0 60).toInt ≤ (V226 0 60).toInt from by first | omega | ((try (have i_t223 := Imp.go t223 (by omega))); (try (have i_rt := Imp.go rt (by omega))); (try (have i_rt := Imp.go rt (by omega))); (try (have i_t223 := Imp.go t223 (by omega))); omega)), (show (V 0 65).toInt ≤ (V226 0 65).toInt from by first | omega | ((try (have i_t223 := Imp.go t223 (by omega))); (try (have i_rt := Imp.go rt (by omega))); (try (have i_rt := Imp.go rt (by omega))); (try (have i_t223 := Imp.go t223 (by omega))); omega)), (show (V226 0 65).toInt - (V 0 65).toInt ≤ (V226 0 60).toInt - (V 0 60).toInt from by first | omega | ((try (have i_t223 := Imp.go t223 (by omega))); (try (have i_rt := Imp.go rt (by omega))); (try (have i_rt := Imp.go rt (by omega))); (try (have i_t223 := Imp.go t223 (by omega))); omega)), (show (V226 0 73).toInt + (V226 0 95).toInt - (V226 0 65).toInt ≤ (V 0 73).toInt + (V 0 95).toInt - (V 0 65).toInt from by first | omega | ((try (have i_t223 := Imp.go t223 (by omega))); (try (have i_rt := Imp.go rt (by omega))); (try (have i_rt := Imp.go rt (by omega))); (try (have i_t223 := Imp.go t223 (by omega))); omega)), (show (V 0 73).toInt ≤ (V226 0 73).toInt from by first | omega | ((try (have i_t223 := Imp.go t223 (by omega))); (try (have i_rt := Imp.go rt (by omega))); (try (have i_rt := Imp.go rt (by omega))); (try (have i_t223 := Imp.go t223 (by omega))); omega)), (show (V 0 69).toInt ≤ (V226 0 69).toInt from by first | omega | ((try (have i_t223 := Imp.go t223 (by omega))); (try (have i_rt := Imp.go rt (by omega))); (try (have i_rt := Imp.go rt (by omega))); (try (have i_t223 := Imp.go t223 (by omega))); omega)), (show (V226 0 95).toInt = (V 0 95).toInt from by first | omega | ((try (have i_t223 := Imp.go t223 (by omega))); (try (have i_rt := Imp.go rt (by omega))); (try (have i_rt := Imp.go rt (by omega))); (try (have i_t223 := Imp.go t223 (by omega))); omega)), (show (V226 0 76).toInt - (V226 0 69).toInt - (V226 0 73).toInt ≤ (V 0 76).toInt - (V 0 69).toInt - (V 0 73).toInt + 1 from by first | omega | ((try (have i_t223 := Imp.go t223 (by omega))); (try (have i_rt := Imp.go rt (by omega))); (try (have i_rt := Imp.go rt (by omega))); (try (have i_t223 := Imp.go t223 (by omega))); omega)), (Imp.mk (fun hp => have hp : z210.toInt ≠ 2 := hp; (show (V226 0 76).toInt - (V226 0 69).toInt - (V226 0 73).toInt ≤ (V 0 76).toInt - (V 0 69).toInt - (V 0 73).toInt from by first | omega | ((try (have i_t223 := Imp.go t223 (by omega))); (try (have i_rt := Imp.go rt (by omega))); (try (have i_rt := Imp.go rt (by omega))); (try (have i_t223 := Imp.go t223 (by omega))); omega)))), t224, fm243⟩, by rw [ht]; exact hP, va_K.moved hW.alike hK, hD⟩, hS.F ht⟩) hS.2.2 dX12_inside_76
  exact lp17 ((12 - (Int32.toInt 0) + 1 : Int).toNat) 0 p3 V H locs ls (by decide) (show (V 0 98).toInt = (V 0 98).toInt from by first | omega | ((try (have i_rt := Imp.go rt (by omega))); omega)) (show (V 0 93).toInt = (V 0 93).toInt from by first | omega | ((try (have i_rt := Imp.go rt (by omega))); omega)) (show (V 0 60).toInt ≤ (V 0 60).toInt from by first | omega | ((try (have i_rt := Imp.go rt (by omega))); omega)) (show (V 0 65).toInt ≤ (V 0 65).toInt from by first | omega | ((try (have i_rt := Imp.go rt (by omega))); omega)) (show (V 0 65).toInt - (V 0 65).toInt ≤ (V 0 60).toInt - (V 0 60).toInt from by first | omega | ((try (have i_rt := Imp.go rt (by omega))); omega)) (show (V 0 73).toInt + (V 0 95).toInt - (V 0 65).toInt ≤ (V 0 73).toInt + (V 0 95).toInt - (V 0 65).toInt from by first | omega | ((try (have i_rt := Imp.go rt (by omega))); omega)) (show (V 0 73).toInt ≤ (V 0 73).toInt from by first | omega | ((try (have i_rt := Imp.go rt (by omega))); omega)) (show (V 0 69).toInt ≤ (V 0 69).toInt from by first | omega | ((try (have i_rt := Imp.go rt (by omega))); omega)) (show (V 0 95).toInt = (V 0 95).toInt from by first | omega | ((try (have i_rt := Imp.go rt (by omega))); omega)) (show (V 0 76).toInt - (V 0 69).toInt - (V 0 73).toInt ≤ (V 0 76).toInt - (V 0 69).toInt - (V 0 73).toInt from by first | omega | ((try (have i_rt := Imp.go rt (by omega))); omega)) (show (Int32.toInt 0) ≤ z10.toInt from by first | omega | ((try (have i_rt := Imp.go rt (by omega))); omega)) rt (FRM.rf : FRM V V (-1)) (by first | omega | ((try (have i_rt := Imp.go rt (by omega))); omega)) agr.rf hMV hP hD hS (lv_sub hl [0, 1, 2, 3, 4, 5, 6, 7] rfl)
