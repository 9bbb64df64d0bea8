theorem w1802 : Cond.fieldLink RX12 545 "WiringHouseModel" "value" "I" ∈ GW := gw_mem 1802 (by decide +kernel) rfl
theorem w2327 : Cond.code yX12_reckons cX12_reckons 5 (some .int) ∈ GW := gw_mem 2327 (by decide +kernel) rfl
theorem w2324 : Cond.methodLink RX12 560 yX12_reckons ∈ GW := gw_mem 2324 (by decide +kernel) rfl
theorem w2326 : Cond.instanceMethod yX12_reckons ∈ GW := gw_mem 2326 (by decide +kernel) rfl
theorem w150 : Cond.selects RX12 yX12_reckons yX12_reckons ∈ GW := gw_mem 150 (by decide +kernel) rfl
theorem hdV_yX12_reckons : yX12_reckons.cls = RX12 ∧ yX12_reckons.cls ≠ "java/lang/invoke/MethodHandle" ∧ yX12_reckons.cls ≠ "java/lang/invoke/VarHandle" ∧ (parseMethodDescriptor yX12_reckons.desc).map (fun d => d.parameters.length) = some 2 := by decide +kernel
theorem w2311 : Cond.code yX12_ofNeed cX12_ofNeed 10 (some .int) ∈ GW := gw_mem 2311 (by decide +kernel) rfl
theorem w2308 : Cond.methodLink RX12 557 yX12_ofNeed ∈ GW := gw_mem 2308 (by decide +kernel) rfl
theorem w2310 : Cond.instanceMethod yX12_ofNeed ∈ GW := gw_mem 2310 (by decide +kernel) rfl
theorem w146 : Cond.selects RX12 yX12_ofNeed yX12_ofNeed ∈ GW := gw_mem 146 (by decide +kernel) rfl
theorem hdV_yX12_ofNeed : yX12_ofNeed.cls = RX12 ∧ yX12_ofNeed.cls ≠ "java/lang/invoke/MethodHandle" ∧ yX12_ofNeed.cls ≠ "java/lang/invoke/VarHandle" ∧ (parseMethodDescriptor yX12_ofNeed.desc).map (fun d => d.parameters.length) = some 5 := by decide +kernel
theorem dX12_worksAround_0 : decode cX12_worksAround 0 = .ok (.aload_n 0, 1) := by decide +kernel
theorem dX12_worksAround_1 : decode cX12_worksAround 1 = .ok (.getfield 548, 3) := by decide +kernel
theorem dX12_worksAround_4 : decode cX12_worksAround 4 = .ok (.istore 7, 2) := by decide +kernel
theorem dX12_worksAround_6 : decode cX12_worksAround 6 = .ok (.iload_n 1, 1) := by decide +kernel
theorem dX12_worksAround_7 : decode cX12_worksAround 7 = .ok (.istore 8, 2) := by decide +kernel
theorem dX12_worksAround_9 : decode cX12_worksAround 9 = .ok (.iconst 0, 1) := by decide +kernel
theorem dX12_worksAround_10 : decode cX12_worksAround 10 = .ok (.istore 9, 2) := by decide +kernel
theorem dX12_worksAround_12 : decode cX12_worksAround 12 = .ok (.iload 9, 2) := by decide +kernel
theorem dX12_worksAround_14 : decode cX12_worksAround 14 = .ok (.ifCond .ne 180, 3) := by decide +kernel
theorem dX12_worksAround_194 : decode cX12_worksAround 194 = .ok (.iload 9, 2) := by decide +kernel
theorem dX12_worksAround_196 : decode cX12_worksAround 196 = .ok (.ifCond .ne 11, 3) := by decide +kernel
theorem dX12_worksAround_207 : decode cX12_worksAround 207 = .ok (.aload_n 0, 1) := by decide +kernel
theorem dX12_worksAround_208 : decode cX12_worksAround 208 = .ok (.iload 7, 2) := by decide +kernel
theorem dX12_worksAround_210 : decode cX12_worksAround 210 = .ok (.putfield 548, 3) := by decide +kernel
theorem dX12_worksAround_213 : decode cX12_worksAround 213 = .ok (.iload 9, 2) := by decide +kernel
theorem dX12_worksAround_215 : decode cX12_worksAround 215 = .ok (.ireturn, 1) := by decide +kernel
theorem dX12_worksAround_17 : decode cX12_worksAround 17 = .ok (.aload_n 0, 1) := by decide +kernel
theorem dX12_worksAround_18 : decode cX12_worksAround 18 = .ok (.getfield 140, 3) := by decide +kernel
theorem dX12_worksAround_21 : decode cX12_worksAround 21 = .ok (.iload 8, 2) := by decide +kernel
theorem dX12_worksAround_23 : decode cX12_worksAround 23 = .ok (.iaload, 1) := by decide +kernel
theorem dX12_worksAround_24 : decode cX12_worksAround 24 = .ok (.ifCond .eq 170, 3) := by decide +kernel
theorem dX12_worksAround_199 : decode cX12_worksAround 199 = .ok (.aload_n 0, 1) := by decide +kernel
theorem dX12_worksAround_200 : decode cX12_worksAround 200 = .ok (.aload_n 0, 1) := by decide +kernel
theorem dX12_worksAround_201 : decode cX12_worksAround 201 = .ok (.invokevirtual 551, 3) := by decide +kernel
theorem dX12_worksAround_204 : decode cX12_worksAround 204 = .ok (.putfield 545, 3) := by decide +kernel
theorem dX12_worksAround_27 : decode cX12_worksAround 27 = .ok (.aload_n 0, 1) := by decide +kernel
theorem dX12_worksAround_28 : decode cX12_worksAround 28 = .ok (.getfield 140, 3) := by decide +kernel
theorem dX12_worksAround_31 : decode cX12_worksAround 31 = .ok (.iload 8, 2) := by decide +kernel
theorem dX12_worksAround_33 : decode cX12_worksAround 33 = .ok (.iaload, 1) := by decide +kernel
theorem dX12_worksAround_34 : decode cX12_worksAround 34 = .ok (.istore 10, 2) := by decide +kernel
theorem dX12_worksAround_36 : decode cX12_worksAround 36 = .ok (.aload_n 0, 1) := by decide +kernel
theorem dX12_worksAround_37 : decode cX12_worksAround 37 = .ok (.getfield 143, 3) := by decide +kernel
theorem dX12_worksAround_40 : decode cX12_worksAround 40 = .ok (.iload 8, 2) := by decide +kernel
theorem dX12_worksAround_42 : decode cX12_worksAround 42 = .ok (.iaload, 1) := by decide +kernel
theorem dX12_worksAround_43 : decode cX12_worksAround 43 = .ok (.istore 11, 2) := by decide +kernel
theorem dX12_worksAround_45 : decode cX12_worksAround 45 = .ok (.aload_n 0, 1) := by decide +kernel
theorem dX12_worksAround_46 : decode cX12_worksAround 46 = .ok (.getfield 146, 3) := by decide +kernel
theorem dX12_worksAround_49 : decode cX12_worksAround 49 = .ok (.iload 8, 2) := by decide +kernel
theorem dX12_worksAround_51 : decode cX12_worksAround 51 = .ok (.iaload, 1) := by decide +kernel
theorem dX12_worksAround_52 : decode cX12_worksAround 52 = .ok (.istore 12, 2) := by decide +kernel
theorem dX12_worksAround_54 : decode cX12_worksAround 54 = .ok (.iinc 8 1, 3) := by decide +kernel
theorem dX12_worksAround_57 : decode cX12_worksAround 57 = .ok (.iload 10, 2) := by decide +kernel
theorem dX12_worksAround_59 : decode cX12_worksAround 59 = .ok (.bipush 13, 2) := by decide +kernel
theorem dX12_worksAround_61 : decode cX12_worksAround 61 = .ok (.if_icmp .ne 10, 3) := by decide +kernel
theorem dX12_worksAround_71 : decode cX12_worksAround 71 = .ok (.iload 10, 2) := by decide +kernel
theorem dX12_worksAround_73 : decode cX12_worksAround 73 = .ok (.bipush 12, 2) := by decide +kernel
theorem dX12_worksAround_75 : decode cX12_worksAround 75 = .ok (.if_icmp .ne 22, 3) := by decide +kernel
theorem dX12_worksAround_97 : decode cX12_worksAround 97 = .ok (.iload 10, 2) := by decide +kernel
theorem dX12_worksAround_99 : decode cX12_worksAround 99 = .ok (.bipush 15, 2) := by decide +kernel
theorem dX12_worksAround_101 : decode cX12_worksAround 101 = .ok (.if_icmp .ne 30, 3) := by decide +kernel
theorem dX12_worksAround_131 : decode cX12_worksAround 131 = .ok (.iload 10, 2) := by decide +kernel
theorem dX12_worksAround_133 : decode cX12_worksAround 133 = .ok (.bipush 14, 2) := by decide +kernel
theorem dX12_worksAround_135 : decode cX12_worksAround 135 = .ok (.if_icmp .ne 31, 3) := by decide +kernel
theorem dX12_worksAround_166 : decode cX12_worksAround 166 = .ok (.iload 10, 2) := by decide +kernel
theorem dX12_worksAround_168 : decode cX12_worksAround 168 = .ok (.iconst 3, 1) := by decide +kernel
theorem dX12_worksAround_169 : decode cX12_worksAround 169 = .ok (.if_icmp .ne 12, 3) := by decide +kernel
theorem dX12_worksAround_181 : decode cX12_worksAround 181 = .ok (.aload_n 0, 1) := by decide +kernel
theorem dX12_worksAround_182 : decode cX12_worksAround 182 = .ok (.iload 10, 2) := by decide +kernel
theorem dX12_worksAround_184 : decode cX12_worksAround 184 = .ok (.iload 11, 2) := by decide +kernel
theorem dX12_worksAround_186 : decode cX12_worksAround 186 = .ok (.invokevirtual 560, 3) := by decide +kernel
theorem dX12_worksAround_189 : decode cX12_worksAround 189 = .ok (.istore 9, 2) := by decide +kernel
theorem dX12_worksAround_191 : decode cX12_worksAround 191 = .ok (.goto (-179), 3) := by decide +kernel
theorem dX12_worksAround_172 : decode cX12_worksAround 172 = .ok (.aload_n 0, 1) := by decide +kernel
theorem dX12_worksAround_173 : decode cX12_worksAround 173 = .ok (.iload 5, 2) := by decide +kernel
theorem dX12_worksAround_175 : decode cX12_worksAround 175 = .ok (.invokevirtual 554, 3) := by decide +kernel
theorem dX12_worksAround_178 : decode cX12_worksAround 178 = .ok (.goto 13, 3) := by decide +kernel
theorem dX12_worksAround_138 : decode cX12_worksAround 138 = .ok (.aload_n 0, 1) := by decide +kernel
theorem dX12_worksAround_139 : decode cX12_worksAround 139 = .ok (.iload_n 2, 1) := by decide +kernel
theorem dX12_worksAround_140 : decode cX12_worksAround 140 = .ok (.iload 11, 2) := by decide +kernel
theorem dX12_worksAround_142 : decode cX12_worksAround 142 = .ok (.iload 12, 2) := by decide +kernel
theorem dX12_worksAround_144 : decode cX12_worksAround 144 = .ok (.iload 4, 2) := by decide +kernel
theorem dX12_worksAround_146 : decode cX12_worksAround 146 = .ok (.aload_n 0, 1) := by decide +kernel
theorem dX12_worksAround_147 : decode cX12_worksAround 147 = .ok (.invokevirtual 551, 3) := by decide +kernel
theorem dX12_worksAround_150 : decode cX12_worksAround 150 = .ok (.invokevirtual 557, 3) := by decide +kernel
theorem dX12_worksAround_153 : decode cX12_worksAround 153 = .ok (.istore 9, 2) := by decide +kernel
theorem dX12_worksAround_155 : decode cX12_worksAround 155 = .ok (.aload_n 0, 1) := by decide +kernel
theorem dX12_worksAround_156 : decode cX12_worksAround 156 = .ok (.aload_n 0, 1) := by decide +kernel
theorem dX12_worksAround_157 : decode cX12_worksAround 157 = .ok (.getfield 545, 3) := by decide +kernel
theorem dX12_worksAround_160 : decode cX12_worksAround 160 = .ok (.invokevirtual 554, 3) := by decide +kernel
theorem dX12_worksAround_163 : decode cX12_worksAround 163 = .ok (.goto 28, 3) := by decide +kernel
theorem dX12_worksAround_78 : decode cX12_worksAround 78 = .ok (.aload_n 0, 1) := by decide +kernel
theorem dX12_worksAround_79 : decode cX12_worksAround 79 = .ok (.invokevirtual 551, 3) := by decide +kernel
theorem dX12_worksAround_82 : decode cX12_worksAround 82 = .ok (.ifCond .ne 8, 3) := by decide +kernel
theorem dX12_worksAround_90 : decode cX12_worksAround 90 = .ok (.iload 8, 2) := by decide +kernel
theorem dX12_worksAround_92 : decode cX12_worksAround 92 = .ok (.istore 8, 2) := by decide +kernel
theorem dX12_worksAround_94 : decode cX12_worksAround 94 = .ok (.goto 97, 3) := by decide +kernel
theorem dX12_worksAround_85 : decode cX12_worksAround 85 = .ok (.iload 11, 2) := by decide +kernel
theorem dX12_worksAround_87 : decode cX12_worksAround 87 = .ok (.goto 5, 3) := by decide +kernel
theorem dX12_worksAround_64 : decode cX12_worksAround 64 = .ok (.iload 11, 2) := by decide +kernel
theorem dX12_worksAround_66 : decode cX12_worksAround 66 = .ok (.istore 8, 2) := by decide +kernel
theorem dX12_worksAround_68 : decode cX12_worksAround 68 = .ok (.goto 123, 3) := by decide +kernel
theorem dX12_worksAround_104 : decode cX12_worksAround 104 = .ok (.aload_n 0, 1) := by decide +kernel
theorem dX12_worksAround_105 : decode cX12_worksAround 105 = .ok (.iload 6, 2) := by decide +kernel
theorem dX12_worksAround_107 : decode cX12_worksAround 107 = .ok (.iload_n 2, 1) := by decide +kernel
theorem dX12_worksAround_108 : decode cX12_worksAround 108 = .ok (.iload_n 3, 1) := by decide +kernel
theorem dX12_worksAround_109 : decode cX12_worksAround 109 = .ok (.iload 4, 2) := by decide +kernel
theorem dX12_worksAround_111 : decode cX12_worksAround 111 = .ok (.aload_n 0, 1) := by decide +kernel
theorem dX12_worksAround_112 : decode cX12_worksAround 112 = .ok (.invokevirtual 551, 3) := by decide +kernel
theorem dX12_worksAround_115 : decode cX12_worksAround 115 = .ok (.invokevirtual 523, 3) := by decide +kernel
theorem dX12_worksAround_118 : decode cX12_worksAround 118 = .ok (.istore 9, 2) := by decide +kernel
theorem dX12_worksAround_120 : decode cX12_worksAround 120 = .ok (.aload_n 0, 1) := by decide +kernel
theorem dX12_worksAround_121 : decode cX12_worksAround 121 = .ok (.aload_n 0, 1) := by decide +kernel
theorem dX12_worksAround_122 : decode cX12_worksAround 122 = .ok (.getfield 545, 3) := by decide +kernel
theorem dX12_worksAround_125 : decode cX12_worksAround 125 = .ok (.invokevirtual 554, 3) := by decide +kernel
theorem dX12_worksAround_128 : decode cX12_worksAround 128 = .ok (.goto 63, 3) := by decide +kernel
abbrev q_s_ofNeed (D : va_G) (ks : KS) (ad : Nat → Nat) (kk : Nat → ClassId) (V : Vf) (L : Lf) (p0 : Int32) (p1 : Int32) (p2 : Int32) (p3 : Int32) (p4 : Int32) (A : Nat → Prop) : Array Value → State → Outcome → State → Prop := va_Qi (fun (r : Int32) (u : Vf × Lf) => rgd bM u.1 ∧ agr [(0, 60), (0, 65), (0, 68), (0, 69), (0, 73), (0, 76), (0, 90), (0, 91), (0, 92), (0, 93), (0, 95), (0, 96), (0, 98)] [59, 61, 62, 63, 64, 66, 67, 74, 75, 77, 78, 79, 80, 94, 97] V u.1 ∧ u.2 = L ∧ (0 ≤ r.toInt ∧ r.toInt ≤ 2) ∧ ((u.1 0 93).toInt = (V 0 93).toInt) ∧ ((u.1 0 98).toInt = (V 0 98).toInt) ∧ ((V 0 60).toInt ≤ (u.1 0 60).toInt) ∧ ((V 0 65).toInt ≤ (u.1 0 65).toInt) ∧ ((u.1 0 65).toInt - (V 0 65).toInt ≤ (u.1 0 60).toInt - (V 0 60).toInt) ∧ ((u.1 0 73).toInt + (u.1 0 95).toInt - (u.1 0 65).toInt ≤ (V 0 73).toInt + (V 0 95).toInt - (V 0 65).toInt) ∧ ((V 0 73).toInt ≤ (u.1 0 73).toInt) ∧ ((V 0 69).toInt ≤ (u.1 0 69).toInt) ∧ ((u.1 0 95).toInt = (V 0 95).toInt) ∧ ((u.1 0 76).toInt - (u.1 0 69).toInt - (u.1 0 73).toInt ≤ (V 0 76).toInt - (V 0 69).toInt - (V 0 73).toInt) ∧ (RT u.1) ∧ (FRM V u.1 (-1))) (fun u t => gq D A (mw ad kk ks.1 u.1 u.2) (mty kk) t) A
def K_s_ofNeed (l : Launch) (D : va_G) (ks : KS) (d1 d2 : Nat) : Prop := ∀ (sz : Nat) (ad : Nat → Nat) (kk : Nat → ClassId) (V : Vf) (L : Lf) (p0 : Int32) (p1 : Int32) (p2 : Int32) (p3 : Int32) (p4 : Int32) (hMV : rgd bM V) (rg_p0 : 0 ≤ p0.toInt ∧ p0.toInt ≤ 299) (rg_p1 : 0 ≤ p1.toInt ∧ p1.toInt ≤ 7) (rg_p2 : 0 ≤ p2.toInt ∧ p2.toInt ≤ 19) (rg_p3 : 0 ≤ p3.toInt ∧ p3.toInt ≤ 39) (rt : RT V) (n1 : (V 0 65).toInt ≤ (V 0 60).toInt) (n2 : (V 0 95).toInt ≤ (V 0 65).toInt) (n3 : (V 0 73).toInt + (V 0 95).toInt - (V 0 65).toInt ≤ 999000) (n4 : (V 0 76).toInt - (V 0 69).toInt - (V 0 73).toInt ≤ 1000000000) (n5 : 300 - (V 0 60).toInt ≤ (d1 : Int)) (n6 : 10 - (V 0 93).toInt ≤ (d2 : Int)) (oq1 : p0.toInt < (V 0 60).toInt) (n7 : (V 0 98).toInt + 400 * (d2 : Int) ≤ 19000) (nq : p1.toInt < (V 27 (24 * nwh V + Int32.toNatClampNeg (V 61 (Int32.toNatClampNeg p0)))).toInt) , Met l yX12_ofNeed (Cond.code yX12_ofNeed cX12_ofNeed 10 (some .int) :: GW) (rK2 (4 * d1 + 40 * d2 + 10) (100 * d1 + 1000 * d2 + 380)) (va_Pc [.ref (ad 0), .int p0, .int p1, .int p2, .int p3, .int p4] (gp D ks (mw ad kk ks.1 V L) (mty kk) sz)) (q_s_ofNeed D ks ad kk V L p0 p1 p2 p3 p4 (va_A (mw ad kk ks.1 V L) sz)) 0 0 (va_A (mw ad kk ks.1 V L) sz)
abbrev q_s_wA0 (D : va_G) (ks : KS) (ad : Nat → Nat) (kk : Nat → ClassId) (V : Vf) (L : Lf) (p0 : Int32) (p1 : Int32) (p2 : Int32) (p3 : Int32) (p4 : Int32) (p5 : Int32) (nd : Int) (lo : Nat) (hi : Nat) (A : Nat → Prop) : Array Value → State → Outcome → State → Prop := va_Qi (fun (r : Int32) (u : Vf × Lf) => rgd bM u.1 ∧ agr [(0, 60), (0, 65), (0, 68), (0, 69), (0, 73), (0, 76), (0, 90), (0, 91), (0, 92), (0, 93), (0, 95), (0, 96), (0, 98)] [59, 61, 62, 63, 64, 66, 67, 74, 75, 77, 78, 79, 80, 94, 97] V u.1 ∧ u.2 = L ∧ (0 ≤ r.toInt ∧ r.toInt ≤ 2) ∧ ((u.1 0 93).toInt = (V 0 93).toInt) ∧ ((u.1 0 98).toInt = (V 0 98).toInt) ∧ ((V 0 60).toInt ≤ (u.1 0 60).toInt) ∧ ((V 0 65).toInt ≤ (u.1 0 65).toInt) ∧ ((u.1 0 65).toInt - (V 0 65).toInt ≤ (u.1 0 60).toInt - (V 0 60).toInt) ∧ ((u.1 0 73).toInt + (u.1 0 95).toInt - (u.1 0 65).toInt ≤ (V 0 73).toInt + (V 0 95).toInt - (V 0 65).toInt) ∧ ((V 0 73).toInt ≤ (u.1 0 73).toInt) ∧ ((V 0 69).toInt ≤ (u.1 0 69).toInt) ∧ ((u.1 0 95).toInt = (V 0 95).toInt) ∧ ((u.1 0 76).toInt - (u.1 0 69).toInt - (u.1 0 73).toInt ≤ (V 0 76).toInt - (V 0 69).toInt - (V 0 73).toInt) ∧ (Imp (r.toInt ≠ 2) ((u.1 0 76).toInt - (u.1 0 69).toInt - (u.1 0 73).toInt + 1 ≤ (V 0 76).toInt - (V 0 69).toInt - (V 0 73).toInt)) ∧ (RT u.1) ∧ (FRM V u.1 (-1))) (fun u t => gq D A (mw ad kk ks.1 u.1 u.2) (mty kk) t) A
def K_s_wA0 (l : Launch) (D : va_G) (ks : KS) (d1 d2 : Nat) : Prop := ∀ (sz : Nat) (ad : Nat → Nat) (kk : Nat → ClassId) (V : Vf) (L : Lf) (p0 : Int32) (p1 : Int32) (p2 : Int32) (p3 : Int32) (p4 : Int32) (p5 : Int32) (nd : Int) (lo : Nat) (hi : Nat) (hMV : rgd bM V) (rg_p0 : 0 ≤ p0.toInt ∧ p0.toInt ≤ 19999) (rg_p1 : 0 ≤ p1.toInt ∧ p1.toInt ≤ 299) (rg_p3 : 0 ≤ p3.toInt ∧ p3.toInt ≤ 39) (rt : RT V) (n1 : (V 0 65).toInt ≤ (V 0 60).toInt) (n2 : (V 0 95).toInt ≤ (V 0 65).toInt) (n3 : (V 0 73).toInt + (V 0 95).toInt - (V 0 65).toInt ≤ 999000) (n4 : (V 0 76).toInt - (V 0 69).toInt - (V 0 73).toInt ≤ 1000000001) (n5 : 300 - (V 0 60).toInt ≤ (d1 : Int)) (n6 : 10 - (V 0 93).toInt ≤ (d2 : Int)) (oq1 : p1.toInt < (V 0 60).toInt) (n7 : (V 0 98).toInt + 400 * (d2 : Int) + 30 ≤ 19000) (ce : CE nd false V lo hi (Int32.toNatClampNeg p0)) (hq : (hi : Int) ≤ 20000) (ndq : nd ≤ (V 27 (24 * nwh V + Int32.toNatClampNeg (V 61 (Int32.toNatClampNeg p1)))).toInt) , Met l yX12_worksAround (Cond.code yX12_worksAround cX12_worksAround 13 (some .int) :: GW) (rK2 (4 * d1 + 40 * d2 + 11) (100 * d1 + 1000 * d2 + 410)) (va_Pc [.ref (ad 0), .int p0, .int p1, .int p2, .int p3, .int p4, .int p5] (gp D ks (mw ad kk ks.1 V L) (mty kk) sz)) (q_s_wA0 D ks ad kk V L p0 p1 p2 p3 p4 p5 nd lo hi (va_A (mw ad kk ks.1 V L) sz)) 0 0 (va_A (mw ad kk ks.1 V L) sz)
abbrev q_s_wA1 (D : va_G) (ks : KS) (ad : Nat → Nat) (kk : Nat → ClassId) (V : Vf) (L : Lf) (p0 : Int32) (p1 : Int32) (p2 : Int32) (p3 : Int32) (p4 : Int32) (p5 : Int32) (nd : Int) (lo : Nat) (hi : Nat) (A : Nat → Prop) : Array Value → State → Outcome → State → Prop := va_Qi (fun (r : Int32) (u : Vf × Lf) => rgd bM u.1 ∧ agr [(0, 60), (0, 65), (0, 68), (0, 69), (0, 73), (0, 76), (0, 90), (0, 91), (0, 92), (0, 93), (0, 95), (0, 96), (0, 98)] [59, 61, 62, 63, 64, 66, 67, 74, 75, 77, 78, 79, 80, 94, 97] V u.1 ∧ u.2 = L ∧ (0 ≤ r.toInt ∧ r.toInt ≤ 2) ∧ ((u.1 0 93).toInt = (V 0 93).toInt) ∧ ((u.1 0 98).toInt = (V 0 98).toInt) ∧ ((V 0 60).toInt ≤ (u.1 0 60).toInt) ∧ ((V 0 65).toInt ≤ (u.1 0 65).toInt) ∧ ((u.1 0 65).toInt - (V 0 65).toInt ≤ (u.1 0 60).toInt - (V 0 60).toInt) ∧ ((u.1 0 73).toInt + (u.1 0 95).toInt - (u.1 0 65).toInt ≤ (V 0 73).toInt + (V 0 95).toInt - (V 0 65).toInt) ∧ ((V 0 73).toInt ≤ (u.1 0 73).toInt) ∧ ((V 0 69).toInt ≤ (u.1 0 69).toInt) ∧ ((u.1 0 95).toInt = (V 0 95).toInt) ∧ ((u.1 0 76).toInt - (u.1 0 69).toInt - (u.1 0 73).toInt ≤ (V 0 76).toInt - (V 0 69).toInt - (V 0 73).toInt) ∧ (Imp (r.toInt ≠ 2) ((u.1 0 76).toInt - (u.1 0 69).toInt - (u.1 0 73).toInt + 1 ≤ (V 0 76).toInt - (V 0 69).toInt - (V 0 73).toInt)) ∧ (RT u.1) ∧ (FRM V u.1 (-1))) (fun u t => gq D A (mw ad kk ks.1 u.1 u.2) (mty kk) t) A
def K_s_wA1 (l : Launch) (D : va_G) (ks : KS) (d1 d2 d3 : Nat) : Prop := ∀ (sz : Nat) (ad : Nat → Nat) (kk : Nat → ClassId) (V : Vf) (L : Lf) (p0 : Int32) (p1 : Int32) (p2 : Int32) (p3 : Int32) (p4 : Int32) (p5 : Int32) (nd : Int) (lo : Nat) (hi : Nat) (hMV : rgd bM V) (rg_p0 : 0 ≤ p0.toInt ∧ p0.toInt ≤ 19999) (rg_p1 : 0 ≤ p1.toInt ∧ p1.toInt ≤ 299) (rg_p2 : 0 ≤ p2.toInt ∧ p2.toInt ≤ 19) (rg_p3 : 0 ≤ p3.toInt ∧ p3.toInt ≤ 39) (rg_p5 : 1 ≤ p5.toInt ∧ p5.toInt ≤ 12) (rt : RT V) (n1 : (V 0 65).toInt ≤ (V 0 60).toInt) (n2 : (V 0 95).toInt ≤ (V 0 65).toInt) (n3 : (V 0 73).toInt + (V 0 95).toInt - (V 0 65).toInt ≤ 999000) (n4 : (V 0 76).toInt - (V 0 69).toInt - (V 0 73).toInt ≤ 1000000001) (n5 : 300 - (V 0 60).toInt ≤ (d1 : Int)) (n6 : 10 - (V 0 93).toInt ≤ (d2 : Int)) (oq1 : p1.toInt < (V 0 60).toInt) (n7 : (V 0 98).toInt + 400 * (d2 : Int) + 30 * (14 - p5.toInt) ≤ 19000) (ce : CE nd true V lo hi (Int32.toNatClampNeg p0)) (hq : (hi : Int) ≤ 20000) (ndq : nd ≤ (V 27 (24 * nwh V + Int32.toNatClampNeg (V 61 (Int32.toNatClampNeg p1)))).toInt) (n8 : 12 - p5.toInt ≤ (d3 : Int)) , Met l yX12_worksAround (Cond.code yX12_worksAround cX12_worksAround 13 (some .int) :: GW) (rK2 (4 * d1 + 40 * d2 + 15 + 2 * d3) (100 * d1 + 1000 * d2 + 588 + 60 * d3)) (va_Pc [.ref (ad 0), .int p0, .int p1, .int p2, .int p3, .int p4, .int p5] (gp D ks (mw ad kk ks.1 V L) (mty kk) sz)) (q_s_wA1 D ks ad kk V L p0 p1 p2 p3 p4 p5 nd lo hi (va_A (mw ad kk ks.1 V L) sz)) 0 0 (va_A (mw ad kk ks.1 V L) sz)