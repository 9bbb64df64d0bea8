theorem w2238 : Cond.code yX12_begins_ cX12_begins_ 1 none ∈ GW := gw_mem 2238 (by decide +kernel) rfl
theorem w2235 : Cond.methodLink RX12 577 yX12_begins_ ∈ GW := gw_mem 2235 (by decide +kernel) rfl
theorem w2237 : Cond.instanceMethod yX12_begins_ ∈ GW := gw_mem 2237 (by decide +kernel) rfl
theorem w127 : Cond.selects RX12 yX12_begins_ yX12_begins_ ∈ GW := gw_mem 127 (by decide +kernel) rfl
theorem hdV_yX12_begins_ : yX12_begins_.cls = RX12 ∧ yX12_begins_.cls ≠ "java/lang/invoke/MethodHandle" ∧ yX12_begins_.cls ≠ "java/lang/invoke/VarHandle" ∧ (parseMethodDescriptor yX12_begins_.desc).map (fun d => d.parameters.length) = some 0 := by decide +kernel
theorem w2339 : Cond.code yX12_ends cX12_ends 2 (some .boolean) ∈ GW := gw_mem 2339 (by decide +kernel) rfl
theorem w2336 : Cond.methodLink RX12 579 yX12_ends ∈ GW := gw_mem 2336 (by decide +kernel) rfl
theorem w2338 : Cond.instanceMethod yX12_ends ∈ GW := gw_mem 2338 (by decide +kernel) rfl
theorem w152 : Cond.selects RX12 yX12_ends yX12_ends ∈ GW := gw_mem 152 (by decide +kernel) rfl
theorem hdV_yX12_ends : yX12_ends.cls = RX12 ∧ yX12_ends.cls ≠ "java/lang/invoke/MethodHandle" ∧ yX12_ends.cls ≠ "java/lang/invoke/VarHandle" ∧ (parseMethodDescriptor yX12_ends.desc).map (fun d => d.parameters.length) = some 1 := by decide +kernel
theorem dX12_close_0 : decode cX12_close 0 = .ok (.aload_n 0, 1) := by decide +kernel
theorem dX12_close_1 : decode cX12_close 1 = .ok (.iconst 0, 1) := by decide +kernel
theorem dX12_close_2 : decode cX12_close 2 = .ok (.putfield 1, 3) := by decide +kernel
theorem dX12_close_5 : decode cX12_close 5 = .ok (.aload_n 0, 1) := by decide +kernel
theorem dX12_close_6 : decode cX12_close 6 = .ok (.getfield 426, 3) := by decide +kernel
theorem dX12_close_9 : decode cX12_close 9 = .ok (.istore_n 2, 1) := by decide +kernel
theorem dX12_close_10 : decode cX12_close 10 = .ok (.aload_n 0, 1) := by decide +kernel
theorem dX12_close_11 : decode cX12_close 11 = .ok (.getfield 429, 3) := by decide +kernel
theorem dX12_close_14 : decode cX12_close 14 = .ok (.istore_n 3, 1) := by decide +kernel
theorem dX12_close_15 : decode cX12_close 15 = .ok (.aload_n 0, 1) := by decide +kernel
theorem dX12_close_16 : decode cX12_close 16 = .ok (.invokevirtual 577, 3) := by decide +kernel
theorem dX12_close_19 : decode cX12_close 19 = .ok (.aload_n 0, 1) := by decide +kernel
theorem dX12_close_20 : decode cX12_close 20 = .ok (.iload_n 2, 1) := by decide +kernel
theorem dX12_close_21 : decode cX12_close 21 = .ok (.putfield 426, 3) := by decide +kernel
theorem dX12_close_24 : decode cX12_close 24 = .ok (.aload_n 0, 1) := by decide +kernel
theorem dX12_close_25 : decode cX12_close 25 = .ok (.iload_n 3, 1) := by decide +kernel
theorem dX12_close_26 : decode cX12_close 26 = .ok (.putfield 429, 3) := by decide +kernel
theorem dX12_close_29 : decode cX12_close 29 = .ok (.aload_n 0, 1) := by decide +kernel
theorem dX12_close_30 : decode cX12_close 30 = .ok (.iload_n 1, 1) := by decide +kernel
theorem dX12_close_31 : decode cX12_close 31 = .ok (.invokevirtual 574, 3) := by decide +kernel
theorem dX12_close_34 : decode cX12_close 34 = .ok (.ifCond .ne 10, 3) := by decide +kernel
theorem dX12_close_44 : decode cX12_close 44 = .ok (.aload_n 0, 1) := by decide +kernel
theorem dX12_close_45 : decode cX12_close 45 = .ok (.iconst 0, 1) := by decide +kernel
theorem dX12_close_46 : decode cX12_close 46 = .ok (.putfield 588, 3) := by decide +kernel
theorem dX12_close_49 : decode cX12_close 49 = .ok (.aload_n 0, 1) := by decide +kernel
theorem dX12_close_50 : decode cX12_close 50 = .ok (.iload_n 1, 1) := by decide +kernel
theorem dX12_close_51 : decode cX12_close 51 = .ok (.invokevirtual 582, 3) := by decide +kernel
theorem dX12_close_54 : decode cX12_close 54 = .ok (.istore 4, 2) := by decide +kernel
theorem dX12_close_56 : decode cX12_close 56 = .ok (.aload_n 0, 1) := by decide +kernel
theorem dX12_close_57 : decode cX12_close 57 = .ok (.aload_n 0, 1) := by decide +kernel
theorem dX12_close_58 : decode cX12_close 58 = .ok (.getfield 588, 3) := by decide +kernel
theorem dX12_close_61 : decode cX12_close 61 = .ok (.ifCond .eq 8, 3) := by decide +kernel
theorem dX12_close_69 : decode cX12_close 69 = .ok (.iconst 0, 1) := by decide +kernel
theorem dX12_close_70 : decode cX12_close 70 = .ok (.putfield 423, 3) := by decide +kernel
theorem dX12_close_73 : decode cX12_close 73 = .ok (.aload_n 0, 1) := by decide +kernel
theorem dX12_close_74 : decode cX12_close 74 = .ok (.getfield 588, 3) := by decide +kernel
theorem dX12_close_77 : decode cX12_close 77 = .ok (.ifCond .eq 7, 3) := by decide +kernel
theorem dX12_close_84 : decode cX12_close 84 = .ok (.iload 4, 2) := by decide +kernel
theorem dX12_close_86 : decode cX12_close 86 = .ok (.ireturn, 1) := by decide +kernel
theorem dX12_close_64 : decode cX12_close 64 = .ok (.bipush 6, 2) := by decide +kernel
theorem dX12_close_66 : decode cX12_close 66 = .ok (.goto 4, 3) := by decide +kernel
theorem dX12_close_80 : decode cX12_close 80 = .ok (.iconst (-1), 1) := by decide +kernel
theorem dX12_close_81 : decode cX12_close 81 = .ok (.goto 5, 3) := by decide +kernel
theorem dX12_close_37 : decode cX12_close 37 = .ok (.aload_n 0, 1) := by decide +kernel
theorem dX12_close_38 : decode cX12_close 38 = .ok (.iconst 3, 1) := by decide +kernel
theorem dX12_close_39 : decode cX12_close 39 = .ok (.putfield 423, 3) := by decide +kernel
theorem dX12_close_42 : decode cX12_close 42 = .ok (.iconst (-1), 1) := by decide +kernel
theorem dX12_close_43 : decode cX12_close 43 = .ok (.ireturn, 1) := by decide +kernel
theorem dX12_get_0 : decode cX12_get 0 = .ok (.aload_n 0, 1) := by decide +kernel
theorem dX12_get_1 : decode cX12_get 1 = .ok (.iconst 0, 1) := by decide +kernel
theorem dX12_get_2 : decode cX12_get 2 = .ok (.putfield 1, 3) := by decide +kernel
theorem dX12_get_5 : decode cX12_get 5 = .ok (.aload_n 0, 1) := by decide +kernel
theorem dX12_get_6 : decode cX12_get 6 = .ok (.invokevirtual 577, 3) := by decide +kernel
theorem dX12_get_9 : decode cX12_get 9 = .ok (.aload_n 0, 1) := by decide +kernel
theorem dX12_get_10 : decode cX12_get 10 = .ok (.getfield 408, 3) := by decide +kernel
theorem dX12_get_13 : decode cX12_get 13 = .ok (.ifCond .eq 19, 3) := by decide +kernel
theorem dX12_get_32 : decode cX12_get 32 = .ok (.aload_n 0, 1) := by decide +kernel
theorem dX12_get_33 : decode cX12_get 33 = .ok (.aload_n 0, 1) := by decide +kernel
theorem dX12_get_34 : decode cX12_get 34 = .ok (.getfield 408, 3) := by decide +kernel
theorem dX12_get_37 : decode cX12_get 37 = .ok (.ifCond .ne 7, 3) := by decide +kernel
theorem dX12_get_40 : decode cX12_get 40 = .ok (.iconst 4, 1) := by decide +kernel
theorem dX12_get_41 : decode cX12_get 41 = .ok (.goto 16, 3) := by decide +kernel
theorem dX12_get_57 : decode cX12_get 57 = .ok (.putfield 423, 3) := by decide +kernel
theorem dX12_get_60 : decode cX12_get 60 = .ok (.iconst (-1), 1) := by decide +kernel
theorem dX12_get_61 : decode cX12_get 61 = .ok (.ireturn, 1) := by decide +kernel
theorem dX12_get_16 : decode cX12_get 16 = .ok (.aload_n 0, 1) := by decide +kernel
theorem dX12_get_17 : decode cX12_get 17 = .ok (.iload_n 1, 1) := by decide +kernel
theorem dX12_get_18 : decode cX12_get 18 = .ok (.invokevirtual 574, 3) := by decide +kernel
theorem dX12_get_21 : decode cX12_get 21 = .ok (.ifCond .eq 11, 3) := by decide +kernel
theorem dX12_get_44 : decode cX12_get 44 = .ok (.aload_n 0, 1) := by decide +kernel
theorem dX12_get_45 : decode cX12_get 45 = .ok (.iload_n 1, 1) := by decide +kernel
theorem dX12_get_46 : decode cX12_get 46 = .ok (.invokevirtual 574, 3) := by decide +kernel
theorem dX12_get_49 : decode cX12_get 49 = .ok (.ifCond .ne 7, 3) := by decide +kernel
theorem dX12_get_56 : decode cX12_get 56 = .ok (.iconst 4, 1) := by decide +kernel
theorem dX12_get_52 : decode cX12_get 52 = .ok (.iconst 3, 1) := by decide +kernel
theorem dX12_get_53 : decode cX12_get 53 = .ok (.goto 4, 3) := by decide +kernel
theorem dX12_get_24 : decode cX12_get 24 = .ok (.aload_n 0, 1) := by decide +kernel
theorem dX12_get_25 : decode cX12_get 25 = .ok (.iload_n 2, 1) := by decide +kernel
theorem dX12_get_26 : decode cX12_get 26 = .ok (.invokevirtual 438, 3) := by decide +kernel
theorem dX12_get_29 : decode cX12_get 29 = .ok (.ifCond .ne 33, 3) := by decide +kernel
theorem dX12_get_62 : decode cX12_get 62 = .ok (.aload_n 0, 1) := by decide +kernel
theorem dX12_get_63 : decode cX12_get 63 = .ok (.aload_n 0, 1) := by decide +kernel
theorem dX12_get_64 : decode cX12_get 64 = .ok (.iload_n 2, 1) := by decide +kernel
theorem dX12_get_65 : decode cX12_get 65 = .ok (.iload_n 1, 1) := by decide +kernel
theorem dX12_get_66 : decode cX12_get 66 = .ok (.invokevirtual 568, 3) := by decide +kernel
theorem dX12_get_69 : decode cX12_get 69 = .ok (.invokevirtual 579, 3) := by decide +kernel
theorem dX12_get_72 : decode cX12_get 72 = .ok (.ifCond .eq 10, 3) := by decide +kernel
theorem dX12_get_82 : decode cX12_get 82 = .ok (.iconst (-1), 1) := by decide +kernel
theorem dX12_get_83 : decode cX12_get 83 = .ok (.ireturn, 1) := by decide +kernel
theorem dX12_get_75 : decode cX12_get 75 = .ok (.aload_n 0, 1) := by decide +kernel
theorem dX12_get_76 : decode cX12_get 76 = .ok (.getfield 490, 3) := by decide +kernel
theorem dX12_get_79 : decode cX12_get 79 = .ok (.goto 4, 3) := by decide +kernel
theorem dX12_call_0 : decode cX12_call 0 = .ok (.aload_n 0, 1) := by decide +kernel
theorem dX12_call_1 : decode cX12_call 1 = .ok (.iconst 0, 1) := by decide +kernel
theorem dX12_call_2 : decode cX12_call 2 = .ok (.putfield 1, 3) := by decide +kernel
theorem dX12_call_5 : decode cX12_call 5 = .ok (.aload_n 0, 1) := by decide +kernel
theorem dX12_call_6 : decode cX12_call 6 = .ok (.invokevirtual 577, 3) := by decide +kernel
theorem dX12_call_9 : decode cX12_call 9 = .ok (.aload_n 0, 1) := by decide +kernel
theorem dX12_call_10 : decode cX12_call 10 = .ok (.iconst 0, 1) := by decide +kernel
theorem dX12_call_11 : decode cX12_call 11 = .ok (.putfield 420, 3) := by decide +kernel
theorem dX12_call_14 : decode cX12_call 14 = .ok (.iload_n 2, 1) := by decide +kernel
theorem dX12_call_15 : decode cX12_call 15 = .ok (.ifCond .lt 42, 3) := by decide +kernel
theorem dX12_call_57 : decode cX12_call 57 = .ok (.iconst 0, 1) := by decide +kernel
theorem dX12_call_58 : decode cX12_call 58 = .ok (.istore 5, 2) := by decide +kernel
theorem dX12_call_60 : decode cX12_call 60 = .ok (.aload_n 0, 1) := by decide +kernel
theorem dX12_call_61 : decode cX12_call 61 = .ok (.getfield 408, 3) := by decide +kernel
theorem dX12_call_64 : decode cX12_call 64 = .ok (.ifCond .eq 16, 3) := by decide +kernel
theorem dX12_call_80 : decode cX12_call 80 = .ok (.aload_n 0, 1) := by decide +kernel
theorem dX12_call_81 : decode cX12_call 81 = .ok (.aload_n 0, 1) := by decide +kernel
theorem dX12_call_82 : decode cX12_call 82 = .ok (.getfield 408, 3) := by decide +kernel
theorem dX12_call_85 : decode cX12_call 85 = .ok (.ifCond .ne 7, 3) := by decide +kernel
theorem dX12_call_88 : decode cX12_call 88 = .ok (.iconst 4, 1) := by decide +kernel
theorem dX12_call_89 : decode cX12_call 89 = .ok (.goto 16, 3) := by decide +kernel
theorem dX12_call_105 : decode cX12_call 105 = .ok (.putfield 423, 3) := by decide +kernel
theorem dX12_call_108 : decode cX12_call 108 = .ok (.iconst 0, 1) := by decide +kernel
theorem dX12_call_109 : decode cX12_call 109 = .ok (.ireturn, 1) := by decide +kernel
theorem dX12_call_67 : decode cX12_call 67 = .ok (.aload_n 0, 1) := by decide +kernel
theorem dX12_call_68 : decode cX12_call 68 = .ok (.iload_n 1, 1) := by decide +kernel
theorem dX12_call_69 : decode cX12_call 69 = .ok (.invokevirtual 574, 3) := by decide +kernel
theorem dX12_call_72 : decode cX12_call 72 = .ok (.ifCond .eq 8, 3) := by decide +kernel
theorem dX12_call_92 : decode cX12_call 92 = .ok (.aload_n 0, 1) := by decide +kernel
theorem dX12_call_93 : decode cX12_call 93 = .ok (.iload_n 1, 1) := by decide +kernel
theorem dX12_call_94 : decode cX12_call 94 = .ok (.invokevirtual 574, 3) := by decide +kernel
theorem dX12_call_97 : decode cX12_call 97 = .ok (.ifCond .ne 7, 3) := by decide +kernel
theorem dX12_call_104 : decode cX12_call 104 = .ok (.iconst 4, 1) := by decide +kernel
theorem dX12_call_100 : decode cX12_call 100 = .ok (.iconst 3, 1) := by decide +kernel
theorem dX12_call_101 : decode cX12_call 101 = .ok (.goto 4, 3) := by decide +kernel
theorem dX12_call_75 : decode cX12_call 75 = .ok (.iload 5, 2) := by decide +kernel
theorem dX12_call_77 : decode cX12_call 77 = .ok (.ifCond .ne 33, 3) := by decide +kernel
theorem dX12_call_18 : decode cX12_call 18 = .ok (.iload_n 2, 1) := by decide +kernel
theorem dX12_call_19 : decode cX12_call 19 = .ok (.aload_n 0, 1) := by decide +kernel
theorem dX12_call_20 : decode cX12_call 20 = .ok (.getfield 411, 3) := by decide +kernel
theorem dX12_call_23 : decode cX12_call 23 = .ok (.if_icmp .ge 34, 3) := by decide +kernel
theorem dX12_call_26 : decode cX12_call 26 = .ok (.aload_n 0, 1) := by decide +kernel
theorem dX12_call_27 : decode cX12_call 27 = .ok (.getfield 170, 3) := by decide +kernel
theorem dX12_call_30 : decode cX12_call 30 = .ok (.iload_n 2, 1) := by decide +kernel
theorem dX12_call_31 : decode cX12_call 31 = .ok (.iaload, 1) := by decide +kernel
theorem dX12_call_32 : decode cX12_call 32 = .ok (.iconst 1, 1) := by decide +kernel
theorem dX12_call_33 : decode cX12_call 33 = .ok (.if_icmp .ne 24, 3) := by decide +kernel
theorem dX12_call_36 : decode cX12_call 36 = .ok (.iload_n 3, 1) := by decide +kernel
theorem dX12_call_37 : decode cX12_call 37 = .ok (.ifCond .lt 20, 3) := by decide +kernel
theorem dX12_call_40 : decode cX12_call 40 = .ok (.iload_n 3, 1) := by decide +kernel
theorem dX12_call_41 : decode cX12_call 41 = .ok (.aload_n 0, 1) := by decide +kernel
theorem dX12_call_42 : decode cX12_call 42 = .ok (.getfield 110, 3) := by decide +kernel
theorem dX12_call_45 : decode cX12_call 45 = .ok (.aload_n 0, 1) := by decide +kernel
theorem dX12_call_46 : decode cX12_call 46 = .ok (.getfield 286, 3) := by decide +kernel
theorem dX12_call_49 : decode cX12_call 49 = .ok (.iaload, 1) := by decide +kernel
theorem dX12_call_50 : decode cX12_call 50 = .ok (.if_icmp .ge 7, 3) := by decide +kernel
theorem dX12_call_53 : decode cX12_call 53 = .ok (.iconst 1, 1) := by decide +kernel
theorem dX12_call_54 : decode cX12_call 54 = .ok (.goto 4, 3) := by decide +kernel
theorem dX12_call_110 : decode cX12_call 110 = .ok (.aload_n 0, 1) := by decide +kernel
theorem dX12_call_111 : decode cX12_call 111 = .ok (.aload_n 0, 1) := by decide +kernel
theorem dX12_call_112 : decode cX12_call 112 = .ok (.iload_n 2, 1) := by decide +kernel
theorem dX12_call_113 : decode cX12_call 113 = .ok (.iload_n 3, 1) := by decide +kernel
theorem dX12_call_114 : decode cX12_call 114 = .ok (.iload_n 1, 1) := by decide +kernel
theorem dX12_call_115 : decode cX12_call 115 = .ok (.iload 4, 2) := by decide +kernel
theorem dX12_call_117 : decode cX12_call 117 = .ok (.invokevirtual 566, 3) := by decide +kernel
theorem dX12_call_120 : decode cX12_call 120 = .ok (.invokevirtual 579, 3) := by decide +kernel
theorem dX12_call_123 : decode cX12_call 123 = .ok (.ifCond .eq 10, 3) := by decide +kernel
theorem dX12_call_133 : decode cX12_call 133 = .ok (.iconst 0, 1) := by decide +kernel
theorem dX12_call_134 : decode cX12_call 134 = .ok (.ireturn, 1) := by decide +kernel
theorem dX12_call_126 : decode cX12_call 126 = .ok (.aload_n 0, 1) := by decide +kernel
theorem dX12_call_127 : decode cX12_call 127 = .ok (.getfield 545, 3) := by decide +kernel
theorem dX12_call_130 : decode cX12_call 130 = .ok (.goto 4, 3) := by decide +kernel
abbrev r_s_closeAllT : Room := { frames := 1620, cells := 0, slots := 0, locals := 40680 }
abbrev q_s_closeAllT (D : va_G) (ks : KS) (ad : Nat → Nat) (kk : Nat → ClassId) (V : Vf) (L : Lf) (p0 : Int32) (A : Nat → Prop) : Array Value → State → Outcome → State → Prop := q_s_closeAll D ks ad kk V L p0 A
theorem s_closeAllT (l : Launch) (D : va_G) (ks : KS) (sz : Nat) (ad : Nat → Nat) (kk : Nat → ClassId) (V : Vf) (L : Lf) (p0 : Int32) (hMV : rgd bM V) (rg_p0 : 0 ≤ p0.toInt ∧ p0.toInt ≤ 39) (r0 : RT0 V) (n1 : (V 0 65).toInt ≤ (V 0 60).toInt) (n3 : (V 0 73).toInt - (V 0 65).toInt + (mu V : Int) ≤ 998000) (n4 : (V 0 76).toInt - (V 0 69).toInt - (V 0 73).toInt ≤ 1000000000) (m5 : (V 0 98).toInt = 0) (m6 : (V 0 93).toInt = 0) : Met l yX12_closeAll (Cond.code yX12_closeAll cX12_closeAll 5 (some .int) :: GW) r_s_closeAllT (va_Pc [.ref (ad 0), .int p0] (gp D ks (mw ad kk ks.1 V L) (mty kk) sz)) (q_s_closeAllT D ks ad kk V L p0 (va_A (mw ad kk ks.1 V L) sz)) 0 0 (va_A (mw ad kk ks.1 V L) sz) :=
  K_closeAll (l := l) (D := D) (ks := ks) 2 sz ad kk V L p0 hMV rg_p0 r0 n1 n3 n4 m5 m6 (Or.inl (by omega))

abbrev r_s_close2 : Room := { frames := 1621, cells := 0, slots := 0, locals := 40704 }
abbrev q_s_close2 (D : va_G) (ks : KS) (ad : Nat → Nat) (kk : Nat → ClassId) (V : Vf) (L : Lf) (p0 : Int32) (A : Nat → Prop) : Array Value → State → Outcome → State → Prop := va_Qi (fun (r : Int32) (u : Vf × Lf) => rgd bM u.1 ∧ agr [(0, 0), (0, 60), (0, 65), (0, 68), (0, 69), (0, 70), (0, 71), (0, 72), (0, 73), (0, 76), (0, 90), (0, 91), (0, 92), (0, 93), (0, 95), (0, 96), (0, 98), (0, 99)] [56, 59, 61, 62, 63, 64, 66, 67, 74, 75, 77, 78, 79, 80, 94, 97] V u.1 ∧ u.2 = L ∧ ((u.1 0 65).toInt ≤ (u.1 0 60).toInt) ∧ ((u.1 0 73).toInt - (u.1 0 65).toInt ≤ (V 0 73).toInt - (V 0 65).toInt + 300) ∧ ((u.1 0 76).toInt - (u.1 0 69).toInt - (u.1 0 73).toInt ≤ (V 0 76).toInt - (V 0 69).toInt - (V 0 73).toInt + 3000) ∧ (RT0 u.1)) (fun u t => gq D A (mw ad kk ks.1 u.1 u.2) (mty kk) t) A
set_option maxHeartbeats 4000000 in
set_option maxRecDepth 100000 in
theorem s_close2 (l : Launch) (D : va_G) (ks : KS) (sz : Nat) (ad : Nat → Nat) (kk : Nat → ClassId) (V : Vf) (L : Lf) (p0 : Int32) (hMV : rgd bM V) (r0 : RT0 V) (n1 : (V 0 65).toInt ≤ (V 0 60).toInt) (n3 : (V 0 73).toInt - (V 0 65).toInt ≤ 990000) (n4 : (V 0 76).toInt - (V 0 69).toInt - (V 0 73).toInt ≤ 900000000)  : Met l yX12_close (Cond.code yX12_close cX12_close 5 (some .int) :: GW) r_s_close2 (va_Pc [.ref (ad 0), .int p0] (gp D ks (mw ad kk ks.1 V L) (mty kk) sz)) (q_s_close2 D ks ad kk V L p0 (va_A (mw ad kk ks.1 V L) sz)) 0 0 (va_A (mw ad kk ks.1 V L) sz) := by
  refine g_met (q_s_close2 D ks ad kk V L p0) (by decide) (Nat.le_of_ble_eq_true rfl) ?_
  intro p e s m below meth c A ls H locs hx hb hr hml hown hg hlocks hin hnw hgk hP hK hD hS hA hl
  have hown : s.vm.findClass RX12 = some m.cls := hown
  have hl : lv_has ls 5 [(0, .ref (ad 0)), (1, .int p0)] := hl
  have hP : va_P D vwCl (mw ad kk ks.1 V L) H := hP
  have hD : va_D A (mw ad kk ks.1 V L) := hD
  have hK : va_K D vwCl (mty kk) s := hK
  have agV : agr [(0, 0), (0, 60), (0, 65), (0, 68), (0, 69), (0, 70), (0, 71), (0, 72), (0, 73), (0, 76), (0, 90), (0, 91), (0, 92), (0, 93), (0, 95), (0, 96), (0, 98), (0, 99)] [56, 59, 61, 62, 63, 64, 66, 67, 74, 75, 77, 78, 79, 80, 94, 97] V V := agr.rf
  have r1 : 0 ≤ ((V 0 65)).toInt ∧ ((V 0 65)).toInt ≤ 1000000 := hMV 0 65
  have r2 : 0 ≤ ((V 0 60)).toInt ∧ ((V 0 60)).toInt ≤ 300 := hMV 0 60
  have r3 : 0 ≤ ((V 0 73)).toInt ∧ ((V 0 73)).toInt ≤ 1000000 := hMV 0 73
  have r4 : 0 ≤ ((V 0 76)).toInt ∧ ((V 0 76)).toInt ≤ 2000000000 := hMV 0 76
  have r5 : 0 ≤ ((V 0 69)).toInt ∧ ((V 0 69)).toInt ≤ 3000 := hMV 0 69
  have fz : (V 0 95).toInt = 0 := r0.2.2.2.2
  have hl3 : 0 ≤ (V 0 69).toInt ∧ (V 0 69).toInt ≤ 3000 := hMV 0 69
  refine lv_aload_n hx hb dX12_close_0 rfl (lv_at hl 0 rfl) ?_
  refine lv_iconst (v := 0) hx hb dX12_close_1 (by decide) ?_
  refine va_put (D := D) (ci := 12) (v := .int 0) (ty := tyX12 0) (C := RX12) (T := TX12) (N := 100) hx hb hg inX12 tyX12 tyX12_ok nmX12 hown hK hP hD hS 0 rfl rfl 0 (by decide) (hg _ w1710) (fun _ h9 => h9) rfl (tyX12_ok 0 (by decide)) rfl rfl (Nat.le_of_ble_eq_true rfl) dX12_close_2 (fun H locs hP hD hS => ?_)
  obtain ⟨V6, hV6⟩ : ∃ z, z = up2 V 0 0 0 := ⟨_, rfl⟩
  have hP : va_P D vwCl (mw ad kk ks.1 V6 L) H := by rw [hV6]; exact hP
  have hD : va_D A (mw ad kk ks.1 V6 L) := by rw [hV6]; exact hD
  have hMV6 : rgd bM V6 := hMV.put hV6 (i_full _)
  have agV6 : agr [(0, 0), (0, 60), (0, 65), (0, 68), (0, 69), (0, 70), (0, 71), (0, 72), (0, 73), (0, 76), (0, 90), (0, 91), (0, 92), (0, 93), (0, 95), (0, 96), (0, 98), (0, 99)] [56, 59, 61, 62, 63, 64, 66, 67, 74, 75, 77, 78, 79, 80, 94, 97] V V6 := agV.up hV6 rfl
  refine lv_aload_n hx hb dX12_close_5 rfl (lv_at hl 0 rfl) ?_
  refine va_get (D := D) (ci := 12) (v := .int (V6 0 71)) (C := RX12) (T := TX12) (N := 100) hx hb hg inX12 hown hK hP 0 rfl rfl 71 (by decide) (hg _ w1781) (fun _ h9 => h9) rfl dX12_close_6 ?_
  refine g_top (v := (V 0 71)) (up2_k hV6 (by decide)) ?_
  refine lv_istore_n (lv' := [(2, .int (V 0 71)), (0, .ref (ad 0)), (1, .int p0)]) hx hb dX12_close_9 rfl hl (by decide) rfl (fun ls hl => ?_)
  refine lv_aload_n hx hb dX12_close_10 rfl (lv_at hl 1 rfl) ?_
  refine va_get (D := D) (ci := 12) (v := .int (V6 0 72)) (C := RX12) (T := TX12) (N := 100) hx hb hg inX12 hown hK hP 0 rfl rfl 72 (by decide) (hg _ w1782) (fun _ h9 => h9) rfl dX12_close_11 ?_
  refine g_top (v := (V 0 72)) (up2_k hV6 (by decide)) ?_
  refine lv_istore_n (lv' := [(3, .int (V 0 72)), (2, .int (V 0 71)), (0, .ref (ad 0)), (1, .int p0)]) hx hb dX12_close_14 rfl hl (by decide) rfl (fun ls hl => ?_)
  refine lv_aload_n hx hb dX12_close_15 rfl (lv_at hl 2 rfl) ?_
  refine gA_void (gA_runV (As := []) (rest := []) (ci := 12) (q0 := 0) hx hb hml hown hg hP hD hK hS hA hnw hgk (s_begins2 l D ks H.size ad kk V6 L  hMV6 ) w2235 w2237 w127 w172 w2238 rfl rfl hdV_yX12_begins_ ⟨Nat.le_of_ble_eq_true rfl, Nat.le_of_ble_eq_true rfl⟩ rfl hl.1 rfl (Nat.le_of_ble_eq_true rfl) dX12_close_16 ⟨Nat.le_of_ble_eq_true rfl, Nat.le_of_ble_eq_true rfl⟩) hP hD hK hS hA (fun u8 H locs w9 hP hD hK hS => ?_)
  obtain ⟨V14, L15⟩ := u8
  obtain ⟨hMV14, ajV14, axL15, t10, t11, t12, t13⟩ := w9
  have axL15 : L = L15 := Eq.symm axL15
  subst axL15
  have hP : va_P D vwCl (mw ad kk ks.1 V14 L) H := hP
  have hD : va_D A (mw ad kk ks.1 V14 L) := hD
  have hMV14 : rgd bM V14 := hMV14
  have ajV14 : agr [(0, 69), (0, 71), (0, 72), (0, 93), (0, 95), (0, 98)] [] V6 V14 := ajV14
  have agV14 : agr [(0, 0), (0, 60), (0, 65), (0, 68), (0, 69), (0, 70), (0, 71), (0, 72), (0, 73), (0, 76), (0, 90), (0, 91), (0, 92), (0, 93), (0, 95), (0, 96), (0, 98), (0, 99)] [56, 59, 61, 62, 63, 64, 66, 67, 74, 75, 77, 78, 79, 80, 94, 97] V V14 := agV6.tr ajV14 (by decide) (by decide)
  have t10 : (V14 0 69).toInt = 0 := t10
  have t11 : (V14 0 93).toInt = 0 := t11
  have t12 : (V14 0 98).toInt = 0 := t12
  have t13 : (V14 0 95).toInt = 0 := t13
  have r16 : 0 ≤ ((V14 0 69)).toInt ∧ ((V14 0 69)).toInt ≤ 3000 := hMV14 0 69
  have r17 : 0 ≤ ((V14 0 93)).toInt ∧ ((V14 0 93)).toInt ≤ 10 := hMV14 0 93
  have r18 : 0 ≤ ((V14 0 98)).toInt ∧ ((V14 0 98)).toInt ≤ 20000 := hMV14 0 98
  have r19 : 0 ≤ ((V14 0 95)).toInt ∧ ((V14 0 95)).toInt ≤ 300 := hMV14 0 95
  refine lv_aload_n hx hb dX12_close_19 rfl (lv_at hl 2 rfl) ?_
  refine lv_iload_n hx hb dX12_close_20 rfl (lv_at hl 1 rfl) ?_
  refine va_put (D := D) (ci := 12) (v := .int (V 0 71)) (ty := tyX12 71) (C := RX12) (T := TX12) (N := 100) hx hb hg inX12 tyX12 tyX12_ok nmX12 hown hK hP hD hS 0 rfl rfl 71 (by decide) (hg _ w1781) (fun _ h9 => h9) rfl (tyX12_ok 71 (by decide)) rfl rfl (Nat.le_of_ble_eq_true rfl) dX12_close_21 (fun H locs hP hD hS => ?_)
  obtain ⟨V20, hV20⟩ : ∃ z, z = up2 V14 0 71 (V 0 71) := ⟨_, rfl⟩
  have hP : va_P D vwCl (mw ad kk ks.1 V20 L) H := by rw [hV20]; exact hP
  have hD : va_D A (mw ad kk ks.1 V20 L) := by rw [hV20]; exact hD
  have hMV20 : rgd bM V20 := hMV14.put hV20 (i_full _)
  have agV20 : agr [(0, 0), (0, 60), (0, 65), (0, 68), (0, 69), (0, 70), (0, 71), (0, 72), (0, 73), (0, 76), (0, 90), (0, 91), (0, 92), (0, 93), (0, 95), (0, 96), (0, 98), (0, 99)] [56, 59, 61, 62, 63, 64, 66, 67, 74, 75, 77, 78, 79, 80, 94, 97] V V20 := agV14.up hV20 rfl
  refine lv_aload_n hx hb dX12_close_24 rfl (lv_at hl 2 rfl) ?_
  refine lv_iload_n hx hb dX12_close_25 rfl (lv_at hl 0 rfl) ?_
  refine va_put (D := D) (ci := 12) (v := .int (V 0 72)) (ty := tyX12 72) (C := RX12) (T := TX12) (N := 100) hx hb hg inX12 tyX12 tyX12_ok nmX12 hown hK hP hD hS 0 rfl rfl 72 (by decide) (hg _ w1782) (fun _ h9 => h9) rfl (tyX12_ok 72 (by decide)) rfl rfl (Nat.le_of_ble_eq_true rfl) dX12_close_26 (fun H locs hP hD hS => ?_)
  obtain ⟨V21, hV21⟩ : ∃ z, z = up2 V20 0 72 (V 0 72) := ⟨_, rfl⟩
  have hP : va_P D vwCl (mw ad kk ks.1 V21 L) H := by rw [hV21]; exact hP
  have hD : va_D A (mw ad kk ks.1 V21 L) := by rw [hV21]; exact hD
  have hMV21 : rgd bM V21 := hMV20.put hV21 (i_full _)
  have agV21 : agr [(0, 0), (0, 60), (0, 65), (0, 68), (0, 69), (0, 70), (0, 71), (0, 72), (0, 73), (0, 76), (0, 90), (0, 91), (0, 92), (0, 93), (0, 95), (0, 96), (0, 98), (0, 99)] [56, 59, 61, 62, 63, 64, 66, 67, 74, 75, 77, 78, 79, 80, 94, 97] V V21 := agV20.up hV21 rfl
  refine lv_aload_n hx hb dX12_close_29 rfl (lv_at hl 2 rfl) ?_
  refine lv_iload_n hx hb dX12_close_30 rfl (lv_at hl 3 rfl) ?_
  refine gA_int (gA_runV (As := [.int p0]) (rest := []) (ci := 12) (q0 := 0) hx hb hml hown hg hP hD hK hS hA hnw hgk (s_isScope l D ks H.size ad kk V21 L p0 hMV21 ) w2227 w2229 w126 w172 w2230 rfl rfl hdV_yX12_isScope ⟨Nat.le_of_ble_eq_true rfl, Nat.le_of_ble_eq_true rfl⟩ rfl hl.1 rfl (Nat.le_of_ble_eq_true rfl) dX12_close_31 ⟨Nat.le_of_ble_eq_true rfl, Nat.le_of_ble_eq_true rfl⟩) hP hD hK hS hA (fun z22 u23 H locs w24 hP hD hK hS => ?_)
  obtain ⟨rgz22, t25⟩ := w24
  have rgz22 : 0 ≤ z22.toInt ∧ z22.toInt ≤ 1 := rgz22
  have t25 : Imp (z22.toInt = 1) (0 ≤ p0.toInt ∧ p0.toInt < (V21 0 55).toInt) := t25
  have pq26 : (V21 0 55).toInt = ((V 0 55)).toInt := congrArg Int32.toInt ((up2_k hV21 (by decide)).trans ((up2_k hV20 (by decide)).trans ((ajV14 0 55 rfl).trans (up2_k hV6 (by decide)))))
  have r27 : 1 ≤ ((V 0 55)).toInt ∧ ((V 0 55)).toInt ≤ 40 := hMV 0 55
  refine lv_if_ne (tgt := 44) hx hb dX12_close_34 (by decide) (fun c28 => ?_) (fun c28 => ?_)
  · skip
    have f29 : z22.toInt ≠ 0 := b_neq rfl (by decide) c28
    refine lv_aload_n hx hb dX12_close_44 rfl (lv_at hl 2 rfl) ?_
    refine lv_iconst (v := 0) hx hb dX12_close_45 (by decide) ?_
    refine va_put (D := D) (ci := 12) (v := .int 0) (ty := tyX12 99) (C := RX12) (T := TX12) (N := 100) hx hb hg inX12 tyX12 tyX12_ok nmX12 hown hK hP hD hS 0 rfl rfl 99 (by decide) (hg _ w1809) (fun _ h9 => h9) rfl (tyX12_ok 99 (by decide)) rfl rfl (Nat.le_of_ble_eq_true rfl) dX12_close_46 (fun H locs hP hD hS => ?_)
    obtain ⟨V30, hV30⟩ : ∃ z, z = up2 V21 0 99 0 := ⟨_, rfl⟩
    have hP : va_P D vwCl (mw ad kk ks.1 V30 L) H := by rw [hV30]; exact hP
    have hD : va_D A (mw ad kk ks.1 V30 L) := by rw [hV30]; exact hD
    have hMV30 : rgd bM V30 := hMV21.put hV30 (by decide)
    have agV30 : agr [(0, 0), (0, 60), (0, 65), (0, 68), (0, 69), (0, 70), (0, 71), (0, 72), (0, 73), (0, 76), (0, 90), (0, 91), (0, 92), (0, 93), (0, 95), (0, 96), (0, 98), (0, 99)] [56, 59, 61, 62, 63, 64, 66, 67, 74, 75, 77, 78, 79, 80, 94, 97] V V30 := agV21.up hV30 rfl
    have pq31 : (V30 0 60).toInt = ((V 0 60)).toInt := congrArg Int32.toInt ((up2_k hV30 (by decide)).trans ((up2_k hV21 (by decide)).trans ((up2_k hV20 (by decide)).trans ((ajV14 0 60 rfl).trans (up2_k hV6 (by decide))))))
    have ml := mu_le (hMV30 0 60).2
    refine lv_aload_n hx hb dX12_close_49 rfl (lv_at hl 2 rfl) ?_
    refine lv_iload_n hx hb dX12_close_50 rfl (lv_at hl 3 rfl) ?_
    have pq32 : (V30 0 65).toInt = ((V 0 65)).toInt := congrArg Int32.toInt ((up2_k hV30 (by decide)).trans ((up2_k hV21 (by decide)).trans ((up2_k hV20 (by decide)).trans ((ajV14 0 65 rfl).trans (up2_k hV6 (by decide))))))
    have mq33 : mu V30 = mu V := mu_ag (show agr [(0, 0), (0, 69), (0, 71), (0, 72), (0, 93), (0, 95), (0, 98), (0, 99)] [] V V30 from (agr.up (agr.up (agr.up (agr.tr (agr.up agr.rf hV6 rfl) ajV14 (by decide) (by decide)) hV20 rfl) hV21 rfl) hV30 rfl)) rfl (fun _ => rfl)
    have pq34 : (V30 0 73).toInt = ((V 0 73)).toInt := congrArg Int32.toInt ((up2_k hV30 (by decide)).trans ((up2_k hV21 (by decide)).trans ((up2_k hV20 (by decide)).trans ((ajV14 0 73 rfl).trans (up2_k hV6 (by decide))))))
    have pq35 : (V30 0 76).toInt = ((V 0 76)).toInt := congrArg Int32.toInt ((up2_k hV30 (by decide)).trans ((up2_k hV21 (by decide)).trans ((up2_k hV20 (by decide)).trans ((ajV14 0 76 rfl).trans (up2_k hV6 (by decide))))))
    have pq36 : (V30 0 69).toInt = ((V14 0 69)).toInt := congrArg Int32.toInt ((up2_k hV30 (by decide)).trans ((up2_k hV21 (by decide)).trans (up2_k hV20 (by decide))))
    have pq37 : (V30 0 98).toInt = ((V14 0 98)).toInt := congrArg Int32.toInt ((up2_k hV30 (by decide)).trans ((up2_k hV21 (by decide)).trans (up2_k hV20 (by decide))))
    have pq38 : (V30 0 93).toInt = ((V14 0 93)).toInt := congrArg Int32.toInt ((up2_k hV30 (by decide)).trans ((up2_k hV21 (by decide)).trans (up2_k hV20 (by decide))))
    have pq39 : (V30 0 95).toInt = ((V14 0 95)).toInt := congrArg Int32.toInt ((up2_k hV30 (by decide)).trans ((up2_k hV21 (by decide)).trans (up2_k hV20 (by decide))))
    have fz40 : (V 0 95).toInt = 0 := r0.2.2.2.2
    have r041 : RT0 V30 := RT0.ag r0 hMV (show agr [(0, 0), (0, 69), (0, 71), (0, 72), (0, 93), (0, 95), (0, 98), (0, 99)] [] V V30 from (agr.up (agr.up (agr.up (agr.tr (agr.up agr.rf hV6 rfl) ajV14 (by decide) (by decide)) hV20 rfl) hV21 rfl) hV30 rfl)) ⟨⟨rfl, fun _ => rfl, fun _ => rfl, fun _ => rfl, fun _ => rfl, fun _ => rfl, fun _ => rfl⟩, by decide, by decide, rfl, rfl, fun _ => rfl, fun _ => rfl, fun _ => rfl⟩ (c0k.ag (show agr [(0, 0), (0, 69), (0, 71), (0, 72), (0, 93), (0, 95), (0, 98), (0, 99)] [] V V30 from (agr.up (agr.up (agr.up (agr.tr (agr.up agr.rf hV6 rfl) ajV14 (by decide) (by decide)) hV20 rfl) hV21 rfl) hV30 rfl)) rfl) (by omega)
    refine gA_int (gA_runV (As := [.int p0]) (rest := []) (ci := 12) (q0 := 0) hx hb hml hown hg hP hD hK hS hA hnw hgk (s_closeAllT l D ks H.size ad kk V30 L p0 hMV30 (by first | omega | ((try (have i_t25 := Imp.go t25 (by omega))); (try (have i_r0 := Imp.go r0 (by omega))); (try (have i_r0 := Imp.go r0 (by omega))); (try (have i_t25 := Imp.go t25 (by omega))); omega)) r041 (show (V30 0 65).toInt ≤ (V30 0 60).toInt from by first | omega | ((try (have i_t25 := Imp.go t25 (by omega))); (try (have i_r0 := Imp.go r0 (by omega))); (try (have i_r0 := Imp.go r0 (by omega))); (try (have i_t25 := Imp.go t25 (by omega))); omega)) (show (V30 0 73).toInt - (V30 0 65).toInt + (mu V30 : Int) ≤ 998000 from by first | omega | ((try (have i_t25 := Imp.go t25 (by omega))); (try (have i_r0 := Imp.go r0 (by omega))); (try (have i_r0 := Imp.go r0 (by omega))); (try (have i_t25 := Imp.go t25 (by omega))); omega)) (show (V30 0 76).toInt - (V30 0 69).toInt - (V30 0 73).toInt ≤ 1000000000 from by first | omega | ((try (have i_t25 := Imp.go t25 (by omega))); (try (have i_r0 := Imp.go r0 (by omega))); (try (have i_r0 := Imp.go r0 (by omega))); (try (have i_t25 := Imp.go t25 (by omega))); omega)) (show (V30 0 98).toInt = 0 from by first | omega | ((try (have i_t25 := Imp.go t25 (by omega))); (try (have i_r0 := Imp.go r0 (by omega))); (try (have i_r0 := Imp.go r0 (by omega))); (try (have i_t25 := Imp.go t25 (by omega))); omega)) (show (V30 0 93).toInt = 0 from by first | omega | ((try (have i_t25 := Imp.go t25 (by omega))); (try (have i_r0 := Imp.go r0 (by omega))); (try (have i_r0 := Imp.go r0 (by omega))); (try (have i_t25 := Imp.go t25 (by omega))); omega))) w2348 w2350 w153 w172 w2351 rfl rfl hdV_yX12_closeAll ⟨Nat.le_of_ble_eq_true rfl, Nat.le_of_ble_eq_true rfl⟩ rfl hl.1 rfl (Nat.le_of_ble_eq_true rfl) dX12_close_51 ⟨Nat.le_of_ble_eq_true rfl, Nat.le_of_ble_eq_true rfl⟩) hP hD hK hS hA (fun z42 u43 H locs w44 hP hD hK hS => ?_)
    obtain ⟨V51, L52⟩ := u43
    obtain ⟨hMV51, ajV51, axL52, t45, t46, t47, t48, t49, t50⟩ := w44
    have axL52 : L = L52 := Eq.symm axL52
    subst axL52
    have hP : va_P D vwCl (mw ad kk ks.1 V51 L) H := hP
    have hD : va_D A (mw ad kk ks.1 V51 L) := hD
    have hMV51 : rgd bM V51 := hMV51
    have ajV51 : agr [(0, 60), (0, 65), (0, 68), (0, 69), (0, 73), (0, 76), (0, 90), (0, 91), (0, 92), (0, 93), (0, 95), (0, 96), (0, 98), (0, 99)] [56, 59, 61, 62, 63, 64, 66, 67, 74, 75, 77, 78, 79, 80, 94, 97] V30 V51 := ajV51
    have agV51 : agr [(0, 0), (0, 60), (0, 65), (0, 68), (0, 69), (0, 70), (0, 71), (0, 72), (0, 73), (0, 76), (0, 90), (0, 91), (0, 92), (0, 93), (0, 95), (0, 96), (0, 98), (0, 99)] [56, 59, 61, 62, 63, 64, 66, 67, 74, 75, 77, 78, 79, 80, 94, 97] V V51 := agV30.tr ajV51 (by decide) (by decide)
    have t45 : (V51 0 93).toInt = (V30 0 93).toInt := t45
    have t46 : (V51 0 98).toInt = (V30 0 98).toInt := t46
    have t47 : (V51 0 65).toInt ≤ (V51 0 60).toInt := t47
    have t48 : (V51 0 73).toInt - (V51 0 65).toInt + (mu V51 : Int) ≤ (V30 0 73).toInt - (V30 0 65).toInt + (mu V30 : Int) := t48
    have t49 : (V51 0 76).toInt - (V51 0 69).toInt - (V51 0 73).toInt ≤ (V30 0 76).toInt - (V30 0 69).toInt - (V30 0 73).toInt := t49
    have t50 : RT0 V51 := t50
    have r53 : 0 ≤ ((V51 0 93)).toInt ∧ ((V51 0 93)).toInt ≤ 10 := hMV51 0 93
    have r54 : 0 ≤ ((V51 0 98)).toInt ∧ ((V51 0 98)).toInt ≤ 20000 := hMV51 0 98
    have r55 : 0 ≤ ((V51 0 65)).toInt ∧ ((V51 0 65)).toInt ≤ 1000000 := hMV51 0 65
    have r56 : 0 ≤ ((V51 0 60)).toInt ∧ ((V51 0 60)).toInt ≤ 300 := hMV51 0 60
    have r57 : 0 ≤ ((V51 0 73)).toInt ∧ ((V51 0 73)).toInt ≤ 1000000 := hMV51 0 73
    have r58 : 0 ≤ ((V51 0 76)).toInt ∧ ((V51 0 76)).toInt ≤ 2000000000 := hMV51 0 76
    have r59 : 0 ≤ ((V51 0 69)).toInt ∧ ((V51 0 69)).toInt ≤ 3000 := hMV51 0 69
    refine lv_istore (lv' := [(4, .int z42), (3, .int (V 0 72)), (2, .int (V 0 71)), (0, .ref (ad 0)), (1, .int p0)]) hx hb dX12_close_54 hl (by decide) rfl (fun ls hl => ?_)
    refine lv_aload_n hx hb dX12_close_56 rfl (lv_at hl 3 rfl) ?_
    refine lv_aload_n hx hb dX12_close_57 rfl (lv_at hl 3 rfl) ?_
    refine va_get (D := D) (ci := 12) (v := .int (V51 0 99)) (C := RX12) (T := TX12) (N := 100) hx hb hg inX12 hown hK hP 0 rfl rfl 99 (by decide) (hg _ w1809) (fun _ h9 => h9) rfl dX12_close_58 ?_
    have r60 : 0 ≤ ((V51 0 99)).toInt ∧ ((V51 0 99)).toInt ≤ 1 := hMV51 0 99
    refine lv_if_eq (tgt := 69) hx hb dX12_close_61 (by decide) (fun c61 => ?_) (fun c61 => ?_)
    · skip
      have f62 : ((V51 0 99)).toInt = 0 := b_eq rfl (by decide) c61
      refine lv_iconst (v := 0) hx hb dX12_close_69 (by decide) ?_
      refine va_put (D := D) (ci := 12) (v := .int 0) (ty := tyX12 70) (C := RX12) (T := TX12) (N := 100) hx hb hg inX12 tyX12 tyX12_ok nmX12 hown hK hP hD hS 0 rfl rfl 70 (by decide) (hg _ w1780) (fun _ h9 => h9) rfl (tyX12_ok 70 (by decide)) rfl rfl (Nat.le_of_ble_eq_true rfl) dX12_close_70 (fun H locs hP hD hS => ?_)
      obtain ⟨V63, hV63⟩ : ∃ z, z = up2 V51 0 70 0 := ⟨_, rfl⟩
      have hP : va_P D vwCl (mw ad kk ks.1 V63 L) H := by rw [hV63]; exact hP
      have hD : va_D A (mw ad kk ks.1 V63 L) := by rw [hV63]; exact hD
      have hMV63 : rgd bM V63 := hMV51.put hV63 (i_full _)
      have agV63 : agr [(0, 0), (0, 60), (0, 65), (0, 68), (0, 69), (0, 70), (0, 71), (0, 72), (0, 73), (0, 76), (0, 90), (0, 91), (0, 92), (0, 93), (0, 95), (0, 96), (0, 98), (0, 99)] [56, 59, 61, 62, 63, 64, 66, 67, 74, 75, 77, 78, 79, 80, 94, 97] V V63 := agV51.up hV63 rfl
      refine lv_aload_n hx hb dX12_close_73 rfl (lv_at hl 3 rfl) ?_
      refine va_get (D := D) (ci := 12) (v := .int (V63 0 99)) (C := RX12) (T := TX12) (N := 100) hx hb hg inX12 hown hK hP 0 rfl rfl 99 (by decide) (hg _ w1809) (fun _ h9 => h9) rfl dX12_close_74 ?_
      refine g_top (v := (V51 0 99)) (up2_k hV63 (by decide)) ?_
      refine lv_if_eq (tgt := 84) hx hb dX12_close_77 (by decide) (fun c64 => ?_) (fun c64 => ?_)
      · skip
        have f65 : ((V51 0 99)).toInt = 0 := b_eq rfl (by decide) c64
        refine lv_iload hx hb dX12_close_84 (lv_at hl 0 rfl) ?_
        have pq66 : (V63 0 65).toInt = ((V51 0 65)).toInt := congrArg Int32.toInt (up2_k hV63 (by decide))
        have pq67 : (V63 0 60).toInt = ((V51 0 60)).toInt := congrArg Int32.toInt (up2_k hV63 (by decide))
        have pq68 : (V63 0 73).toInt = ((V51 0 73)).toInt := congrArg Int32.toInt (up2_k hV63 (by decide))
        have pq69 : (V63 0 76).toInt = ((V51 0 76)).toInt := congrArg Int32.toInt (up2_k hV63 (by decide))
        have pq70 : (V63 0 69).toInt = ((V51 0 69)).toInt := congrArg Int32.toInt (up2_k hV63 (by decide))
        have pq71 : (V63 0 95).toInt = ((V51 0 95)).toInt := congrArg Int32.toInt (up2_k hV63 (by decide))
        have r72 : 0 ≤ ((V51 0 95)).toInt ∧ ((V51 0 95)).toInt ≤ 300 := hMV51 0 95
        have fz73 : (V51 0 95).toInt = 0 := t50.2.2.2.2
        have r074 : RT0 V63 := RT0.ag t50 hMV51 (show agr [(0, 70)] [] V51 V63 from (agr.up agr.rf hV63 rfl)) ⟨⟨rfl, fun _ => rfl, fun _ => rfl, fun _ => rfl, fun _ => rfl, fun _ => rfl, fun _ => rfl⟩, by decide, by decide, rfl, rfl, fun _ => rfl, fun _ => rfl, fun _ => rfl⟩ (c0k.ag (show agr [(0, 70)] [] V51 V63 from (agr.up agr.rf hV63 rfl)) rfl) (by omega)
        exact W.iret (v := z42) hx hb hr (fun t ht hW => ⟨⟨z42, (V63, L), rfl, ⟨hMV63, agV63, rfl, (show (V63 0 65).toInt ≤ (V63 0 60).toInt from by first | omega | ((try (have i_t25 := Imp.go t25 (by omega))); (try (have i_r0 := Imp.go r0 (by omega))); (try (have i_r0 := Imp.go r0 (by omega))); (try (have i_t25 := Imp.go t25 (by omega))); omega)), (show (V63 0 73).toInt - (V63 0 65).toInt ≤ (V 0 73).toInt - (V 0 65).toInt + 300 from by first | omega | ((try (have i_t25 := Imp.go t25 (by omega))); (try (have i_r0 := Imp.go r0 (by omega))); (try (have i_r0 := Imp.go r0 (by omega))); (try (have i_t25 := Imp.go t25 (by omega))); omega)), (show (V63 0 76).toInt - (V63 0 69).toInt - (V63 0 73).toInt ≤ (V 0 76).toInt - (V 0 69).toInt - (V 0 73).toInt + 3000 from by first | omega | ((try (have i_t25 := Imp.go t25 (by omega))); (try (have i_r0 := Imp.go r0 (by omega))); (try (have i_r0 := Imp.go r0 (by omega))); (try (have i_t25 := Imp.go t25 (by omega))); omega)), r074⟩, by rw [ht]; exact hP, va_K.moved hW.alike hK, hD⟩, hS.F ht⟩) hS.2.2 dX12_close_86
      · skip
        have f75 : ((V51 0 99)).toInt ≠ 0 := b_neq rfl (by decide) c64
        exfalso; first | omega | ((try (have i_t25 := Imp.go t25 (by omega))); (try (have i_r0 := Imp.go r0 (by omega))); (try (have i_r0 := Imp.go r0 (by omega))); (try (have i_t25 := Imp.go t25 (by omega))); omega)
    · skip
      have f76 : ((V51 0 99)).toInt ≠ 0 := b_neq rfl (by decide) c61
      refine lv_bipush (v := 6) hx hb dX12_close_64 (by decide) ?_
      refine lv_goto (tgt := 70) hx hb dX12_close_66 (by decide) ?_
      refine va_put (D := D) (ci := 12) (v := .int 6) (ty := tyX12 70) (C := RX12) (T := TX12) (N := 100) hx hb hg inX12 tyX12 tyX12_ok nmX12 hown hK hP hD hS 0 rfl rfl 70 (by decide) (hg _ w1780) (fun _ h9 => h9) rfl (tyX12_ok 70 (by decide)) rfl rfl (Nat.le_of_ble_eq_true rfl) dX12_close_70 (fun H locs hP hD hS => ?_)
      obtain ⟨V77, hV77⟩ : ∃ z, z = up2 V51 0 70 6 := ⟨_, rfl⟩
      have hP : va_P D vwCl (mw ad kk ks.1 V77 L) H := by rw [hV77]; exact hP
      have hD : va_D A (mw ad kk ks.1 V77 L) := by rw [hV77]; exact hD
      have hMV77 : rgd bM V77 := hMV51.put hV77 (i_full _)
      have agV77 : agr [(0, 0), (0, 60), (0, 65), (0, 68), (0, 69), (0, 70), (0, 71), (0, 72), (0, 73), (0, 76), (0, 90), (0, 91), (0, 92), (0, 93), (0, 95), (0, 96), (0, 98), (0, 99)] [56, 59, 61, 62, 63, 64, 66, 67, 74, 75, 77, 78, 79, 80, 94, 97] V V77 := agV51.up hV77 rfl
      refine lv_aload_n hx hb dX12_close_73 rfl (lv_at hl 3 rfl) ?_
      refine va_get (D := D) (ci := 12) (v := .int (V77 0 99)) (C := RX12) (T := TX12) (N := 100) hx hb hg inX12 hown hK hP 0 rfl rfl 99 (by decide) (hg _ w1809) (fun _ h9 => h9) rfl dX12_close_74 ?_
      refine g_top (v := (V51 0 99)) (up2_k hV77 (by decide)) ?_
      refine lv_if_eq (tgt := 84) hx hb dX12_close_77 (by decide) (fun c78 => ?_) (fun c78 => ?_)
      · skip
        have f79 : ((V51 0 99)).toInt = 0 := b_eq rfl (by decide) c78
        exfalso; first | omega | ((try (have i_t25 := Imp.go t25 (by omega))); (try (have i_r0 := Imp.go r0 (by omega))); (try (have i_r0 := Imp.go r0 (by omega))); (try (have i_t25 := Imp.go t25 (by omega))); omega)
      · skip
        have f80 : ((V51 0 99)).toInt ≠ 0 := b_neq rfl (by decide) c78
        refine lv_iconst (v := (-1)) hx hb dX12_close_80 (by decide) ?_
        refine lv_goto (tgt := 86) hx hb dX12_close_81 (by decide) ?_
        have pq81 : (V77 0 65).toInt = ((V51 0 65)).toInt := congrArg Int32.toInt (up2_k hV77 (by decide))
        have pq82 : (V77 0 60).toInt = ((V51 0 60)).toInt := congrArg Int32.toInt (up2_k hV77 (by decide))
        have pq83 : (V77 0 73).toInt = ((V51 0 73)).toInt := congrArg Int32.toInt (up2_k hV77 (by decide))
        have pq84 : (V77 0 76).toInt = ((V51 0 76)).toInt := congrArg Int32.toInt (up2_k hV77 (by decide))
        have pq85 : (V77 0 69).toInt = ((V51 0 69)).toInt := congrArg Int32.toInt (up2_k hV77 (by decide))
        have pq86 : (V77 0 95).toInt = ((V51 0 95)).toInt := congrArg Int32.toInt (up2_k hV77 (by decide))
        have r87 : 0 ≤ ((V51 0 95)).toInt ∧ ((V51 0 95)).toInt ≤ 300 := hMV51 0 95
        have fz88 : (V51 0 95).toInt = 0 := t50.2.2.2.2
        have r089 : RT0 V77 := RT0.ag t50 hMV51 (show agr [(0, 70)] [] V51 V77 from (agr.up agr.rf hV77 rfl)) ⟨⟨rfl, fun _ => rfl, fun _ => rfl, fun _ => rfl, fun _ => rfl, fun _ => rfl, fun _ => rfl⟩, by decide, by decide, rfl, rfl, fun _ => rfl, fun _ => rfl, fun _ => rfl⟩ (c0k.ag (show agr [(0, 70)] [] V51 V77 from (agr.up agr.rf hV77 rfl)) rfl) (by omega)
        exact W.iret (v := (-1)) hx hb hr (fun t ht hW => ⟨⟨(-1), (V77, L), rfl, ⟨hMV77, agV77, rfl, (show (V77 0 65).toInt ≤ (V77 0 60).toInt from by first | omega | ((try (have i_t25 := Imp.go t25 (by omega))); (try (have i_r0 := Imp.go r0 (by omega))); (try (have i_r0 := Imp.go r0 (by omega))); (try (have i_t25 := Imp.go t25 (by omega))); omega)), (show (V77 0 73).toInt - (V77 0 65).toInt ≤ (V 0 73).toInt - (V 0 65).toInt + 300 from by first | omega | ((try (have i_t25 := Imp.go t25 (by omega))); (try (have i_r0 := Imp.go r0 (by omega))); (try (have i_r0 := Imp.go r0 (by omega))); (try (have i_t25 := Imp.go t25 (by omega))); omega)), (show (V77 0 76).toInt - (V77 0 69).toInt - (V77 0 73).toInt ≤ (V 0 76).toInt - (V 0 69).toInt - (V 0 73).toInt + 3000 from by first | omega | ((try (have i_t25 := Imp.go t25 (by omega))); (try (have i_r0 := Imp.go r0 (by omega))); (try (have i_r0 := Imp.go r0 (by omega))); (try (have i_t25 := Imp.go t25 (by omega))); omega)), r089⟩, by rw [ht]; exact hP, va_K.moved hW.alike hK, hD⟩, hS.F ht⟩) hS.2.2 dX12_close_86
  · skip
    have f90 : z22.toInt = 0 := b_eq rfl (by decide) c28
    refine lv_aload_n hx hb dX12_close_37 rfl (lv_at hl 2 rfl) ?_
    refine lv_iconst (v := 3) hx hb dX12_close_38 (by decide) ?_
    refine va_put (D := D) (ci := 12) (v := .int 3) (ty := tyX12 70) (C := RX12) (T := TX12) (N := 100) hx hb hg inX12 tyX12 tyX12_ok nmX12 hown hK hP hD hS 0 rfl rfl 70 (by decide) (hg _ w1780) (fun _ h9 => h9) rfl (tyX12_ok 70 (by decide)) rfl rfl (Nat.le_of_ble_eq_true rfl) dX12_close_39 (fun H locs hP hD hS => ?_)
    obtain ⟨V91, hV91⟩ : ∃ z, z = up2 V21 0 70 3 := ⟨_, rfl⟩
    have hP : va_P D vwCl (mw ad kk ks.1 V91 L) H := by rw [hV91]; exact hP
    have hD : va_D A (mw ad kk ks.1 V91 L) := by rw [hV91]; exact hD
    have hMV91 : rgd bM V91 := hMV21.put hV91 (i_full _)
    have agV91 : agr [(0, 0), (0, 60), (0, 65), (0, 68), (0, 69), (0, 70), (0, 71), (0, 72), (0, 73), (0, 76), (0, 90), (0, 91), (0, 92), (0, 93), (0, 95), (0, 96), (0, 98), (0, 99)] [56, 59, 61, 62, 63, 64, 66, 67, 74, 75, 77, 78, 79, 80, 94, 97] V V91 := agV21.up hV91 rfl
    refine lv_iconst (v := (-1)) hx hb dX12_close_42 (by decide) ?_
    have pq92 : (V91 0 65).toInt = ((V 0 65)).toInt := congrArg Int32.toInt ((up2_k hV91 (by decide)).trans ((up2_k hV21 (by decide)).trans ((up2_k hV20 (by decide)).trans ((ajV14 0 65 rfl).trans (up2_k hV6 (by decide))))))
    have pq93 : (V91 0 60).toInt = ((V 0 60)).toInt := congrArg Int32.toInt ((up2_k hV91 (by decide)).trans ((up2_k hV21 (by decide)).trans ((up2_k hV20 (by decide)).trans ((ajV14 0 60 rfl).trans (up2_k hV6 (by decide))))))
    have pq94 : (V91 0 73).toInt = ((V 0 73)).toInt := congrArg Int32.toInt ((up2_k hV91 (by decide)).trans ((up2_k hV21 (by decide)).trans ((up2_k hV20 (by decide)).trans ((ajV14 0 73 rfl).trans (up2_k hV6 (by decide))))))
    have pq95 : (V91 0 76).toInt = ((V 0 76)).toInt := congrArg Int32.toInt ((up2_k hV91 (by decide)).trans ((up2_k hV21 (by decide)).trans ((up2_k hV20 (by decide)).trans ((ajV14 0 76 rfl).trans (up2_k hV6 (by decide))))))
    have pq96 : (V91 0 69).toInt = ((V14 0 69)).toInt := congrArg Int32.toInt ((up2_k hV91 (by decide)).trans ((up2_k hV21 (by decide)).trans (up2_k hV20 (by decide))))
    have pq97 : (V91 0 95).toInt = ((V14 0 95)).toInt := congrArg Int32.toInt ((up2_k hV91 (by decide)).trans ((up2_k hV21 (by decide)).trans (up2_k hV20 (by decide))))
    have fz98 : (V 0 95).toInt = 0 := r0.2.2.2.2
    have r099 : RT0 V91 := RT0.ag r0 hMV (show agr [(0, 0), (0, 69), (0, 70), (0, 71), (0, 72), (0, 93), (0, 95), (0, 98)] [] V V91 from (agr.up (agr.up (agr.up (agr.tr (agr.up agr.rf hV6 rfl) ajV14 (by decide) (by decide)) hV20 rfl) hV21 rfl) hV91 rfl)) ⟨⟨rfl, fun _ => rfl, fun _ => rfl, fun _ => rfl, fun _ => rfl, fun _ => rfl, fun _ => rfl⟩, by decide, by decide, rfl, rfl, fun _ => rfl, fun _ => rfl, fun _ => rfl⟩ (c0k.ag (show agr [(0, 0), (0, 69), (0, 70), (0, 71), (0, 72), (0, 93), (0, 95), (0, 98)] [] V V91 from (agr.up (agr.up (agr.up (agr.tr (agr.up agr.rf hV6 rfl) ajV14 (by decide) (by decide)) hV20 rfl) hV21 rfl) hV91 rfl)) rfl) (by omega)
    exact W.iret (v := (-1)) hx hb hr (fun t ht hW => ⟨⟨(-1), (V91, L), rfl, ⟨hMV91, agV91, rfl, (show (V91 0 65).toInt ≤ (V91 0 60).toInt from by first | omega | ((try (have i_t25 := Imp.go t25 (by omega))); (try (have i_r0 := Imp.go r0 (by omega))); (try (have i_r0 := Imp.go r0 (by omega))); (try (have i_t25 := Imp.go t25 (by omega))); omega)), (show (V91 0 73).toInt - (V91 0 65).toInt ≤ (V 0 73).toInt - (V 0 65).toInt + 300 from by first | omega | ((try (have i_t25 := Imp.go t25 (by omega))); (try (have i_r0 := Imp.go r0 (by omega))); (try (have i_r0 := Imp.go r0 (by omega))); (try (have i_t25 := Imp.go t25 (by omega))); omega)), (show (V91 0 76).toInt - (V91 0 69).toInt - (V91 0 73).toInt ≤ (V 0 76).toInt - (V 0 69).toInt - (V 0 73).toInt + 3000 from by first | omega | ((try (have i_t25 := Imp.go t25 (by omega))); (try (have i_r0 := Imp.go r0 (by omega))); (try (have i_r0 := Imp.go r0 (by omega))); (try (have i_t25 := Imp.go t25 (by omega))); omega)), r099⟩, by rw [ht]; exact hP, va_K.moved hW.alike hK, hD⟩, hS.F ht⟩) hS.2.2 dX12_close_43
abbrev r_s_get2 : Room := { frames := 1617, cells := 0, slots := 0, locals := 40647 }
abbrev q_s_get2 (D : va_G) (ks : KS) (ad : Nat → Nat) (kk : Nat → ClassId) (V : Vf) (L : Lf) (p0 : Int32) (p1 : Int32) (A : Nat → Prop) : Array Value → State → Outcome → State → Prop := va_Qi (fun (r : Int32) (u : Vf × Lf) => rgd bM u.1 ∧ agr [(0, 0), (0, 60), (0, 65), (0, 68), (0, 69), (0, 70), (0, 71), (0, 72), (0, 73), (0, 76), (0, 90), (0, 91), (0, 92), (0, 93), (0, 95), (0, 96), (0, 98)] [59, 61, 62, 63, 64, 66, 67, 74, 75, 77, 78, 79, 80, 94, 97] V u.1 ∧ u.2 = L ∧ ((u.1 0 65).toInt ≤ (u.1 0 60).toInt) ∧ ((u.1 0 73).toInt - (u.1 0 65).toInt ≤ (V 0 73).toInt - (V 0 65).toInt + 300) ∧ ((u.1 0 76).toInt - (u.1 0 69).toInt - (u.1 0 73).toInt ≤ (V 0 76).toInt - (V 0 69).toInt - (V 0 73).toInt + 3000) ∧ (RT0 u.1)) (fun u t => gq D A (mw ad kk ks.1 u.1 u.2) (mty kk) t) A
set_option maxHeartbeats 4000000 in
set_option maxRecDepth 100000 in
theorem s_get2 (l : Launch) (D : va_G) (ks : KS) (sz : Nat) (ad : Nat → Nat) (kk : Nat → ClassId) (V : Vf) (L : Lf) (p0 : Int32) (p1 : Int32) (hMV : rgd bM V) (r0 : RT0 V) (n1 : (V 0 65).toInt ≤ (V 0 60).toInt) (n3 : (V 0 73).toInt - (V 0 65).toInt ≤ 990000) (n4 : (V 0 76).toInt - (V 0 69).toInt - (V 0 73).toInt ≤ 900000000)  : Met l yX12_get (Cond.code yX12_get cX12_get 3 (some .int) :: GW) r_s_get2 (va_Pc [.ref (ad 0), .int p0, .int p1] (gp D ks (mw ad kk ks.1 V L) (mty kk) sz)) (q_s_get2 D ks ad kk V L p0 p1 (va_A (mw ad kk ks.1 V L) sz)) 0 0 (va_A (mw ad kk ks.1 V L) sz) := by
  refine g_met (q_s_get2 D ks ad kk V L p0 p1) (by decide) (Nat.le_of_ble_eq_true rfl) ?_
  intro p e s m below meth c A ls H locs hx hb hr hml hown hg hlocks hin hnw hgk hP hK hD hS hA hl
  have hown : s.vm.findClass RX12 = some m.cls := hown
  have hl : lv_has ls 3 [(0, .ref (ad 0)), (1, .int p0), (2, .int p1)] := hl
  have hP : va_P D vwCl (mw ad kk ks.1 V L) H := hP
  have hD : va_D A (mw ad kk ks.1 V L) := hD
  have hK : va_K D vwCl (mty kk) s := hK
  have agV : agr [(0, 0), (0, 60), (0, 65), (0, 68), (0, 69), (0, 70), (0, 71), (0, 72), (0, 73), (0, 76), (0, 90), (0, 91), (0, 92), (0, 93), (0, 95), (0, 96), (0, 98)] [59, 61, 62, 63, 64, 66, 67, 74, 75, 77, 78, 79, 80, 94, 97] V V := agr.rf
  have r1 : 0 ≤ ((V 0 65)).toInt ∧ ((V 0 65)).toInt ≤ 1000000 := hMV 0 65
  have r2 : 0 ≤ ((V 0 60)).toInt ∧ ((V 0 60)).toInt ≤ 300 := hMV 0 60
  have r3 : 0 ≤ ((V 0 73)).toInt ∧ ((V 0 73)).toInt ≤ 1000000 := hMV 0 73
  have r4 : 0 ≤ ((V 0 76)).toInt ∧ ((V 0 76)).toInt ≤ 2000000000 := hMV 0 76
  have r5 : 0 ≤ ((V 0 69)).toInt ∧ ((V 0 69)).toInt ≤ 3000 := hMV 0 69
  have fz : (V 0 95).toInt = 0 := r0.2.2.2.2
  have hl3 : 0 ≤ (V 0 69).toInt ∧ (V 0 69).toInt ≤ 3000 := hMV 0 69
  refine lv_aload_n hx hb dX12_get_0 rfl (lv_at hl 0 rfl) ?_
  refine lv_iconst (v := 0) hx hb dX12_get_1 (by decide) ?_
  refine va_put (D := D) (ci := 12) (v := .int 0) (ty := tyX12 0) (C := RX12) (T := TX12) (N := 100) hx hb hg inX12 tyX12 tyX12_ok nmX12 hown hK hP hD hS 0 rfl rfl 0 (by decide) (hg _ w1710) (fun _ h9 => h9) rfl (tyX12_ok 0 (by decide)) rfl rfl (Nat.le_of_ble_eq_true rfl) dX12_get_2 (fun H locs hP hD hS => ?_)
  obtain ⟨V6, hV6⟩ : ∃ z, z = up2 V 0 0 0 := ⟨_, rfl⟩
  have hP : va_P D vwCl (mw ad kk ks.1 V6 L) H := by rw [hV6]; exact hP
  have hD : va_D A (mw ad kk ks.1 V6 L) := by rw [hV6]; exact hD
  have hMV6 : rgd bM V6 := hMV.put hV6 (i_full _)
  have agV6 : agr [(0, 0), (0, 60), (0, 65), (0, 68), (0, 69), (0, 70), (0, 71), (0, 72), (0, 73), (0, 76), (0, 90), (0, 91), (0, 92), (0, 93), (0, 95), (0, 96), (0, 98)] [59, 61, 62, 63, 64, 66, 67, 74, 75, 77, 78, 79, 80, 94, 97] V V6 := agV.up hV6 rfl
  refine lv_aload_n hx hb dX12_get_5 rfl (lv_at hl 0 rfl) ?_
  refine gA_void (gA_runV (As := []) (rest := []) (ci := 12) (q0 := 0) hx hb hml hown hg hP hD hK hS hA hnw hgk (s_begins2 l D ks H.size ad kk V6 L  hMV6 ) w2235 w2237 w127 w172 w2238 rfl rfl hdV_yX12_begins_ ⟨Nat.le_of_ble_eq_true rfl, Nat.le_of_ble_eq_true rfl⟩ rfl hl.1 rfl (Nat.le_of_ble_eq_true rfl) dX12_get_6 ⟨Nat.le_of_ble_eq_true rfl, Nat.le_of_ble_eq_true rfl⟩) hP hD hK hS hA (fun u8 H locs w9 hP hD hK hS => ?_)
  obtain ⟨V14, L15⟩ := u8
  obtain ⟨hMV14, ajV14, axL15, t10, t11, t12, t13⟩ := w9
  have axL15 : L = L15 := Eq.symm axL15
  subst axL15
  have hP : va_P D vwCl (mw ad kk ks.1 V14 L) H := hP
  have hD : va_D A (mw ad kk ks.1 V14 L) := hD
  have hMV14 : rgd bM V14 := hMV14
  have ajV14 : agr [(0, 69), (0, 71), (0, 72), (0, 93), (0, 95), (0, 98)] [] V6 V14 := ajV14
  have agV14 : agr [(0, 0), (0, 60), (0, 65), (0, 68), (0, 69), (0, 70), (0, 71), (0, 72), (0, 73), (0, 76), (0, 90), (0, 91), (0, 92), (0, 93), (0, 95), (0, 96), (0, 98)] [59, 61, 62, 63, 64, 66, 67, 74, 75, 77, 78, 79, 80, 94, 97] V V14 := agV6.tr ajV14 (by decide) (by decide)
  have t10 : (V14 0 69).toInt = 0 := t10
  have t11 : (V14 0 93).toInt = 0 := t11
  have t12 : (V14 0 98).toInt = 0 := t12
  have t13 : (V14 0 95).toInt = 0 := t13
  have r16 : 0 ≤ ((V14 0 69)).toInt ∧ ((V14 0 69)).toInt ≤ 3000 := hMV14 0 69
  have r17 : 0 ≤ ((V14 0 93)).toInt ∧ ((V14 0 93)).toInt ≤ 10 := hMV14 0 93
  have r18 : 0 ≤ ((V14 0 98)).toInt ∧ ((V14 0 98)).toInt ≤ 20000 := hMV14 0 98
  have r19 : 0 ≤ ((V14 0 95)).toInt ∧ ((V14 0 95)).toInt ≤ 300 := hMV14 0 95
  refine lv_aload_n hx hb dX12_get_9 rfl (lv_at hl 0 rfl) ?_
  refine va_get (D := D) (ci := 12) (v := .int (V14 0 54)) (C := RX12) (T := TX12) (N := 100) hx hb hg inX12 hown hK hP 0 rfl rfl 54 (by decide) (hg _ w1764) (fun _ h9 => h9) rfl dX12_get_10 ?_
  refine g_top (v := (V 0 54)) ((ajV14 0 54 rfl).trans (up2_k hV6 (by decide))) ?_
  have r20 : 0 ≤ ((V 0 54)).toInt ∧ ((V 0 54)).toInt ≤ 1 := hMV 0 54
  refine lv_if_eq (tgt := 32) hx hb dX12_get_13 (by decide) (fun c21 => ?_) (fun c21 => ?_)
  · skip
    have f22 : ((V 0 54)).toInt = 0 := b_eq rfl (by decide) c21
    refine lv_aload_n hx hb dX12_get_32 rfl (lv_at hl 0 rfl) ?_
    refine lv_aload_n hx hb dX12_get_33 rfl (lv_at hl 0 rfl) ?_
    refine va_get (D := D) (ci := 12) (v := .int (V14 0 54)) (C := RX12) (T := TX12) (N := 100) hx hb hg inX12 hown hK hP 0 rfl rfl 54 (by decide) (hg _ w1764) (fun _ h9 => h9) rfl dX12_get_34 ?_
    refine g_top (v := (V 0 54)) ((ajV14 0 54 rfl).trans (up2_k hV6 (by decide))) ?_
    refine lv_if_ne (tgt := 44) hx hb dX12_get_37 (by decide) (fun c23 => ?_) (fun c23 => ?_)
    · skip
      have f24 : ((V 0 54)).toInt ≠ 0 := b_neq rfl (by decide) c23
      exfalso; first | omega | ((try (have i_r0 := Imp.go r0 (by omega))); omega)
    · skip
      have f25 : ((V 0 54)).toInt = 0 := b_eq rfl (by decide) c23
      refine lv_iconst (v := 4) hx hb dX12_get_40 (by decide) ?_
      refine lv_goto (tgt := 57) hx hb dX12_get_41 (by decide) ?_
      refine va_put (D := D) (ci := 12) (v := .int 4) (ty := tyX12 70) (C := RX12) (T := TX12) (N := 100) hx hb hg inX12 tyX12 tyX12_ok nmX12 hown hK hP hD hS 0 rfl rfl 70 (by decide) (hg _ w1780) (fun _ h9 => h9) rfl (tyX12_ok 70 (by decide)) rfl rfl (Nat.le_of_ble_eq_true rfl) dX12_get_57 (fun H locs hP hD hS => ?_)
      obtain ⟨V26, hV26⟩ : ∃ z, z = up2 V14 0 70 4 := ⟨_, rfl⟩
      have hP : va_P D vwCl (mw ad kk ks.1 V26 L) H := by rw [hV26]; exact hP
      have hD : va_D A (mw ad kk ks.1 V26 L) := by rw [hV26]; exact hD
      have hMV26 : rgd bM V26 := hMV14.put hV26 (i_full _)
      have agV26 : agr [(0, 0), (0, 60), (0, 65), (0, 68), (0, 69), (0, 70), (0, 71), (0, 72), (0, 73), (0, 76), (0, 90), (0, 91), (0, 92), (0, 93), (0, 95), (0, 96), (0, 98)] [59, 61, 62, 63, 64, 66, 67, 74, 75, 77, 78, 79, 80, 94, 97] V V26 := agV14.up hV26 rfl
      refine lv_iconst (v := (-1)) hx hb dX12_get_60 (by decide) ?_
      have pq27 : (V26 0 65).toInt = ((V 0 65)).toInt := congrArg Int32.toInt ((up2_k hV26 (by decide)).trans ((ajV14 0 65 rfl).trans (up2_k hV6 (by decide))))
      have pq28 : (V26 0 60).toInt = ((V 0 60)).toInt := congrArg Int32.toInt ((up2_k hV26 (by decide)).trans ((ajV14 0 60 rfl).trans (up2_k hV6 (by decide))))
      have pq29 : (V26 0 73).toInt = ((V 0 73)).toInt := congrArg Int32.toInt ((up2_k hV26 (by decide)).trans ((ajV14 0 73 rfl).trans (up2_k hV6 (by decide))))
      have pq30 : (V26 0 76).toInt = ((V 0 76)).toInt := congrArg Int32.toInt ((up2_k hV26 (by decide)).trans ((ajV14 0 76 rfl).trans (up2_k hV6 (by decide))))
      have pq31 : (V26 0 69).toInt = ((V14 0 69)).toInt := congrArg Int32.toInt (up2_k hV26 (by decide))
      have pq32 : (V26 0 95).toInt = ((V14 0 95)).toInt := congrArg Int32.toInt (up2_k hV26 (by decide))
      have fz33 : (V 0 95).toInt = 0 := r0.2.2.2.2
      have r034 : RT0 V26 := RT0.ag r0 hMV (show agr [(0, 0), (0, 69), (0, 70), (0, 71), (0, 72), (0, 93), (0, 95), (0, 98)] [] V V26 from (agr.up (agr.tr (agr.up agr.rf hV6 rfl) ajV14 (by decide) (by decide)) hV26 rfl)) ⟨⟨rfl, fun _ => rfl, fun _ => rfl, fun _ => rfl, fun _ => rfl, fun _ => rfl, fun _ => rfl⟩, by decide, by decide, rfl, rfl, fun _ => rfl, fun _ => rfl, fun _ => rfl⟩ (c0k.ag (show agr [(0, 0), (0, 69), (0, 70), (0, 71), (0, 72), (0, 93), (0, 95), (0, 98)] [] V V26 from (agr.up (agr.tr (agr.up agr.rf hV6 rfl) ajV14 (by decide) (by decide)) hV26 rfl)) rfl) (by omega)
      exact W.iret (v := (-1)) hx hb hr (fun t ht hW => ⟨⟨(-1), (V26, L), rfl, ⟨hMV26, agV26, rfl, (show (V26 0 65).toInt ≤ (V26 0 60).toInt from by first | omega | ((try (have i_r0 := Imp.go r0 (by omega))); omega)), (show (V26 0 73).toInt - (V26 0 65).toInt ≤ (V 0 73).toInt - (V 0 65).toInt + 300 from by first | omega | ((try (have i_r0 := Imp.go r0 (by omega))); omega)), (show (V26 0 76).toInt - (V26 0 69).toInt - (V26 0 73).toInt ≤ (V 0 76).toInt - (V 0 69).toInt - (V 0 73).toInt + 3000 from by first | omega | ((try (have i_r0 := Imp.go r0 (by omega))); omega)), r034⟩, by rw [ht]; exact hP, va_K.moved hW.alike hK, hD⟩, hS.F ht⟩) hS.2.2 dX12_get_61
  · skip
    have f35 : ((V 0 54)).toInt ≠ 0 := b_neq rfl (by decide) c21
    refine lv_aload_n hx hb dX12_get_16 rfl (lv_at hl 0 rfl) ?_
    refine lv_iload_n hx hb dX12_get_17 rfl (lv_at hl 1 rfl) ?_
    refine gA_int (gA_runV (As := [.int p0]) (rest := []) (ci := 12) (q0 := 0) hx hb hml hown hg hP hD hK hS hA hnw hgk (s_isScope l D ks H.size ad kk V14 L p0 hMV14 ) w2227 w2229 w126 w172 w2230 rfl rfl hdV_yX12_isScope ⟨Nat.le_of_ble_eq_true rfl, Nat.le_of_ble_eq_true rfl⟩ rfl hl.1 rfl (Nat.le_of_ble_eq_true rfl) dX12_get_18 ⟨Nat.le_of_ble_eq_true rfl, Nat.le_of_ble_eq_true rfl⟩) hP hD hK hS hA (fun z36 u37 H locs w38 hP hD hK hS => ?_)
    obtain ⟨rgz36, t39⟩ := w38
    have rgz36 : 0 ≤ z36.toInt ∧ z36.toInt ≤ 1 := rgz36
    have t39 : Imp (z36.toInt = 1) (0 ≤ p0.toInt ∧ p0.toInt < (V14 0 55).toInt) := t39
    have pq40 : (V14 0 55).toInt = ((V 0 55)).toInt := congrArg Int32.toInt ((ajV14 0 55 rfl).trans (up2_k hV6 (by decide)))
    have r41 : 1 ≤ ((V 0 55)).toInt ∧ ((V 0 55)).toInt ≤ 40 := hMV 0 55
    refine lv_if_eq (tgt := 32) hx hb dX12_get_21 (by decide) (fun c42 => ?_) (fun c42 => ?_)
    · skip
      have f43 : z36.toInt = 0 := b_eq rfl (by decide) c42
      refine lv_aload_n hx hb dX12_get_32 rfl (lv_at hl 0 rfl) ?_
      refine lv_aload_n hx hb dX12_get_33 rfl (lv_at hl 0 rfl) ?_
      refine va_get (D := D) (ci := 12) (v := .int (V14 0 54)) (C := RX12) (T := TX12) (N := 100) hx hb hg inX12 hown hK hP 0 rfl rfl 54 (by decide) (hg _ w1764) (fun _ h9 => h9) rfl dX12_get_34 ?_
      refine g_top (v := (V 0 54)) ((ajV14 0 54 rfl).trans (up2_k hV6 (by decide))) ?_
      refine lv_if_ne (tgt := 44) hx hb dX12_get_37 (by decide) (fun c44 => ?_) (fun c44 => ?_)
      · skip
        have f45 : ((V 0 54)).toInt ≠ 0 := b_neq rfl (by decide) c44
        refine lv_aload_n hx hb dX12_get_44 rfl (lv_at hl 0 rfl) ?_
        refine lv_iload_n hx hb dX12_get_45 rfl (lv_at hl 1 rfl) ?_
        refine gA_int (gA_runV (As := [.int p0]) (rest := [.ref (ad 0)]) (ci := 12) (q0 := 0) hx hb hml hown hg hP hD hK hS hA hnw hgk (s_isScope l D ks H.size ad kk V14 L p0 hMV14 ) w2227 w2229 w126 w172 w2230 rfl rfl hdV_yX12_isScope ⟨Nat.le_of_ble_eq_true rfl, Nat.le_of_ble_eq_true rfl⟩ rfl hl.1 rfl (Nat.le_of_ble_eq_true rfl) dX12_get_46 ⟨Nat.le_of_ble_eq_true rfl, Nat.le_of_ble_eq_true rfl⟩) hP hD hK hS hA (fun z46 u47 H locs w48 hP hD hK hS => ?_)
        obtain ⟨rgz46, t49⟩ := w48
        have rgz46 : 0 ≤ z46.toInt ∧ z46.toInt ≤ 1 := rgz46
        have t49 : Imp (z46.toInt = 1) (0 ≤ p0.toInt ∧ p0.toInt < (V14 0 55).toInt) := t49
        refine lv_if_ne (tgt := 56) hx hb dX12_get_49 (by decide) (fun c50 => ?_) (fun c50 => ?_)
        · skip
          have f51 : z46.toInt ≠ 0 := b_neq rfl (by decide) c50
          refine lv_iconst (v := 4) hx hb dX12_get_56 (by decide) ?_
          refine va_put (D := D) (ci := 12) (v := .int 4) (ty := tyX12 70) (C := RX12) (T := TX12) (N := 100) hx hb hg inX12 tyX12 tyX12_ok nmX12 hown hK hP hD hS 0 rfl rfl 70 (by decide) (hg _ w1780) (fun _ h9 => h9) rfl (tyX12_ok 70 (by decide)) rfl rfl (Nat.le_of_ble_eq_true rfl) dX12_get_57 (fun H locs hP hD hS => ?_)
          obtain ⟨V52, hV52⟩ : ∃ z, z = up2 V14 0 70 4 := ⟨_, rfl⟩
          have hP : va_P D vwCl (mw ad kk ks.1 V52 L) H := by rw [hV52]; exact hP
          have hD : va_D A (mw ad kk ks.1 V52 L) := by rw [hV52]; exact hD
          have hMV52 : rgd bM V52 := hMV14.put hV52 (i_full _)
          have agV52 : agr [(0, 0), (0, 60), (0, 65), (0, 68), (0, 69), (0, 70), (0, 71), (0, 72), (0, 73), (0, 76), (0, 90), (0, 91), (0, 92), (0, 93), (0, 95), (0, 96), (0, 98)] [59, 61, 62, 63, 64, 66, 67, 74, 75, 77, 78, 79, 80, 94, 97] V V52 := agV14.up hV52 rfl
          refine lv_iconst (v := (-1)) hx hb dX12_get_60 (by decide) ?_
          have pq53 : (V52 0 65).toInt = ((V 0 65)).toInt := congrArg Int32.toInt ((up2_k hV52 (by decide)).trans ((ajV14 0 65 rfl).trans (up2_k hV6 (by decide))))
          have pq54 : (V52 0 60).toInt = ((V 0 60)).toInt := congrArg Int32.toInt ((up2_k hV52 (by decide)).trans ((ajV14 0 60 rfl).trans (up2_k hV6 (by decide))))
          have pq55 : (V52 0 73).toInt = ((V 0 73)).toInt := congrArg Int32.toInt ((up2_k hV52 (by decide)).trans ((ajV14 0 73 rfl).trans (up2_k hV6 (by decide))))
          have pq56 : (V52 0 76).toInt = ((V 0 76)).toInt := congrArg Int32.toInt ((up2_k hV52 (by decide)).trans ((ajV14 0 76 rfl).trans (up2_k hV6 (by decide))))
          have pq57 : (V52 0 69).toInt = ((V14 0 69)).toInt := congrArg Int32.toInt (up2_k hV52 (by decide))
          have pq58 : (V52 0 95).toInt = ((V14 0 95)).toInt := congrArg Int32.toInt (up2_k hV52 (by decide))
          have fz59 : (V 0 95).toInt = 0 := r0.2.2.2.2
          have r060 : RT0 V52 := RT0.ag r0 hMV (show agr [(0, 0), (0, 69), (0, 70), (0, 71), (0, 72), (0, 93), (0, 95), (0, 98)] [] V V52 from (agr.up (agr.tr (agr.up agr.rf hV6 rfl) ajV14 (by decide) (by decide)) hV52 rfl)) ⟨⟨rfl, fun _ => rfl, fun _ => rfl, fun _ => rfl, fun _ => rfl, fun _ => rfl, fun _ => rfl⟩, by decide, by decide, rfl, rfl, fun _ => rfl, fun _ => rfl, fun _ => rfl⟩ (c0k.ag (show agr [(0, 0), (0, 69), (0, 70), (0, 71), (0, 72), (0, 93), (0, 95), (0, 98)] [] V V52 from (agr.up (agr.tr (agr.up agr.rf hV6 rfl) ajV14 (by decide) (by decide)) hV52 rfl)) rfl) (by omega)
          exact W.iret (v := (-1)) hx hb hr (fun t ht hW => ⟨⟨(-1), (V52, L), rfl, ⟨hMV52, agV52, rfl, (show (V52 0 65).toInt ≤ (V52 0 60).toInt from by first | omega | ((try (have i_t49 := Imp.go t49 (by omega))); (try (have i_t39 := Imp.go t39 (by omega))); (try (have i_r0 := Imp.go r0 (by omega))); (try (have i_r0 := Imp.go r0 (by omega))); (try (have i_t39 := Imp.go t39 (by omega))); (try (have i_t49 := Imp.go t49 (by omega))); omega)), (show (V52 0 73).toInt - (V52 0 65).toInt ≤ (V 0 73).toInt - (V 0 65).toInt + 300 from by first | omega | ((try (have i_t49 := Imp.go t49 (by omega))); (try (have i_t39 := Imp.go t39 (by omega))); (try (have i_r0 := Imp.go r0 (by omega))); (try (have i_r0 := Imp.go r0 (by omega))); (try (have i_t39 := Imp.go t39 (by omega))); (try (have i_t49 := Imp.go t49 (by omega))); omega)), (show (V52 0 76).toInt - (V52 0 69).toInt - (V52 0 73).toInt ≤ (V 0 76).toInt - (V 0 69).toInt - (V 0 73).toInt + 3000 from by first | omega | ((try (have i_t49 := Imp.go t49 (by omega))); (try (have i_t39 := Imp.go t39 (by omega))); (try (have i_r0 := Imp.go r0 (by omega))); (try (have i_r0 := Imp.go r0 (by omega))); (try (have i_t39 := Imp.go t39 (by omega))); (try (have i_t49 := Imp.go t49 (by omega))); omega)), r060⟩, by rw [ht]; exact hP, va_K.moved hW.alike hK, hD⟩, hS.F ht⟩) hS.2.2 dX12_get_61
        · skip
          have f61 : z46.toInt = 0 := b_eq rfl (by decide) c50
          refine lv_iconst (v := 3) hx hb dX12_get_52 (by decide) ?_
          refine lv_goto (tgt := 57) hx hb dX12_get_53 (by decide) ?_
          refine va_put (D := D) (ci := 12) (v := .int 3) (ty := tyX12 70) (C := RX12) (T := TX12) (N := 100) hx hb hg inX12 tyX12 tyX12_ok nmX12 hown hK hP hD hS 0 rfl rfl 70 (by decide) (hg _ w1780) (fun _ h9 => h9) rfl (tyX12_ok 70 (by decide)) rfl rfl (Nat.le_of_ble_eq_true rfl) dX12_get_57 (fun H locs hP hD hS => ?_)
          obtain ⟨V62, hV62⟩ : ∃ z, z = up2 V14 0 70 3 := ⟨_, rfl⟩
          have hP : va_P D vwCl (mw ad kk ks.1 V62 L) H := by rw [hV62]; exact hP
          have hD : va_D A (mw ad kk ks.1 V62 L) := by rw [hV62]; exact hD
          have hMV62 : rgd bM V62 := hMV14.put hV62 (i_full _)
          have agV62 : agr [(0, 0), (0, 60), (0, 65), (0, 68), (0, 69), (0, 70), (0, 71), (0, 72), (0, 73), (0, 76), (0, 90), (0, 91), (0, 92), (0, 93), (0, 95), (0, 96), (0, 98)] [59, 61, 62, 63, 64, 66, 67, 74, 75, 77, 78, 79, 80, 94, 97] V V62 := agV14.up hV62 rfl
          refine lv_iconst (v := (-1)) hx hb dX12_get_60 (by decide) ?_
          have pq63 : (V62 0 65).toInt = ((V 0 65)).toInt := congrArg Int32.toInt ((up2_k hV62 (by decide)).trans ((ajV14 0 65 rfl).trans (up2_k hV6 (by decide))))
          have pq64 : (V62 0 60).toInt = ((V 0 60)).toInt := congrArg Int32.toInt ((up2_k hV62 (by decide)).trans ((ajV14 0 60 rfl).trans (up2_k hV6 (by decide))))
          have pq65 : (V62 0 73).toInt = ((V 0 73)).toInt := congrArg Int32.toInt ((up2_k hV62 (by decide)).trans ((ajV14 0 73 rfl).trans (up2_k hV6 (by decide))))
          have pq66 : (V62 0 76).toInt = ((V 0 76)).toInt := congrArg Int32.toInt ((up2_k hV62 (by decide)).trans ((ajV14 0 76 rfl).trans (up2_k hV6 (by decide))))
          have pq67 : (V62 0 69).toInt = ((V14 0 69)).toInt := congrArg Int32.toInt (up2_k hV62 (by decide))
          have pq68 : (V62 0 95).toInt = ((V14 0 95)).toInt := congrArg Int32.toInt (up2_k hV62 (by decide))
          have fz69 : (V 0 95).toInt = 0 := r0.2.2.2.2
          have r070 : RT0 V62 := RT0.ag r0 hMV (show agr [(0, 0), (0, 69), (0, 70), (0, 71), (0, 72), (0, 93), (0, 95), (0, 98)] [] V V62 from (agr.up (agr.tr (agr.up agr.rf hV6 rfl) ajV14 (by decide) (by decide)) hV62 rfl)) ⟨⟨rfl, fun _ => rfl, fun _ => rfl, fun _ => rfl, fun _ => rfl, fun _ => rfl, fun _ => rfl⟩, by decide, by decide, rfl, rfl, fun _ => rfl, fun _ => rfl, fun _ => rfl⟩ (c0k.ag (show agr [(0, 0), (0, 69), (0, 70), (0, 71), (0, 72), (0, 93), (0, 95), (0, 98)] [] V V62 from (agr.up (agr.tr (agr.up agr.rf hV6 rfl) ajV14 (by decide) (by decide)) hV62 rfl)) rfl) (by omega)
          exact W.iret (v := (-1)) hx hb hr (fun t ht hW => ⟨⟨(-1), (V62, L), rfl, ⟨hMV62, agV62, rfl, (show (V62 0 65).toInt ≤ (V62 0 60).toInt from by first | omega | ((try (have i_t49 := Imp.go t49 (by omega))); (try (have i_t39 := Imp.go t39 (by omega))); (try (have i_r0 := Imp.go r0 (by omega))); (try (have i_r0 := Imp.go r0 (by omega))); (try (have i_t39 := Imp.go t39 (by omega))); (try (have i_t49 := Imp.go t49 (by omega))); omega)), (show (V62 0 73).toInt - (V62 0 65).toInt ≤ (V 0 73).toInt - (V 0 65).toInt + 300 from by first | omega | ((try (have i_t49 := Imp.go t49 (by omega))); (try (have i_t39 := Imp.go t39 (by omega))); (try (have i_r0 := Imp.go r0 (by omega))); (try (have i_r0 := Imp.go r0 (by omega))); (try (have i_t39 := Imp.go t39 (by omega))); (try (have i_t49 := Imp.go t49 (by omega))); omega)), (show (V62 0 76).toInt - (V62 0 69).toInt - (V62 0 73).toInt ≤ (V 0 76).toInt - (V 0 69).toInt - (V 0 73).toInt + 3000 from by first | omega | ((try (have i_t49 := Imp.go t49 (by omega))); (try (have i_t39 := Imp.go t39 (by omega))); (try (have i_r0 := Imp.go r0 (by omega))); (try (have i_r0 := Imp.go r0 (by omega))); (try (have i_t39 := Imp.go t39 (by omega))); (try (have i_t49 := Imp.go t49 (by omega))); omega)), r070⟩, by rw [ht]; exact hP, va_K.moved hW.alike hK, hD⟩, hS.F ht⟩) hS.2.2 dX12_get_61
      · skip
        have f71 : ((V 0 54)).toInt = 0 := b_eq rfl (by decide) c44
        exfalso; first | omega | ((try (have i_t39 := Imp.go t39 (by omega))); (try (have i_r0 := Imp.go r0 (by omega))); (try (have i_r0 := Imp.go r0 (by omega))); (try (have i_t39 := Imp.go t39 (by omega))); omega)
    · skip
      have f72 : z36.toInt ≠ 0 := b_neq rfl (by decide) c42
      refine lv_aload_n hx hb dX12_get_24 rfl (lv_at hl 0 rfl) ?_
      refine lv_iload_n hx hb dX12_get_25 rfl (lv_at hl 2 rfl) ?_
      refine gA_int (gA_runV (As := [.int p1]) (rest := []) (ci := 12) (q0 := 0) hx hb hml hown hg hP hD hK hS hA hnw hgk (s_isThere2 l D ks H.size ad kk V14 L p1 hMV14 ) w2168 w2170 w117 w172 w2171 rfl rfl hdV_yX12_isThere ⟨Nat.le_of_ble_eq_true rfl, Nat.le_of_ble_eq_true rfl⟩ rfl hl.1 rfl (Nat.le_of_ble_eq_true rfl) dX12_get_26 ⟨Nat.le_of_ble_eq_true rfl, Nat.le_of_ble_eq_true rfl⟩) hP hD hK hS hA (fun z73 u74 H locs w75 hP hD hK hS => ?_)
      obtain ⟨rgz73, t76, t77, t78⟩ := w75
      have rgz73 : 0 ≤ z73.toInt ∧ z73.toInt ≤ 1 := rgz73
      have t76 : Imp (z73.toInt = 1) (0 ≤ p1.toInt ∧ p1.toInt ≤ 23) := t76
      have t77 : Imp (z73.toInt = 1) (th V14 (Int32.toNatClampNeg p1)) := t77
      have t78 : Imp (z73.toInt = 0) (0 ≤ p1.toInt → ¬ th V14 (Int32.toNatClampNeg p1)) := t78
      refine lv_if_ne (tgt := 62) hx hb dX12_get_29 (by decide) (fun c79 => ?_) (fun c79 => ?_)
      · skip
        have f80 : z73.toInt ≠ 0 := b_neq rfl (by decide) c79
        have fz81 : (V 0 95).toInt = 0 := r0.2.2.2.2
        have r082 : RT0 V14 := RT0.ag r0 hMV (show agr [(0, 0), (0, 69), (0, 71), (0, 72), (0, 93), (0, 95), (0, 98)] [] V V14 from (agr.tr (agr.up agr.rf hV6 rfl) ajV14 (by decide) (by decide))) ⟨⟨rfl, fun _ => rfl, fun _ => rfl, fun _ => rfl, fun _ => rfl, fun _ => rfl, fun _ => rfl⟩, by decide, by decide, rfl, rfl, fun _ => rfl, fun _ => rfl, fun _ => rfl⟩ (c0k.ag (show agr [(0, 0), (0, 69), (0, 71), (0, 72), (0, 93), (0, 95), (0, 98)] [] V V14 from (agr.tr (agr.up agr.rf hV6 rfl) ajV14 (by decide) (by decide))) rfl) (by omega)
        have pq83 : (V14 0 54).toInt = ((V 0 54)).toInt := congrArg Int32.toInt ((ajV14 0 54 rfl).trans (up2_k hV6 (by decide)))
        have rt84 : RT V14 := RT0.rt r082 (by first | omega | ((try (have i_t76 := Imp.go t76 (by omega))); (try (have i_t39 := Imp.go t39 (by omega))); (try (have i_r0 := Imp.go r0 (by omega))); (try (have i_r0 := Imp.go r0 (by omega))); (try (have i_t39 := Imp.go t39 (by omega))); (try (have i_t76 := Imp.go t76 (by omega))); omega))
        refine lv_aload_n hx hb dX12_get_62 rfl (lv_at hl 0 rfl) ?_
        refine lv_aload_n hx hb dX12_get_63 rfl (lv_at hl 0 rfl) ?_
        refine lv_iload_n hx hb dX12_get_64 rfl (lv_at hl 2 rfl) ?_
        refine lv_iload_n hx hb dX12_get_65 rfl (lv_at hl 1 rfl) ?_
        have pq85 : (V14 0 65).toInt = ((V 0 65)).toInt := congrArg Int32.toInt ((ajV14 0 65 rfl).trans (up2_k hV6 (by decide)))
        have pq86 : (V14 0 60).toInt = ((V 0 60)).toInt := congrArg Int32.toInt ((ajV14 0 60 rfl).trans (up2_k hV6 (by decide)))
        have pq87 : (V14 0 73).toInt = ((V 0 73)).toInt := congrArg Int32.toInt ((ajV14 0 73 rfl).trans (up2_k hV6 (by decide)))
        have pq88 : (V14 0 76).toInt = ((V 0 76)).toInt := congrArg Int32.toInt ((ajV14 0 76 rfl).trans (up2_k hV6 (by decide)))
        refine gA_int (gA_runV (As := [.int p1, .int p0]) (rest := [.ref (ad 0)]) (ci := 12) (q0 := 0) hx hb hml hown hg hP hD hK hS hA hnw hgk (s_getsWholeT l D ks H.size ad kk V14 L p1 p0 hMV14 (by first | omega | ((try (have i_t76 := Imp.go t76 (by omega))); (try (have i_t39 := Imp.go t39 (by omega))); (try (have i_r0 := Imp.go r0 (by omega))); (try (have i_r0 := Imp.go r0 (by omega))); (try (have i_t39 := Imp.go t39 (by omega))); (try (have i_t76 := Imp.go t76 (by omega))); omega)) (by first | omega | ((try (have i_t76 := Imp.go t76 (by omega))); (try (have i_t39 := Imp.go t39 (by omega))); (try (have i_r0 := Imp.go r0 (by omega))); (try (have i_r0 := Imp.go r0 (by omega))); (try (have i_t39 := Imp.go t39 (by omega))); (try (have i_t76 := Imp.go t76 (by omega))); omega)) rt84 (show (V14 0 65).toInt ≤ (V14 0 60).toInt from by first | omega | ((try (have i_t76 := Imp.go t76 (by omega))); (try (have i_t39 := Imp.go t39 (by omega))); (try (have i_r0 := Imp.go r0 (by omega))); (try (have i_r0 := Imp.go r0 (by omega))); (try (have i_t39 := Imp.go t39 (by omega))); (try (have i_t76 := Imp.go t76 (by omega))); omega)) (show (V14 0 95).toInt ≤ (V14 0 65).toInt from by first | omega | ((try (have i_t76 := Imp.go t76 (by omega))); (try (have i_t39 := Imp.go t39 (by omega))); (try (have i_r0 := Imp.go r0 (by omega))); (try (have i_r0 := Imp.go r0 (by omega))); (try (have i_t39 := Imp.go t39 (by omega))); (try (have i_t76 := Imp.go t76 (by omega))); omega)) (show (V14 0 73).toInt + (V14 0 95).toInt - (V14 0 65).toInt ≤ 999000 from by first | omega | ((try (have i_t76 := Imp.go t76 (by omega))); (try (have i_t39 := Imp.go t39 (by omega))); (try (have i_r0 := Imp.go r0 (by omega))); (try (have i_r0 := Imp.go r0 (by omega))); (try (have i_t39 := Imp.go t39 (by omega))); (try (have i_t76 := Imp.go t76 (by omega))); omega)) (show (V14 0 76).toInt - (V14 0 69).toInt - (V14 0 73).toInt ≤ 1000000000 from by first | omega | ((try (have i_t76 := Imp.go t76 (by omega))); (try (have i_t39 := Imp.go t39 (by omega))); (try (have i_r0 := Imp.go r0 (by omega))); (try (have i_r0 := Imp.go r0 (by omega))); (try (have i_t39 := Imp.go t39 (by omega))); (try (have i_t76 := Imp.go t76 (by omega))); omega)) (show (V14 0 98).toInt + 400 * 10 + 30 ≤ 19000 from by first | omega | ((try (have i_t76 := Imp.go t76 (by omega))); (try (have i_t39 := Imp.go t39 (by omega))); (try (have i_r0 := Imp.go r0 (by omega))); (try (have i_r0 := Imp.go r0 (by omega))); (try (have i_t39 := Imp.go t39 (by omega))); (try (have i_t76 := Imp.go t76 (by omega))); omega)) (Imp.go t77 (by omega))) w2239 w2241 w128 w172 w2242 rfl rfl hdV_yX12_getsWhole ⟨Nat.le_of_ble_eq_true rfl, Nat.le_of_ble_eq_true rfl⟩ rfl hl.1 rfl (Nat.le_of_ble_eq_true rfl) dX12_get_66 ⟨Nat.le_of_ble_eq_true rfl, Nat.le_of_ble_eq_true rfl⟩) hP hD hK hS hA (fun z89 u90 H locs w91 hP hD hK hS => ?_)
        obtain ⟨V105, L106⟩ := u90
        obtain ⟨hMV105, ajV105, axL106, rgz89, t92, t93, t94, t95, t96, t97, t98, t99, t100, t101, t102, t103, t104⟩ := w91
        have axL106 : L = L106 := Eq.symm axL106
        subst axL106
        have hP : va_P D vwCl (mw ad kk ks.1 V105 L) H := hP
        have hD : va_D A (mw ad kk ks.1 V105 L) := hD
        have hMV105 : rgd bM V105 := hMV105
        have ajV105 : agr [(0, 60), (0, 65), (0, 68), (0, 69), (0, 73), (0, 76), (0, 90), (0, 91), (0, 92), (0, 93), (0, 95), (0, 96), (0, 98)] [59, 61, 62, 63, 64, 66, 67, 74, 75, 77, 78, 79, 80, 94, 97] V14 V105 := ajV105
        have agV105 : agr [(0, 0), (0, 60), (0, 65), (0, 68), (0, 69), (0, 70), (0, 71), (0, 72), (0, 73), (0, 76), (0, 90), (0, 91), (0, 92), (0, 93), (0, 95), (0, 96), (0, 98)] [59, 61, 62, 63, 64, 66, 67, 74, 75, 77, 78, 79, 80, 94, 97] V V105 := agV14.tr ajV105 (by decide) (by decide)
        have rgz89 : 0 ≤ z89.toInt ∧ z89.toInt ≤ 2 := rgz89
        have t92 : (V105 0 93).toInt = (V14 0 93).toInt := t92
        have t93 : (V105 0 98).toInt = (V14 0 98).toInt := t93
        have t94 : (V14 0 60).toInt ≤ (V105 0 60).toInt := t94
        have t95 : (V14 0 65).toInt ≤ (V105 0 65).toInt := t95
        have t96 : (V105 0 65).toInt - (V14 0 65).toInt ≤ (V105 0 60).toInt - (V14 0 60).toInt := t96
        have t97 : (V105 0 73).toInt + (V105 0 95).toInt - (V105 0 65).toInt ≤ (V14 0 73).toInt + (V14 0 95).toInt - (V14 0 65).toInt := t97
        have t98 : (V14 0 73).toInt ≤ (V105 0 73).toInt := t98
        have t99 : (V14 0 69).toInt ≤ (V105 0 69).toInt := t99
        have t100 : (V105 0 95).toInt = (V14 0 95).toInt := t100
        have t101 : (V105 0 76).toInt - (V105 0 69).toInt - (V105 0 73).toInt ≤ (V14 0 76).toInt - (V14 0 69).toInt - (V14 0 73).toInt := t101
        have t102 : Imp (z89.toInt = 0) (0 ≤ (V105 0 92).toInt ∧ (V105 0 92).toInt < (V105 0 60).toInt) := t102
        have t103 : RT V105 := t103
        have t104 : FRM V14 V105 (-1) := t104
        have r107 : 0 ≤ ((V105 0 93)).toInt ∧ ((V105 0 93)).toInt ≤ 10 := hMV105 0 93
        have r108 : 0 ≤ ((V105 0 98)).toInt ∧ ((V105 0 98)).toInt ≤ 20000 := hMV105 0 98
        have r109 : 0 ≤ ((V105 0 60)).toInt ∧ ((V105 0 60)).toInt ≤ 300 := hMV105 0 60
        have r110 : 0 ≤ ((V105 0 65)).toInt ∧ ((V105 0 65)).toInt ≤ 1000000 := hMV105 0 65
        have r111 : 0 ≤ ((V105 0 73)).toInt ∧ ((V105 0 73)).toInt ≤ 1000000 := hMV105 0 73
        have r112 : 0 ≤ ((V105 0 95)).toInt ∧ ((V105 0 95)).toInt ≤ 300 := hMV105 0 95
        have r113 : 0 ≤ ((V105 0 69)).toInt ∧ ((V105 0 69)).toInt ≤ 3000 := hMV105 0 69
        have r114 : 0 ≤ ((V105 0 76)).toInt ∧ ((V105 0 76)).toInt ≤ 2000000000 := hMV105 0 76
        have pq115 : (V105 0 54).toInt = ((V 0 54)).toInt := congrArg Int32.toInt ((ajV105 0 54 rfl).trans ((ajV14 0 54 rfl).trans (up2_k hV6 (by decide))))
        have r0116 : RT0 V105 := RT.r0 t103 (by first | omega | ((try (have i_t102 := Imp.go t102 (by omega))); (try (have i_t76 := Imp.go t76 (by omega))); (try (have i_t39 := Imp.go t39 (by omega))); (try (have i_r0 := Imp.go r0 (by omega))); (try (have i_r0 := Imp.go r0 (by omega))); (try (have i_t39 := Imp.go t39 (by omega))); (try (have i_t76 := Imp.go t76 (by omega))); (try (have i_t102 := Imp.go t102 (by omega))); omega)) (by first | omega | ((try (have i_t102 := Imp.go t102 (by omega))); (try (have i_t76 := Imp.go t76 (by omega))); (try (have i_t39 := Imp.go t39 (by omega))); (try (have i_r0 := Imp.go r0 (by omega))); (try (have i_r0 := Imp.go r0 (by omega))); (try (have i_t39 := Imp.go t39 (by omega))); (try (have i_t76 := Imp.go t76 (by omega))); (try (have i_t102 := Imp.go t102 (by omega))); omega))
        refine gA_int (gA_runV (As := [.int z89]) (rest := []) (ci := 12) (q0 := 0) hx hb hml hown hg hP hD hK hS hA hnw hgk (s_ends l D ks H.size ad kk V105 L z89 hMV105 ) w2336 w2338 w152 w172 w2339 rfl rfl hdV_yX12_ends ⟨Nat.le_of_ble_eq_true rfl, Nat.le_of_ble_eq_true rfl⟩ rfl hl.1 rfl (Nat.le_of_ble_eq_true rfl) dX12_get_69 ⟨Nat.le_of_ble_eq_true rfl, Nat.le_of_ble_eq_true rfl⟩) hP hD hK hS hA (fun z117 u118 H locs w119 hP hD hK hS => ?_)
        obtain ⟨V120, L121⟩ := u118
        obtain ⟨hMV120, ajV120, axL121, rgz117⟩ := w119
        have axL121 : L = L121 := Eq.symm axL121
        subst axL121
        have hP : va_P D vwCl (mw ad kk ks.1 V120 L) H := hP
        have hD : va_D A (mw ad kk ks.1 V120 L) := hD
        have hMV120 : rgd bM V120 := hMV120
        have ajV120 : agr [(0, 70), (0, 71), (0, 72)] [] V105 V120 := ajV120
        have agV120 : agr [(0, 0), (0, 60), (0, 65), (0, 68), (0, 69), (0, 70), (0, 71), (0, 72), (0, 73), (0, 76), (0, 90), (0, 91), (0, 92), (0, 93), (0, 95), (0, 96), (0, 98)] [59, 61, 62, 63, 64, 66, 67, 74, 75, 77, 78, 79, 80, 94, 97] V V120 := agV105.tr ajV120 (by decide) (by decide)
        have rgz117 : 0 ≤ z117.toInt ∧ z117.toInt ≤ 1 := rgz117
        refine lv_if_eq (tgt := 82) hx hb dX12_get_72 (by decide) (fun c122 => ?_) (fun c122 => ?_)
        · skip
          have f123 : z117.toInt = 0 := b_eq rfl (by decide) c122
          refine lv_iconst (v := (-1)) hx hb dX12_get_82 (by decide) ?_
          have pq124 : (V120 0 65).toInt = ((V105 0 65)).toInt := congrArg Int32.toInt (ajV120 0 65 rfl)
          have pq125 : (V120 0 60).toInt = ((V105 0 60)).toInt := congrArg Int32.toInt (ajV120 0 60 rfl)
          have pq126 : (V120 0 73).toInt = ((V105 0 73)).toInt := congrArg Int32.toInt (ajV120 0 73 rfl)
          have pq127 : (V120 0 76).toInt = ((V105 0 76)).toInt := congrArg Int32.toInt (ajV120 0 76 rfl)
          have pq128 : (V120 0 69).toInt = ((V105 0 69)).toInt := congrArg Int32.toInt (ajV120 0 69 rfl)
          have pq129 : (V120 0 95).toInt = ((V105 0 95)).toInt := congrArg Int32.toInt (ajV120 0 95 rfl)
          have fz130 : (V105 0 95).toInt = 0 := r0116.2.2.2.2
          have r0131 : RT0 V120 := RT0.ag r0116 hMV105 (show agr [(0, 70), (0, 71), (0, 72)] [] V105 V120 from (agr.tr agr.rf ajV120 (by decide) (by decide))) ⟨⟨rfl, fun _ => rfl, fun _ => rfl, fun _ => rfl, fun _ => rfl, fun _ => rfl, fun _ => rfl⟩, by decide, by decide, rfl, rfl, fun _ => rfl, fun _ => rfl, fun _ => rfl⟩ (c0k.ag (show agr [(0, 70), (0, 71), (0, 72)] [] V105 V120 from (agr.tr agr.rf ajV120 (by decide) (by decide))) rfl) (by omega)
          exact W.iret (v := (-1)) hx hb hr (fun t ht hW => ⟨⟨(-1), (V120, L), rfl, ⟨hMV120, agV120, rfl, (show (V120 0 65).toInt ≤ (V120 0 60).toInt from by first | omega | ((try (have i_t102 := Imp.go t102 (by omega))); (try (have i_t76 := Imp.go t76 (by omega))); (try (have i_t39 := Imp.go t39 (by omega))); (try (have i_r0 := Imp.go r0 (by omega))); (try (have i_r0 := Imp.go r0 (by omega))); (try (have i_t39 := Imp.go t39 (by omega))); (try (have i_t76 := Imp.go t76 (by omega))); (try (have i_t102 := Imp.go t102 (by omega))); omega)), (show (V120 0 73).toInt - (V120 0 65).toInt ≤ (V 0 73).toInt - (V 0 65).toInt + 300 from by first | omega | ((try (have i_t102 := Imp.go t102 (by omega))); (try (have i_t76 := Imp.go t76 (by omega))); (try (have i_t39 := Imp.go t39 (by omega))); (try (have i_r0 := Imp.go r0 (by omega))); (try (have i_r0 := Imp.go r0 (by omega))); (try (have i_t39 := Imp.go t39 (by omega))); (try (have i_t76 := Imp.go t76 (by omega))); (try (have i_t102 := Imp.go t102 (by omega))); omega)), (show (V120 0 76).toInt - (V120 0 69).toInt - (V120 0 73).toInt ≤ (V 0 76).toInt - (V 0 69).toInt - (V 0 73).toInt + 3000 from by first | omega | ((try (have i_t102 := Imp.go t102 (by omega))); (try (have i_t76 := Imp.go t76 (by omega))); (try (have i_t39 := Imp.go t39 (by omega))); (try (have i_r0 := Imp.go r0 (by omega))); (try (have i_r0 := Imp.go r0 (by omega))); (try (have i_t39 := Imp.go t39 (by omega))); (try (have i_t76 := Imp.go t76 (by omega))); (try (have i_t102 := Imp.go t102 (by omega))); omega)), r0131⟩, by rw [ht]; exact hP, va_K.moved hW.alike hK, hD⟩, hS.F ht⟩) hS.2.2 dX12_get_83
        · skip
          have f132 : z117.toInt ≠ 0 := b_neq rfl (by decide) c122
          refine lv_aload_n hx hb dX12_get_75 rfl (lv_at hl 0 rfl) ?_
          refine va_get (D := D) (ci := 12) (v := .int (V120 0 92)) (C := RX12) (T := TX12) (N := 100) hx hb hg inX12 hown hK hP 0 rfl rfl 92 (by decide) (hg _ w1802) (fun _ h9 => h9) rfl dX12_get_76 ?_
          refine g_top (v := (V105 0 92)) (ajV120 0 92 rfl) ?_
          refine lv_goto (tgt := 83) hx hb dX12_get_79 (by decide) ?_
          have pq133 : (V120 0 65).toInt = ((V105 0 65)).toInt := congrArg Int32.toInt (ajV120 0 65 rfl)
          have pq134 : (V120 0 60).toInt = ((V105 0 60)).toInt := congrArg Int32.toInt (ajV120 0 60 rfl)
          have pq135 : (V120 0 73).toInt = ((V105 0 73)).toInt := congrArg Int32.toInt (ajV120 0 73 rfl)
          have pq136 : (V120 0 76).toInt = ((V105 0 76)).toInt := congrArg Int32.toInt (ajV120 0 76 rfl)
          have pq137 : (V120 0 69).toInt = ((V105 0 69)).toInt := congrArg Int32.toInt (ajV120 0 69 rfl)
          have pq138 : (V120 0 95).toInt = ((V105 0 95)).toInt := congrArg Int32.toInt (ajV120 0 95 rfl)
          have fz139 : (V105 0 95).toInt = 0 := r0116.2.2.2.2
          have r0140 : RT0 V120 := RT0.ag r0116 hMV105 (show agr [(0, 70), (0, 71), (0, 72)] [] V105 V120 from (agr.tr agr.rf ajV120 (by decide) (by decide))) ⟨⟨rfl, fun _ => rfl, fun _ => rfl, fun _ => rfl, fun _ => rfl, fun _ => rfl, fun _ => rfl⟩, by decide, by decide, rfl, rfl, fun _ => rfl, fun _ => rfl, fun _ => rfl⟩ (c0k.ag (show agr [(0, 70), (0, 71), (0, 72)] [] V105 V120 from (agr.tr agr.rf ajV120 (by decide) (by decide))) rfl) (by omega)
          exact W.iret (v := (V105 0 92)) hx hb hr (fun t ht hW => ⟨⟨(V105 0 92), (V120, L), rfl, ⟨hMV120, agV120, rfl, (show (V120 0 65).toInt ≤ (V120 0 60).toInt from by first | omega | ((try (have i_t102 := Imp.go t102 (by omega))); (try (have i_t76 := Imp.go t76 (by omega))); (try (have i_t39 := Imp.go t39 (by omega))); (try (have i_r0 := Imp.go r0 (by omega))); (try (have i_r0 := Imp.go r0 (by omega))); (try (have i_t39 := Imp.go t39 (by omega))); (try (have i_t76 := Imp.go t76 (by omega))); (try (have i_t102 := Imp.go t102 (by omega))); omega)), (show (V120 0 73).toInt - (V120 0 65).toInt ≤ (V 0 73).toInt - (V 0 65).toInt + 300 from by first | omega | ((try (have i_t102 := Imp.go t102 (by omega))); (try (have i_t76 := Imp.go t76 (by omega))); (try (have i_t39 := Imp.go t39 (by omega))); (try (have i_r0 := Imp.go r0 (by omega))); (try (have i_r0 := Imp.go r0 (by omega))); (try (have i_t39 := Imp.go t39 (by omega))); (try (have i_t76 := Imp.go t76 (by omega))); (try (have i_t102 := Imp.go t102 (by omega))); omega)), (show (V120 0 76).toInt - (V120 0 69).toInt - (V120 0 73).toInt ≤ (V 0 76).toInt - (V 0 69).toInt - (V 0 73).toInt + 3000 from by first | omega | ((try (have i_t102 := Imp.go t102 (by omega))); (try (have i_t76 := Imp.go t76 (by omega))); (try (have i_t39 := Imp.go t39 (by omega))); (try (have i_r0 := Imp.go r0 (by omega))); (try (have i_r0 := Imp.go r0 (by omega))); (try (have i_t39 := Imp.go t39 (by omega))); (try (have i_t76 := Imp.go t76 (by omega))); (try (have i_t102 := Imp.go t102 (by omega))); omega)), r0140⟩, by rw [ht]; exact hP, va_K.moved hW.alike hK, hD⟩, hS.F ht⟩) hS.2.2 dX12_get_83
      · skip
        have f141 : z73.toInt = 0 := b_eq rfl (by decide) c79
        refine lv_aload_n hx hb dX12_get_32 rfl (lv_at hl 0 rfl) ?_
        refine lv_aload_n hx hb dX12_get_33 rfl (lv_at hl 0 rfl) ?_
        refine va_get (D := D) (ci := 12) (v := .int (V14 0 54)) (C := RX12) (T := TX12) (N := 100) hx hb hg inX12 hown hK hP 0 rfl rfl 54 (by decide) (hg _ w1764) (fun _ h9 => h9) rfl dX12_get_34 ?_
        refine g_top (v := (V 0 54)) ((ajV14 0 54 rfl).trans (up2_k hV6 (by decide))) ?_
        refine lv_if_ne (tgt := 44) hx hb dX12_get_37 (by decide) (fun c142 => ?_) (fun c142 => ?_)
        · skip
          have f143 : ((V 0 54)).toInt ≠ 0 := b_neq rfl (by decide) c142
          refine lv_aload_n hx hb dX12_get_44 rfl (lv_at hl 0 rfl) ?_
          refine lv_iload_n hx hb dX12_get_45 rfl (lv_at hl 1 rfl) ?_
          refine gA_int (gA_runV (As := [.int p0]) (rest := [.ref (ad 0)]) (ci := 12) (q0 := 0) hx hb hml hown hg hP hD hK hS hA hnw hgk (s_isScope l D ks H.size ad kk V14 L p0 hMV14 ) w2227 w2229 w126 w172 w2230 rfl rfl hdV_yX12_isScope ⟨Nat.le_of_ble_eq_true rfl, Nat.le_of_ble_eq_true rfl⟩ rfl hl.1 rfl (Nat.le_of_ble_eq_true rfl) dX12_get_46 ⟨Nat.le_of_ble_eq_true rfl, Nat.le_of_ble_eq_true rfl⟩) hP hD hK hS hA (fun z144 u145 H locs w146 hP hD hK hS => ?_)
          obtain ⟨rgz144, t147⟩ := w146
          have rgz144 : 0 ≤ z144.toInt ∧ z144.toInt ≤ 1 := rgz144
          have t147 : Imp (z144.toInt = 1) (0 ≤ p0.toInt ∧ p0.toInt < (V14 0 55).toInt) := t147
          refine lv_if_ne (tgt := 56) hx hb dX12_get_49 (by decide) (fun c148 => ?_) (fun c148 => ?_)
          · skip
            have f149 : z144.toInt ≠ 0 := b_neq rfl (by decide) c148
            refine lv_iconst (v := 4) hx hb dX12_get_56 (by decide) ?_
            refine va_put (D := D) (ci := 12) (v := .int 4) (ty := tyX12 70) (C := RX12) (T := TX12) (N := 100) hx hb hg inX12 tyX12 tyX12_ok nmX12 hown hK hP hD hS 0 rfl rfl 70 (by decide) (hg _ w1780) (fun _ h9 => h9) rfl (tyX12_ok 70 (by decide)) rfl rfl (Nat.le_of_ble_eq_true rfl) dX12_get_57 (fun H locs hP hD hS => ?_)
            obtain ⟨V150, hV150⟩ : ∃ z, z = up2 V14 0 70 4 := ⟨_, rfl⟩
            have hP : va_P D vwCl (mw ad kk ks.1 V150 L) H := by rw [hV150]; exact hP
            have hD : va_D A (mw ad kk ks.1 V150 L) := by rw [hV150]; exact hD
            have hMV150 : rgd bM V150 := hMV14.put hV150 (i_full _)
            have agV150 : agr [(0, 0), (0, 60), (0, 65), (0, 68), (0, 69), (0, 70), (0, 71), (0, 72), (0, 73), (0, 76), (0, 90), (0, 91), (0, 92), (0, 93), (0, 95), (0, 96), (0, 98)] [59, 61, 62, 63, 64, 66, 67, 74, 75, 77, 78, 79, 80, 94, 97] V V150 := agV14.up hV150 rfl
            refine lv_iconst (v := (-1)) hx hb dX12_get_60 (by decide) ?_
            have pq151 : (V150 0 65).toInt = ((V 0 65)).toInt := congrArg Int32.toInt ((up2_k hV150 (by decide)).trans ((ajV14 0 65 rfl).trans (up2_k hV6 (by decide))))
            have pq152 : (V150 0 60).toInt = ((V 0 60)).toInt := congrArg Int32.toInt ((up2_k hV150 (by decide)).trans ((ajV14 0 60 rfl).trans (up2_k hV6 (by decide))))
            have pq153 : (V150 0 73).toInt = ((V 0 73)).toInt := congrArg Int32.toInt ((up2_k hV150 (by decide)).trans ((ajV14 0 73 rfl).trans (up2_k hV6 (by decide))))
            have pq154 : (V150 0 76).toInt = ((V 0 76)).toInt := congrArg Int32.toInt ((up2_k hV150 (by decide)).trans ((ajV14 0 76 rfl).trans (up2_k hV6 (by decide))))
            have pq155 : (V150 0 69).toInt = ((V14 0 69)).toInt := congrArg Int32.toInt (up2_k hV150 (by decide))
            have pq156 : (V150 0 95).toInt = ((V14 0 95)).toInt := congrArg Int32.toInt (up2_k hV150 (by decide))
            have fz157 : (V 0 95).toInt = 0 := r0.2.2.2.2
            have r0158 : RT0 V150 := RT0.ag r0 hMV (show agr [(0, 0), (0, 69), (0, 70), (0, 71), (0, 72), (0, 93), (0, 95), (0, 98)] [] V V150 from (agr.up (agr.tr (agr.up agr.rf hV6 rfl) ajV14 (by decide) (by decide)) hV150 rfl)) ⟨⟨rfl, fun _ => rfl, fun _ => rfl, fun _ => rfl, fun _ => rfl, fun _ => rfl, fun _ => rfl⟩, by decide, by decide, rfl, rfl, fun _ => rfl, fun _ => rfl, fun _ => rfl⟩ (c0k.ag (show agr [(0, 0), (0, 69), (0, 70), (0, 71), (0, 72), (0, 93), (0, 95), (0, 98)] [] V V150 from (agr.up (agr.tr (agr.up agr.rf hV6 rfl) ajV14 (by decide) (by decide)) hV150 rfl)) rfl) (by omega)
            exact W.iret (v := (-1)) hx hb hr (fun t ht hW => ⟨⟨(-1), (V150, L), rfl, ⟨hMV150, agV150, rfl, (show (V150 0 65).toInt ≤ (V150 0 60).toInt from by first | omega | ((try (have i_t147 := Imp.go t147 (by omega))); (try (have i_t76 := Imp.go t76 (by omega))); (try (have i_t39 := Imp.go t39 (by omega))); (try (have i_r0 := Imp.go r0 (by omega))); (try (have i_r0 := Imp.go r0 (by omega))); (try (have i_t39 := Imp.go t39 (by omega))); (try (have i_t76 := Imp.go t76 (by omega))); (try (have i_t147 := Imp.go t147 (by omega))); omega)), (show (V150 0 73).toInt - (V150 0 65).toInt ≤ (V 0 73).toInt - (V 0 65).toInt + 300 from by first | omega | ((try (have i_t147 := Imp.go t147 (by omega))); (try (have i_t76 := Imp.go t76 (by omega))); (try (have i_t39 := Imp.go t39 (by omega))); (try (have i_r0 := Imp.go r0 (by omega))); (try (have i_r0 := Imp.go r0 (by omega))); (try (have i_t39 := Imp.go t39 (by omega))); (try (have i_t76 := Imp.go t76 (by omega))); (try (have i_t147 := Imp.go t147 (by omega))); omega)), (show (V150 0 76).toInt - (V150 0 69).toInt - (V150 0 73).toInt ≤ (V 0 76).toInt - (V 0 69).toInt - (V 0 73).toInt + 3000 from by first | omega | ((try (have i_t147 := Imp.go t147 (by omega))); (try (have i_t76 := Imp.go t76 (by omega))); (try (have i_t39 := Imp.go t39 (by omega))); (try (have i_r0 := Imp.go r0 (by omega))); (try (have i_r0 := Imp.go r0 (by omega))); (try (have i_t39 := Imp.go t39 (by omega))); (try (have i_t76 := Imp.go t76 (by omega))); (try (have i_t147 := Imp.go t147 (by omega))); omega)), r0158⟩, by rw [ht]; exact hP, va_K.moved hW.alike hK, hD⟩, hS.F ht⟩) hS.2.2 dX12_get_61
          · skip
            have f159 : z144.toInt = 0 := b_eq rfl (by decide) c148
            refine lv_iconst (v := 3) hx hb dX12_get_52 (by decide) ?_
            refine lv_goto (tgt := 57) hx hb dX12_get_53 (by decide) ?_
            refine va_put (D := D) (ci := 12) (v := .int 3) (ty := tyX12 70) (C := RX12) (T := TX12) (N := 100) hx hb hg inX12 tyX12 tyX12_ok nmX12 hown hK hP hD hS 0 rfl rfl 70 (by decide) (hg _ w1780) (fun _ h9 => h9) rfl (tyX12_ok 70 (by decide)) rfl rfl (Nat.le_of_ble_eq_true rfl) dX12_get_57 (fun H locs hP hD hS => ?_)
            obtain ⟨V160, hV160⟩ : ∃ z, z = up2 V14 0 70 3 := ⟨_, rfl⟩
            have hP : va_P D vwCl (mw ad kk ks.1 V160 L) H := by rw [hV160]; exact hP
            have hD : va_D A (mw ad kk ks.1 V160 L) := by rw [hV160]; exact hD
            have hMV160 : rgd bM V160 := hMV14.put hV160 (i_full _)
            have agV160 : agr [(0, 0), (0, 60), (0, 65), (0, 68), (0, 69), (0, 70), (0, 71), (0, 72), (0, 73), (0, 76), (0, 90), (0, 91), (0, 92), (0, 93), (0, 95), (0, 96), (0, 98)] [59, 61, 62, 63, 64, 66, 67, 74, 75, 77, 78, 79, 80, 94, 97] V V160 := agV14.up hV160 rfl
            refine lv_iconst (v := (-1)) hx hb dX12_get_60 (by decide) ?_
            have pq161 : (V160 0 65).toInt = ((V 0 65)).toInt := congrArg Int32.toInt ((up2_k hV160 (by decide)).trans ((ajV14 0 65 rfl).trans (up2_k hV6 (by decide))))
            have pq162 : (V160 0 60).toInt = ((V 0 60)).toInt := congrArg Int32.toInt ((up2_k hV160 (by decide)).trans ((ajV14 0 60 rfl).trans (up2_k hV6 (by decide))))
            have pq163 : (V160 0 73).toInt = ((V 0 73)).toInt := congrArg Int32.toInt ((up2_k hV160 (by decide)).trans ((ajV14 0 73 rfl).trans (up2_k hV6 (by decide))))
            have pq164 : (V160 0 76).toInt = ((V 0 76)).toInt := congrArg Int32.toInt ((up2_k hV160 (by decide)).trans ((ajV14 0 76 rfl).trans (up2_k hV6 (by decide))))
            have pq165 : (V160 0 69).toInt = ((V14 0 69)).toInt := congrArg Int32.toInt (up2_k hV160 (by decide))
            have pq166 : (V160 0 95).toInt = ((V14 0 95)).toInt := congrArg Int32.toInt (up2_k hV160 (by decide))
            have fz167 : (V 0 95).toInt = 0 := r0.2.2.2.2
            have r0168 : RT0 V160 := RT0.ag r0 hMV (show agr [(0, 0), (0, 69), (0, 70), (0, 71), (0, 72), (0, 93), (0, 95), (0, 98)] [] V V160 from (agr.up (agr.tr (agr.up agr.rf hV6 rfl) ajV14 (by decide) (by decide)) hV160 rfl)) ⟨⟨rfl, fun _ => rfl, fun _ => rfl, fun _ => rfl, fun _ => rfl, fun _ => rfl, fun _ => rfl⟩, by decide, by decide, rfl, rfl, fun _ => rfl, fun _ => rfl, fun _ => rfl⟩ (c0k.ag (show agr [(0, 0), (0, 69), (0, 70), (0, 71), (0, 72), (0, 93), (0, 95), (0, 98)] [] V V160 from (agr.up (agr.tr (agr.up agr.rf hV6 rfl) ajV14 (by decide) (by decide)) hV160 rfl)) rfl) (by omega)
            exact W.iret (v := (-1)) hx hb hr (fun t ht hW => ⟨⟨(-1), (V160, L), rfl, ⟨hMV160, agV160, rfl, (show (V160 0 65).toInt ≤ (V160 0 60).toInt from by first | omega | ((try (have i_t147 := Imp.go t147 (by omega))); (try (have i_t76 := Imp.go t76 (by omega))); (try (have i_t39 := Imp.go t39 (by omega))); (try (have i_r0 := Imp.go r0 (by omega))); (try (have i_r0 := Imp.go r0 (by omega))); (try (have i_t39 := Imp.go t39 (by omega))); (try (have i_t76 := Imp.go t76 (by omega))); (try (have i_t147 := Imp.go t147 (by omega))); omega)), (show (V160 0 73).toInt - (V160 0 65).toInt ≤ (V 0 73).toInt - (V 0 65).toInt + 300 from by first | omega | ((try (have i_t147 := Imp.go t147 (by omega))); (try (have i_t76 := Imp.go t76 (by omega))); (try (have i_t39 := Imp.go t39 (by omega))); (try (have i_r0 := Imp.go r0 (by omega))); (try (have i_r0 := Imp.go r0 (by omega))); (try (have i_t39 := Imp.go t39 (by omega))); (try (have i_t76 := Imp.go t76 (by omega))); (try (have i_t147 := Imp.go t147 (by omega))); omega)), (show (V160 0 76).toInt - (V160 0 69).toInt - (V160 0 73).toInt ≤ (V 0 76).toInt - (V 0 69).toInt - (V 0 73).toInt + 3000 from by first | omega | ((try (have i_t147 := Imp.go t147 (by omega))); (try (have i_t76 := Imp.go t76 (by omega))); (try (have i_t39 := Imp.go t39 (by omega))); (try (have i_r0 := Imp.go r0 (by omega))); (try (have i_r0 := Imp.go r0 (by omega))); (try (have i_t39 := Imp.go t39 (by omega))); (try (have i_t76 := Imp.go t76 (by omega))); (try (have i_t147 := Imp.go t147 (by omega))); omega)), r0168⟩, by rw [ht]; exact hP, va_K.moved hW.alike hK, hD⟩, hS.F ht⟩) hS.2.2 dX12_get_61
        · skip
          have f169 : ((V 0 54)).toInt = 0 := b_eq rfl (by decide) c142
          exfalso; first | omega | ((try (have i_t76 := Imp.go t76 (by omega))); (try (have i_t39 := Imp.go t39 (by omega))); (try (have i_r0 := Imp.go r0 (by omega))); (try (have i_r0 := Imp.go r0 (by omega))); (try (have i_t39 := Imp.go t39 (by omega))); (try (have i_t76 := Imp.go t76 (by omega))); omega)
abbrev r_s_call2 : Room := { frames := 1609, cells := 0, slots := 0, locals := 40345 }
abbrev q_s_call2 (D : va_G) (ks : KS) (ad : Nat → Nat) (kk : Nat → ClassId) (V : Vf) (L : Lf) (p0 : Int32) (p1 : Int32) (p2 : Int32) (p3 : Int32) (A : Nat → Prop) : Array Value → State → Outcome → State → Prop := va_Qi (fun (r : Int32) (u : Vf × Lf) => rgd bM u.1 ∧ agr [(0, 0), (0, 60), (0, 65), (0, 68), (0, 69), (0, 70), (0, 71), (0, 72), (0, 73), (0, 76), (0, 90), (0, 91), (0, 92), (0, 93), (0, 95), (0, 96), (0, 98)] [59, 61, 62, 63, 64, 66, 67, 74, 75, 77, 78, 79, 80, 94, 97] V u.1 ∧ u.2 = L ∧ ((u.1 0 65).toInt ≤ (u.1 0 60).toInt) ∧ ((u.1 0 73).toInt - (u.1 0 65).toInt ≤ (V 0 73).toInt - (V 0 65).toInt + 300) ∧ ((u.1 0 76).toInt - (u.1 0 69).toInt - (u.1 0 73).toInt ≤ (V 0 76).toInt - (V 0 69).toInt - (V 0 73).toInt + 3000) ∧ (RT0 u.1)) (fun u t => gq D A (mw ad kk ks.1 u.1 u.2) (mty kk) t) A
set_option maxHeartbeats 4000000 in
set_option maxRecDepth 100000 in
theorem s_call2 (l : Launch) (D : va_G) (ks : KS) (sz : Nat) (ad : Nat → Nat) (kk : Nat → ClassId) (V : Vf) (L : Lf) (p0 : Int32) (p1 : Int32) (p2 : Int32) (p3 : Int32) (hMV : rgd bM V) (r0 : RT0 V) (n1 : (V 0 65).toInt ≤ (V 0 60).toInt) (n3 : (V 0 73).toInt - (V 0 65).toInt ≤ 990000) (n4 : (V 0 76).toInt - (V 0 69).toInt - (V 0 73).toInt ≤ 900000000)  : Met l yX12_call (Cond.code yX12_call cX12_call 6 (some .int) :: GW) r_s_call2 (va_Pc [.ref (ad 0), .int p0, .int p1, .int p2, .int p3] (gp D ks (mw ad kk ks.1 V L) (mty kk) sz)) (q_s_call2 D ks ad kk V L p0 p1 p2 p3 (va_A (mw ad kk ks.1 V L) sz)) 0 0 (va_A (mw ad kk ks.1 V L) sz) := by
  refine g_met (q_s_call2 D ks ad kk V L p0 p1 p2 p3) (by decide) (Nat.le_of_ble_eq_true rfl) ?_
  intro p e s m below meth c A ls H locs hx hb hr hml hown hg hlocks hin hnw hgk hP hK hD hS hA hl
  have hown : s.vm.findClass RX12 = some m.cls := hown
  have hl : lv_has ls 6 [(0, .ref (ad 0)), (1, .int p0), (2, .int p1), (3, .int p2), (4, .int p3)] := hl
  have hP : va_P D vwCl (mw ad kk ks.1 V L) H := hP
  have hD : va_D A (mw ad kk ks.1 V L) := hD
  have hK : va_K D vwCl (mty kk) s := hK
  have agV : agr [(0, 0), (0, 60), (0, 65), (0, 68), (0, 69), (0, 70), (0, 71), (0, 72), (0, 73), (0, 76), (0, 90), (0, 91), (0, 92), (0, 93), (0, 95), (0, 96), (0, 98)] [59, 61, 62, 63, 64, 66, 67, 74, 75, 77, 78, 79, 80, 94, 97] V V := agr.rf
  have r1 : 0 ≤ ((V 0 65)).toInt ∧ ((V 0 65)).toInt ≤ 1000000 := hMV 0 65
  have r2 : 0 ≤ ((V 0 60)).toInt ∧ ((V 0 60)).toInt ≤ 300 := hMV 0 60
  have r3 : 0 ≤ ((V 0 73)).toInt ∧ ((V 0 73)).toInt ≤ 1000000 := hMV 0 73
  have r4 : 0 ≤ ((V 0 76)).toInt ∧ ((V 0 76)).toInt ≤ 2000000000 := hMV 0 76
  have r5 : 0 ≤ ((V 0 69)).toInt ∧ ((V 0 69)).toInt ≤ 3000 := hMV 0 69
  have fz : (V 0 95).toInt = 0 := r0.2.2.2.2
  have hl3 : 0 ≤ (V 0 69).toInt ∧ (V 0 69).toInt ≤ 3000 := hMV 0 69
  refine lv_aload_n hx hb dX12_call_0 rfl (lv_at hl 0 rfl) ?_
  refine lv_iconst (v := 0) hx hb dX12_call_1 (by decide) ?_
  refine va_put (D := D) (ci := 12) (v := .int 0) (ty := tyX12 0) (C := RX12) (T := TX12) (N := 100) hx hb hg inX12 tyX12 tyX12_ok nmX12 hown hK hP hD hS 0 rfl rfl 0 (by decide) (hg _ w1710) (fun _ h9 => h9) rfl (tyX12_ok 0 (by decide)) rfl rfl (Nat.le_of_ble_eq_true rfl) dX12_call_2 (fun H locs hP hD hS => ?_)
  obtain ⟨V6, hV6⟩ : ∃ z, z = up2 V 0 0 0 := ⟨_, rfl⟩
  have hP : va_P D vwCl (mw ad kk ks.1 V6 L) H := by rw [hV6]; exact hP
  have hD : va_D A (mw ad kk ks.1 V6 L) := by rw [hV6]; exact hD
  have hMV6 : rgd bM V6 := hMV.put hV6 (i_full _)
  have agV6 : agr [(0, 0), (0, 60), (0, 65), (0, 68), (0, 69), (0, 70), (0, 71), (0, 72), (0, 73), (0, 76), (0, 90), (0, 91), (0, 92), (0, 93), (0, 95), (0, 96), (0, 98)] [59, 61, 62, 63, 64, 66, 67, 74, 75, 77, 78, 79, 80, 94, 97] V V6 := agV.up hV6 rfl
  refine lv_aload_n hx hb dX12_call_5 rfl (lv_at hl 0 rfl) ?_
  refine gA_void (gA_runV (As := []) (rest := []) (ci := 12) (q0 := 0) hx hb hml hown hg hP hD hK hS hA hnw hgk (s_begins2 l D ks H.size ad kk V6 L  hMV6 ) w2235 w2237 w127 w172 w2238 rfl rfl hdV_yX12_begins_ ⟨Nat.le_of_ble_eq_true rfl, Nat.le_of_ble_eq_true rfl⟩ rfl hl.1 rfl (Nat.le_of_ble_eq_true rfl) dX12_call_6 ⟨Nat.le_of_ble_eq_true rfl, Nat.le_of_ble_eq_true rfl⟩) hP hD hK hS hA (fun u8 H locs w9 hP hD hK hS => ?_)
  obtain ⟨V14, L15⟩ := u8
  obtain ⟨hMV14, ajV14, axL15, t10, t11, t12, t13⟩ := w9
  have axL15 : L = L15 := Eq.symm axL15
  subst axL15
  have hP : va_P D vwCl (mw ad kk ks.1 V14 L) H := hP
  have hD : va_D A (mw ad kk ks.1 V14 L) := hD
  have hMV14 : rgd bM V14 := hMV14
  have ajV14 : agr [(0, 69), (0, 71), (0, 72), (0, 93), (0, 95), (0, 98)] [] V6 V14 := ajV14
  have agV14 : agr [(0, 0), (0, 60), (0, 65), (0, 68), (0, 69), (0, 70), (0, 71), (0, 72), (0, 73), (0, 76), (0, 90), (0, 91), (0, 92), (0, 93), (0, 95), (0, 96), (0, 98)] [59, 61, 62, 63, 64, 66, 67, 74, 75, 77, 78, 79, 80, 94, 97] V V14 := agV6.tr ajV14 (by decide) (by decide)
  have t10 : (V14 0 69).toInt = 0 := t10
  have t11 : (V14 0 93).toInt = 0 := t11
  have t12 : (V14 0 98).toInt = 0 := t12
  have t13 : (V14 0 95).toInt = 0 := t13
  have r16 : 0 ≤ ((V14 0 69)).toInt ∧ ((V14 0 69)).toInt ≤ 3000 := hMV14 0 69
  have r17 : 0 ≤ ((V14 0 93)).toInt ∧ ((V14 0 93)).toInt ≤ 10 := hMV14 0 93
  have r18 : 0 ≤ ((V14 0 98)).toInt ∧ ((V14 0 98)).toInt ≤ 20000 := hMV14 0 98
  have r19 : 0 ≤ ((V14 0 95)).toInt ∧ ((V14 0 95)).toInt ≤ 300 := hMV14 0 95
  refine lv_aload_n hx hb dX12_call_9 rfl (lv_at hl 0 rfl) ?_
  refine lv_iconst (v := 0) hx hb dX12_call_10 (by decide) ?_
  refine va_put (D := D) (ci := 12) (v := .int 0) (ty := tyX12 76) (C := RX12) (T := TX12) (N := 100) hx hb hg inX12 tyX12 tyX12_ok nmX12 hown hK hP hD hS 0 rfl rfl 76 (by decide) (hg _ w1786) (fun _ h9 => h9) rfl (tyX12_ok 76 (by decide)) rfl rfl (Nat.le_of_ble_eq_true rfl) dX12_call_11 (fun H locs hP hD hS => ?_)
  obtain ⟨V20, hV20⟩ : ∃ z, z = up2 V14 0 76 0 := ⟨_, rfl⟩
  have hP : va_P D vwCl (mw ad kk ks.1 V20 L) H := by rw [hV20]; exact hP
  have hD : va_D A (mw ad kk ks.1 V20 L) := by rw [hV20]; exact hD
  have hMV20 : rgd bM V20 := hMV14.put hV20 (by decide)
  have agV20 : agr [(0, 0), (0, 60), (0, 65), (0, 68), (0, 69), (0, 70), (0, 71), (0, 72), (0, 73), (0, 76), (0, 90), (0, 91), (0, 92), (0, 93), (0, 95), (0, 96), (0, 98)] [59, 61, 62, 63, 64, 66, 67, 74, 75, 77, 78, 79, 80, 94, 97] V V20 := agV14.up hV20 rfl
  refine lv_iload_n hx hb dX12_call_14 rfl (lv_at hl 2 rfl) ?_
  refine lv_if_lt (tgt := 57) hx hb dX12_call_15 (by decide) (fun c21 => ?_) (fun c21 => ?_)
  · skip
    have f22 : p1.toInt < 0 := b_lt rfl (by decide) c21
    refine lv_iconst (v := 0) hx hb dX12_call_57 (by decide) ?_
    refine lv_istore (lv' := [(5, .int 0), (0, .ref (ad 0)), (1, .int p0), (2, .int p1), (3, .int p2), (4, .int p3)]) hx hb dX12_call_58 hl (by decide) rfl (fun ls hl => ?_)
    refine lv_aload_n hx hb dX12_call_60 rfl (lv_at hl 1 rfl) ?_
    refine va_get (D := D) (ci := 12) (v := .int (V20 0 54)) (C := RX12) (T := TX12) (N := 100) hx hb hg inX12 hown hK hP 0 rfl rfl 54 (by decide) (hg _ w1764) (fun _ h9 => h9) rfl dX12_call_61 ?_
    refine g_top (v := (V 0 54)) ((up2_k hV20 (by decide)).trans ((ajV14 0 54 rfl).trans (up2_k hV6 (by decide)))) ?_
    have r23 : 0 ≤ ((V 0 54)).toInt ∧ ((V 0 54)).toInt ≤ 1 := hMV 0 54
    refine lv_if_eq (tgt := 80) hx hb dX12_call_64 (by decide) (fun c24 => ?_) (fun c24 => ?_)
    · skip
      have f25 : ((V 0 54)).toInt = 0 := b_eq rfl (by decide) c24
      refine lv_aload_n hx hb dX12_call_80 rfl (lv_at hl 1 rfl) ?_
      refine lv_aload_n hx hb dX12_call_81 rfl (lv_at hl 1 rfl) ?_
      refine va_get (D := D) (ci := 12) (v := .int (V20 0 54)) (C := RX12) (T := TX12) (N := 100) hx hb hg inX12 hown hK hP 0 rfl rfl 54 (by decide) (hg _ w1764) (fun _ h9 => h9) rfl dX12_call_82 ?_
      refine g_top (v := (V 0 54)) ((up2_k hV20 (by decide)).trans ((ajV14 0 54 rfl).trans (up2_k hV6 (by decide)))) ?_
      refine lv_if_ne (tgt := 92) hx hb dX12_call_85 (by decide) (fun c26 => ?_) (fun c26 => ?_)
      · skip
        have f27 : ((V 0 54)).toInt ≠ 0 := b_neq rfl (by decide) c26
        exfalso; first | omega | ((try (have i_r0 := Imp.go r0 (by omega))); omega)
      · skip
        have f28 : ((V 0 54)).toInt = 0 := b_eq rfl (by decide) c26
        refine lv_iconst (v := 4) hx hb dX12_call_88 (by decide) ?_
        refine lv_goto (tgt := 105) hx hb dX12_call_89 (by decide) ?_
        refine va_put (D := D) (ci := 12) (v := .int 4) (ty := tyX12 70) (C := RX12) (T := TX12) (N := 100) hx hb hg inX12 tyX12 tyX12_ok nmX12 hown hK hP hD hS 0 rfl rfl 70 (by decide) (hg _ w1780) (fun _ h9 => h9) rfl (tyX12_ok 70 (by decide)) rfl rfl (Nat.le_of_ble_eq_true rfl) dX12_call_105 (fun H locs hP hD hS => ?_)
        obtain ⟨V29, hV29⟩ : ∃ z, z = up2 V20 0 70 4 := ⟨_, rfl⟩
        have hP : va_P D vwCl (mw ad kk ks.1 V29 L) H := by rw [hV29]; exact hP
        have hD : va_D A (mw ad kk ks.1 V29 L) := by rw [hV29]; exact hD
        have hMV29 : rgd bM V29 := hMV20.put hV29 (i_full _)
        have agV29 : agr [(0, 0), (0, 60), (0, 65), (0, 68), (0, 69), (0, 70), (0, 71), (0, 72), (0, 73), (0, 76), (0, 90), (0, 91), (0, 92), (0, 93), (0, 95), (0, 96), (0, 98)] [59, 61, 62, 63, 64, 66, 67, 74, 75, 77, 78, 79, 80, 94, 97] V V29 := agV20.up hV29 rfl
        refine lv_iconst (v := 0) hx hb dX12_call_108 (by decide) ?_
        have pq30 : (V29 0 65).toInt = ((V 0 65)).toInt := congrArg Int32.toInt ((up2_k hV29 (by decide)).trans ((up2_k hV20 (by decide)).trans ((ajV14 0 65 rfl).trans (up2_k hV6 (by decide)))))
        have pq31 : (V29 0 60).toInt = ((V 0 60)).toInt := congrArg Int32.toInt ((up2_k hV29 (by decide)).trans ((up2_k hV20 (by decide)).trans ((ajV14 0 60 rfl).trans (up2_k hV6 (by decide)))))
        have pq32 : (V29 0 73).toInt = ((V 0 73)).toInt := congrArg Int32.toInt ((up2_k hV29 (by decide)).trans ((up2_k hV20 (by decide)).trans ((ajV14 0 73 rfl).trans (up2_k hV6 (by decide)))))
        have pq33 : (V29 0 76).toInt = 0 := (congrArg Int32.toInt ((up2_k hV29 (by decide)).trans (up2_s hV20))).trans (by decide)
        have pq34 : (V29 0 69).toInt = ((V14 0 69)).toInt := congrArg Int32.toInt ((up2_k hV29 (by decide)).trans (up2_k hV20 (by decide)))
        have pq35 : (V29 0 95).toInt = ((V14 0 95)).toInt := congrArg Int32.toInt ((up2_k hV29 (by decide)).trans (up2_k hV20 (by decide)))
        have fz36 : (V 0 95).toInt = 0 := r0.2.2.2.2
        have r037 : RT0 V29 := RT0.ag r0 hMV (show agr [(0, 0), (0, 69), (0, 70), (0, 71), (0, 72), (0, 76), (0, 93), (0, 95), (0, 98)] [] V V29 from (agr.up (agr.up (agr.tr (agr.up agr.rf hV6 rfl) ajV14 (by decide) (by decide)) hV20 rfl) hV29 rfl)) ⟨⟨rfl, fun _ => rfl, fun _ => rfl, fun _ => rfl, fun _ => rfl, fun _ => rfl, fun _ => rfl⟩, by decide, by decide, rfl, rfl, fun _ => rfl, fun _ => rfl, fun _ => rfl⟩ (c0k.ag (show agr [(0, 0), (0, 69), (0, 70), (0, 71), (0, 72), (0, 76), (0, 93), (0, 95), (0, 98)] [] V V29 from (agr.up (agr.up (agr.tr (agr.up agr.rf hV6 rfl) ajV14 (by decide) (by decide)) hV20 rfl) hV29 rfl)) rfl) (by omega)
        exact W.iret (v := 0) hx hb hr (fun t ht hW => ⟨⟨0, (V29, L), rfl, ⟨hMV29, agV29, rfl, (show (V29 0 65).toInt ≤ (V29 0 60).toInt from by first | omega | ((try (have i_r0 := Imp.go r0 (by omega))); omega)), (show (V29 0 73).toInt - (V29 0 65).toInt ≤ (V 0 73).toInt - (V 0 65).toInt + 300 from by first | omega | ((try (have i_r0 := Imp.go r0 (by omega))); omega)), (show (V29 0 76).toInt - (V29 0 69).toInt - (V29 0 73).toInt ≤ (V 0 76).toInt - (V 0 69).toInt - (V 0 73).toInt + 3000 from by first | omega | ((try (have i_r0 := Imp.go r0 (by omega))); omega)), r037⟩, by rw [ht]; exact hP, va_K.moved hW.alike hK, hD⟩, hS.F ht⟩) hS.2.2 dX12_call_109
    · skip
      have f38 : ((V 0 54)).toInt ≠ 0 := b_neq rfl (by decide) c24
      refine lv_aload_n hx hb dX12_call_67 rfl (lv_at hl 1 rfl) ?_
      refine lv_iload_n hx hb dX12_call_68 rfl (lv_at hl 2 rfl) ?_
      refine gA_int (gA_runV (As := [.int p0]) (rest := []) (ci := 12) (q0 := 0) hx hb hml hown hg hP hD hK hS hA hnw hgk (s_isScope l D ks H.size ad kk V20 L p0 hMV20 ) w2227 w2229 w126 w172 w2230 rfl rfl hdV_yX12_isScope ⟨Nat.le_of_ble_eq_true rfl, Nat.le_of_ble_eq_true rfl⟩ rfl hl.1 rfl (Nat.le_of_ble_eq_true rfl) dX12_call_69 ⟨Nat.le_of_ble_eq_true rfl, Nat.le_of_ble_eq_true rfl⟩) hP hD hK hS hA (fun z39 u40 H locs w41 hP hD hK hS => ?_)
      obtain ⟨rgz39, t42⟩ := w41
      have rgz39 : 0 ≤ z39.toInt ∧ z39.toInt ≤ 1 := rgz39
      have t42 : Imp (z39.toInt = 1) (0 ≤ p0.toInt ∧ p0.toInt < (V20 0 55).toInt) := t42
      have pq43 : (V20 0 55).toInt = ((V 0 55)).toInt := congrArg Int32.toInt ((up2_k hV20 (by decide)).trans ((ajV14 0 55 rfl).trans (up2_k hV6 (by decide))))
      have r44 : 1 ≤ ((V 0 55)).toInt ∧ ((V 0 55)).toInt ≤ 40 := hMV 0 55
      refine lv_if_eq (tgt := 80) hx hb dX12_call_72 (by decide) (fun c45 => ?_) (fun c45 => ?_)
      · skip
        have f46 : z39.toInt = 0 := b_eq rfl (by decide) c45
        refine lv_aload_n hx hb dX12_call_80 rfl (lv_at hl 1 rfl) ?_
        refine lv_aload_n hx hb dX12_call_81 rfl (lv_at hl 1 rfl) ?_
        refine va_get (D := D) (ci := 12) (v := .int (V20 0 54)) (C := RX12) (T := TX12) (N := 100) hx hb hg inX12 hown hK hP 0 rfl rfl 54 (by decide) (hg _ w1764) (fun _ h9 => h9) rfl dX12_call_82 ?_
        refine g_top (v := (V 0 54)) ((up2_k hV20 (by decide)).trans ((ajV14 0 54 rfl).trans (up2_k hV6 (by decide)))) ?_
        refine lv_if_ne (tgt := 92) hx hb dX12_call_85 (by decide) (fun c47 => ?_) (fun c47 => ?_)
        · skip
          have f48 : ((V 0 54)).toInt ≠ 0 := b_neq rfl (by decide) c47
          refine lv_aload_n hx hb dX12_call_92 rfl (lv_at hl 1 rfl) ?_
          refine lv_iload_n hx hb dX12_call_93 rfl (lv_at hl 2 rfl) ?_
          refine gA_int (gA_runV (As := [.int p0]) (rest := [.ref (ad 0)]) (ci := 12) (q0 := 0) hx hb hml hown hg hP hD hK hS hA hnw hgk (s_isScope l D ks H.size ad kk V20 L p0 hMV20 ) w2227 w2229 w126 w172 w2230 rfl rfl hdV_yX12_isScope ⟨Nat.le_of_ble_eq_true rfl, Nat.le_of_ble_eq_true rfl⟩ rfl hl.1 rfl (Nat.le_of_ble_eq_true rfl) dX12_call_94 ⟨Nat.le_of_ble_eq_true rfl, Nat.le_of_ble_eq_true rfl⟩) hP hD hK hS hA (fun z49 u50 H locs w51 hP hD hK hS => ?_)
          obtain ⟨rgz49, t52⟩ := w51
          have rgz49 : 0 ≤ z49.toInt ∧ z49.toInt ≤ 1 := rgz49
          have t52 : Imp (z49.toInt = 1) (0 ≤ p0.toInt ∧ p0.toInt < (V20 0 55).toInt) := t52
          refine lv_if_ne (tgt := 104) hx hb dX12_call_97 (by decide) (fun c53 => ?_) (fun c53 => ?_)
          · skip
            have f54 : z49.toInt ≠ 0 := b_neq rfl (by decide) c53
            refine lv_iconst (v := 4) hx hb dX12_call_104 (by decide) ?_
            refine va_put (D := D) (ci := 12) (v := .int 4) (ty := tyX12 70) (C := RX12) (T := TX12) (N := 100) hx hb hg inX12 tyX12 tyX12_ok nmX12 hown hK hP hD hS 0 rfl rfl 70 (by decide) (hg _ w1780) (fun _ h9 => h9) rfl (tyX12_ok 70 (by decide)) rfl rfl (Nat.le_of_ble_eq_true rfl) dX12_call_105 (fun H locs hP hD hS => ?_)
            obtain ⟨V55, hV55⟩ : ∃ z, z = up2 V20 0 70 4 := ⟨_, rfl⟩
            have hP : va_P D vwCl (mw ad kk ks.1 V55 L) H := by rw [hV55]; exact hP
            have hD : va_D A (mw ad kk ks.1 V55 L) := by rw [hV55]; exact hD
            have hMV55 : rgd bM V55 := hMV20.put hV55 (i_full _)
            have agV55 : agr [(0, 0), (0, 60), (0, 65), (0, 68), (0, 69), (0, 70), (0, 71), (0, 72), (0, 73), (0, 76), (0, 90), (0, 91), (0, 92), (0, 93), (0, 95), (0, 96), (0, 98)] [59, 61, 62, 63, 64, 66, 67, 74, 75, 77, 78, 79, 80, 94, 97] V V55 := agV20.up hV55 rfl
            refine lv_iconst (v := 0) hx hb dX12_call_108 (by decide) ?_
            have pq56 : (V55 0 65).toInt = ((V 0 65)).toInt := congrArg Int32.toInt ((up2_k hV55 (by decide)).trans ((up2_k hV20 (by decide)).trans ((ajV14 0 65 rfl).trans (up2_k hV6 (by decide)))))
            have pq57 : (V55 0 60).toInt = ((V 0 60)).toInt := congrArg Int32.toInt ((up2_k hV55 (by decide)).trans ((up2_k hV20 (by decide)).trans ((ajV14 0 60 rfl).trans (up2_k hV6 (by decide)))))
            have pq58 : (V55 0 73).toInt = ((V 0 73)).toInt := congrArg Int32.toInt ((up2_k hV55 (by decide)).trans ((up2_k hV20 (by decide)).trans ((ajV14 0 73 rfl).trans (up2_k hV6 (by decide)))))
            have pq59 : (V55 0 76).toInt = 0 := (congrArg Int32.toInt ((up2_k hV55 (by decide)).trans (up2_s hV20))).trans (by decide)
            have pq60 : (V55 0 69).toInt = ((V14 0 69)).toInt := congrArg Int32.toInt ((up2_k hV55 (by decide)).trans (up2_k hV20 (by decide)))
            have pq61 : (V55 0 95).toInt = ((V14 0 95)).toInt := congrArg Int32.toInt ((up2_k hV55 (by decide)).trans (up2_k hV20 (by decide)))
            have fz62 : (V 0 95).toInt = 0 := r0.2.2.2.2
            have r063 : RT0 V55 := RT0.ag r0 hMV (show agr [(0, 0), (0, 69), (0, 70), (0, 71), (0, 72), (0, 76), (0, 93), (0, 95), (0, 98)] [] V V55 from (agr.up (agr.up (agr.tr (agr.up agr.rf hV6 rfl) ajV14 (by decide) (by decide)) hV20 rfl) hV55 rfl)) ⟨⟨rfl, fun _ => rfl, fun _ => rfl, fun _ => rfl, fun _ => rfl, fun _ => rfl, fun _ => rfl⟩, by decide, by decide, rfl, rfl, fun _ => rfl, fun _ => rfl, fun _ => rfl⟩ (c0k.ag (show agr [(0, 0), (0, 69), (0, 70), (0, 71), (0, 72), (0, 76), (0, 93), (0, 95), (0, 98)] [] V V55 from (agr.up (agr.up (agr.tr (agr.up agr.rf hV6 rfl) ajV14 (by decide) (by decide)) hV20 rfl) hV55 rfl)) rfl) (by omega)
            exact W.iret (v := 0) hx hb hr (fun t ht hW => ⟨⟨0, (V55, L), rfl, ⟨hMV55, agV55, rfl, (show (V55 0 65).toInt ≤ (V55 0 60).toInt from by first | omega | ((try (have i_t52 := Imp.go t52 (by omega))); (try (have i_t42 := Imp.go t42 (by omega))); (try (have i_r0 := Imp.go r0 (by omega))); (try (have i_r0 := Imp.go r0 (by omega))); (try (have i_t42 := Imp.go t42 (by omega))); (try (have i_t52 := Imp.go t52 (by omega))); omega)), (show (V55 0 73).toInt - (V55 0 65).toInt ≤ (V 0 73).toInt - (V 0 65).toInt + 300 from by first | omega | ((try (have i_t52 := Imp.go t52 (by omega))); (try (have i_t42 := Imp.go t42 (by omega))); (try (have i_r0 := Imp.go r0 (by omega))); (try (have i_r0 := Imp.go r0 (by omega))); (try (have i_t42 := Imp.go t42 (by omega))); (try (have i_t52 := Imp.go t52 (by omega))); omega)), (show (V55 0 76).toInt - (V55 0 69).toInt - (V55 0 73).toInt ≤ (V 0 76).toInt - (V 0 69).toInt - (V 0 73).toInt + 3000 from by first | omega | ((try (have i_t52 := Imp.go t52 (by omega))); (try (have i_t42 := Imp.go t42 (by omega))); (try (have i_r0 := Imp.go r0 (by omega))); (try (have i_r0 := Imp.go r0 (by omega))); (try (have i_t42 := Imp.go t42 (by omega))); (try (have i_t52 := Imp.go t52 (by omega))); omega)), r063⟩, by rw [ht]; exact hP, va_K.moved hW.alike hK, hD⟩, hS.F ht⟩) hS.2.2 dX12_call_109
          · skip
            have f64 : z49.toInt = 0 := b_eq rfl (by decide) c53
            refine lv_iconst (v := 3) hx hb dX12_call_100 (by decide) ?_
            refine lv_goto (tgt := 105) hx hb dX12_call_101 (by decide) ?_
            refine va_put (D := D) (ci := 12) (v := .int 3) (ty := tyX12 70) (C := RX12) (T := TX12) (N := 100) hx hb hg inX12 tyX12 tyX12_ok nmX12 hown hK hP hD hS 0 rfl rfl 70 (by decide) (hg _ w1780) (fun _ h9 => h9) rfl (tyX12_ok 70 (by decide)) rfl rfl (Nat.le_of_ble_eq_true rfl) dX12_call_105 (fun H locs hP hD hS => ?_)
            obtain ⟨V65, hV65⟩ : ∃ z, z = up2 V20 0 70 3 := ⟨_, rfl⟩
            have hP : va_P D vwCl (mw ad kk ks.1 V65 L) H := by rw [hV65]; exact hP
            have hD : va_D A (mw ad kk ks.1 V65 L) := by rw [hV65]; exact hD
            have hMV65 : rgd bM V65 := hMV20.put hV65 (i_full _)
            have agV65 : agr [(0, 0), (0, 60), (0, 65), (0, 68), (0, 69), (0, 70), (0, 71), (0, 72), (0, 73), (0, 76), (0, 90), (0, 91), (0, 92), (0, 93), (0, 95), (0, 96), (0, 98)] [59, 61, 62, 63, 64, 66, 67, 74, 75, 77, 78, 79, 80, 94, 97] V V65 := agV20.up hV65 rfl
            refine lv_iconst (v := 0) hx hb dX12_call_108 (by decide) ?_
            have pq66 : (V65 0 65).toInt = ((V 0 65)).toInt := congrArg Int32.toInt ((up2_k hV65 (by decide)).trans ((up2_k hV20 (by decide)).trans ((ajV14 0 65 rfl).trans (up2_k hV6 (by decide)))))
            have pq67 : (V65 0 60).toInt = ((V 0 60)).toInt := congrArg Int32.toInt ((up2_k hV65 (by decide)).trans ((up2_k hV20 (by decide)).trans ((ajV14 0 60 rfl).trans (up2_k hV6 (by decide)))))
            have pq68 : (V65 0 73).toInt = ((V 0 73)).toInt := congrArg Int32.toInt ((up2_k hV65 (by decide)).trans ((up2_k hV20 (by decide)).trans ((ajV14 0 73 rfl).trans (up2_k hV6 (by decide)))))
            have pq69 : (V65 0 76).toInt = 0 := (congrArg Int32.toInt ((up2_k hV65 (by decide)).trans (up2_s hV20))).trans (by decide)
            have pq70 : (V65 0 69).toInt = ((V14 0 69)).toInt := congrArg Int32.toInt ((up2_k hV65 (by decide)).trans (up2_k hV20 (by decide)))
            have pq71 : (V65 0 95).toInt = ((V14 0 95)).toInt := congrArg Int32.toInt ((up2_k hV65 (by decide)).trans (up2_k hV20 (by decide)))
            have fz72 : (V 0 95).toInt = 0 := r0.2.2.2.2
            have r073 : RT0 V65 := RT0.ag r0 hMV (show agr [(0, 0), (0, 69), (0, 70), (0, 71), (0, 72), (0, 76), (0, 93), (0, 95), (0, 98)] [] V V65 from (agr.up (agr.up (agr.tr (agr.up agr.rf hV6 rfl) ajV14 (by decide) (by decide)) hV20 rfl) hV65 rfl)) ⟨⟨rfl, fun _ => rfl, fun _ => rfl, fun _ => rfl, fun _ => rfl, fun _ => rfl, fun _ => rfl⟩, by decide, by decide, rfl, rfl, fun _ => rfl, fun _ => rfl, fun _ => rfl⟩ (c0k.ag (show agr [(0, 0), (0, 69), (0, 70), (0, 71), (0, 72), (0, 76), (0, 93), (0, 95), (0, 98)] [] V V65 from (agr.up (agr.up (agr.tr (agr.up agr.rf hV6 rfl) ajV14 (by decide) (by decide)) hV20 rfl) hV65 rfl)) rfl) (by omega)
            exact W.iret (v := 0) hx hb hr (fun t ht hW => ⟨⟨0, (V65, L), rfl, ⟨hMV65, agV65, rfl, (show (V65 0 65).toInt ≤ (V65 0 60).toInt from by first | omega | ((try (have i_t52 := Imp.go t52 (by omega))); (try (have i_t42 := Imp.go t42 (by omega))); (try (have i_r0 := Imp.go r0 (by omega))); (try (have i_r0 := Imp.go r0 (by omega))); (try (have i_t42 := Imp.go t42 (by omega))); (try (have i_t52 := Imp.go t52 (by omega))); omega)), (show (V65 0 73).toInt - (V65 0 65).toInt ≤ (V 0 73).toInt - (V 0 65).toInt + 300 from by first | omega | ((try (have i_t52 := Imp.go t52 (by omega))); (try (have i_t42 := Imp.go t42 (by omega))); (try (have i_r0 := Imp.go r0 (by omega))); (try (have i_r0 := Imp.go r0 (by omega))); (try (have i_t42 := Imp.go t42 (by omega))); (try (have i_t52 := Imp.go t52 (by omega))); omega)), (show (V65 0 76).toInt - (V65 0 69).toInt - (V65 0 73).toInt ≤ (V 0 76).toInt - (V 0 69).toInt - (V 0 73).toInt + 3000 from by first | omega | ((try (have i_t52 := Imp.go t52 (by omega))); (try (have i_t42 := Imp.go t42 (by omega))); (try (have i_r0 := Imp.go r0 (by omega))); (try (have i_r0 := Imp.go r0 (by omega))); (try (have i_t42 := Imp.go t42 (by omega))); (try (have i_t52 := Imp.go t52 (by omega))); omega)), r073⟩, by rw [ht]; exact hP, va_K.moved hW.alike hK, hD⟩, hS.F ht⟩) hS.2.2 dX12_call_109
        · skip
          have f74 : ((V 0 54)).toInt = 0 := b_eq rfl (by decide) c47
          exfalso; first | omega | ((try (have i_t42 := Imp.go t42 (by omega))); (try (have i_r0 := Imp.go r0 (by omega))); (try (have i_r0 := Imp.go r0 (by omega))); (try (have i_t42 := Imp.go t42 (by omega))); omega)
      · skip
        have f75 : z39.toInt ≠ 0 := b_neq rfl (by decide) c45
        refine lv_iload hx hb dX12_call_75 (lv_at hl 0 rfl) ?_
        refine lv_if_ne (tgt := 110) hx hb dX12_call_77 (by decide) (fun q => absurd rfl q) (fun _ => ?_)
        refine lv_aload_n hx hb dX12_call_80 rfl (lv_at hl 1 rfl) ?_
        refine lv_aload_n hx hb dX12_call_81 rfl (lv_at hl 1 rfl) ?_
        refine va_get (D := D) (ci := 12) (v := .int (V20 0 54)) (C := RX12) (T := TX12) (N := 100) hx hb hg inX12 hown hK hP 0 rfl rfl 54 (by decide) (hg _ w1764) (fun _ h9 => h9) rfl dX12_call_82 ?_
        refine g_top (v := (V 0 54)) ((up2_k hV20 (by decide)).trans ((ajV14 0 54 rfl).trans (up2_k hV6 (by decide)))) ?_
        refine lv_if_ne (tgt := 92) hx hb dX12_call_85 (by decide) (fun c76 => ?_) (fun c76 => ?_)
        · skip
          have f77 : ((V 0 54)).toInt ≠ 0 := b_neq rfl (by decide) c76
          refine lv_aload_n hx hb dX12_call_92 rfl (lv_at hl 1 rfl) ?_
          refine lv_iload_n hx hb dX12_call_93 rfl (lv_at hl 2 rfl) ?_
          refine gA_int (gA_runV (As := [.int p0]) (rest := [.ref (ad 0)]) (ci := 12) (q0 := 0) hx hb hml hown hg hP hD hK hS hA hnw hgk (s_isScope l D ks H.size ad kk V20 L p0 hMV20 ) w2227 w2229 w126 w172 w2230 rfl rfl hdV_yX12_isScope ⟨Nat.le_of_ble_eq_true rfl, Nat.le_of_ble_eq_true rfl⟩ rfl hl.1 rfl (Nat.le_of_ble_eq_true rfl) dX12_call_94 ⟨Nat.le_of_ble_eq_true rfl, Nat.le_of_ble_eq_true rfl⟩) hP hD hK hS hA (fun z78 u79 H locs w80 hP hD hK hS => ?_)
          obtain ⟨rgz78, t81⟩ := w80
          have rgz78 : 0 ≤ z78.toInt ∧ z78.toInt ≤ 1 := rgz78
          have t81 : Imp (z78.toInt = 1) (0 ≤ p0.toInt ∧ p0.toInt < (V20 0 55).toInt) := t81
          refine lv_if_ne (tgt := 104) hx hb dX12_call_97 (by decide) (fun c82 => ?_) (fun c82 => ?_)
          · skip
            have f83 : z78.toInt ≠ 0 := b_neq rfl (by decide) c82
            refine lv_iconst (v := 4) hx hb dX12_call_104 (by decide) ?_
            refine va_put (D := D) (ci := 12) (v := .int 4) (ty := tyX12 70) (C := RX12) (T := TX12) (N := 100) hx hb hg inX12 tyX12 tyX12_ok nmX12 hown hK hP hD hS 0 rfl rfl 70 (by decide) (hg _ w1780) (fun _ h9 => h9) rfl (tyX12_ok 70 (by decide)) rfl rfl (Nat.le_of_ble_eq_true rfl) dX12_call_105 (fun H locs hP hD hS => ?_)
            obtain ⟨V84, hV84⟩ : ∃ z, z = up2 V20 0 70 4 := ⟨_, rfl⟩
            have hP : va_P D vwCl (mw ad kk ks.1 V84 L) H := by rw [hV84]; exact hP
            have hD : va_D A (mw ad kk ks.1 V84 L) := by rw [hV84]; exact hD
            have hMV84 : rgd bM V84 := hMV20.put hV84 (i_full _)
            have agV84 : agr [(0, 0), (0, 60), (0, 65), (0, 68), (0, 69), (0, 70), (0, 71), (0, 72), (0, 73), (0, 76), (0, 90), (0, 91), (0, 92), (0, 93), (0, 95), (0, 96), (0, 98)] [59, 61, 62, 63, 64, 66, 67, 74, 75, 77, 78, 79, 80, 94, 97] V V84 := agV20.up hV84 rfl
            refine lv_iconst (v := 0) hx hb dX12_call_108 (by decide) ?_
            have pq85 : (V84 0 65).toInt = ((V 0 65)).toInt := congrArg Int32.toInt ((up2_k hV84 (by decide)).trans ((up2_k hV20 (by decide)).trans ((ajV14 0 65 rfl).trans (up2_k hV6 (by decide)))))
            have pq86 : (V84 0 60).toInt = ((V 0 60)).toInt := congrArg Int32.toInt ((up2_k hV84 (by decide)).trans ((up2_k hV20 (by decide)).trans ((ajV14 0 60 rfl).trans (up2_k hV6 (by decide)))))
            have pq87 : (V84 0 73).toInt = ((V 0 73)).toInt := congrArg Int32.toInt ((up2_k hV84 (by decide)).trans ((up2_k hV20 (by decide)).trans ((ajV14 0 73 rfl).trans (up2_k hV6 (by decide)))))
            have pq88 : (V84 0 76).toInt = 0 := (congrArg Int32.toInt ((up2_k hV84 (by decide)).trans (up2_s hV20))).trans (by decide)
            have pq89 : (V84 0 69).toInt = ((V14 0 69)).toInt := congrArg Int32.toInt ((up2_k hV84 (by decide)).trans (up2_k hV20 (by decide)))
            have pq90 : (V84 0 95).toInt = ((V14 0 95)).toInt := congrArg Int32.toInt ((up2_k hV84 (by decide)).trans (up2_k hV20 (by decide)))
            have fz91 : (V 0 95).toInt = 0 := r0.2.2.2.2
            have r092 : RT0 V84 := RT0.ag r0 hMV (show agr [(0, 0), (0, 69), (0, 70), (0, 71), (0, 72), (0, 76), (0, 93), (0, 95), (0, 98)] [] V V84 from (agr.up (agr.up (agr.tr (agr.up agr.rf hV6 rfl) ajV14 (by decide) (by decide)) hV20 rfl) hV84 rfl)) ⟨⟨rfl, fun _ => rfl, fun _ => rfl, fun _ => rfl, fun _ => rfl, fun _ => rfl, fun _ => rfl⟩, by decide, by decide, rfl, rfl, fun _ => rfl, fun _ => rfl, fun _ => rfl⟩ (c0k.ag (show agr [(0, 0), (0, 69), (0, 70), (0, 71), (0, 72), (0, 76), (0, 93), (0, 95), (0, 98)] [] V V84 from (agr.up (agr.up (agr.tr (agr.up agr.rf hV6 rfl) ajV14 (by decide) (by decide)) hV20 rfl) hV84 rfl)) rfl) (by omega)
            exact W.iret (v := 0) hx hb hr (fun t ht hW => ⟨⟨0, (V84, L), rfl, ⟨hMV84, agV84, rfl, (show (V84 0 65).toInt ≤ (V84 0 60).toInt from by first | omega | ((try (have i_t81 := Imp.go t81 (by omega))); (try (have i_t42 := Imp.go t42 (by omega))); (try (have i_r0 := Imp.go r0 (by omega))); (try (have i_r0 := Imp.go r0 (by omega))); (try (have i_t42 := Imp.go t42 (by omega))); (try (have i_t81 := Imp.go t81 (by omega))); omega)), (show (V84 0 73).toInt - (V84 0 65).toInt ≤ (V 0 73).toInt - (V 0 65).toInt + 300 from by first | omega | ((try (have i_t81 := Imp.go t81 (by omega))); (try (have i_t42 := Imp.go t42 (by omega))); (try (have i_r0 := Imp.go r0 (by omega))); (try (have i_r0 := Imp.go r0 (by omega))); (try (have i_t42 := Imp.go t42 (by omega))); (try (have i_t81 := Imp.go t81 (by omega))); omega)), (show (V84 0 76).toInt - (V84 0 69).toInt - (V84 0 73).toInt ≤ (V 0 76).toInt - (V 0 69).toInt - (V 0 73).toInt + 3000 from by first | omega | ((try (have i_t81 := Imp.go t81 (by omega))); (try (have i_t42 := Imp.go t42 (by omega))); (try (have i_r0 := Imp.go r0 (by omega))); (try (have i_r0 := Imp.go r0 (by omega))); (try (have i_t42 := Imp.go t42 (by omega))); (try (have i_t81 := Imp.go t81 (by omega))); omega)), r092⟩, by rw [ht]; exact hP, va_K.moved hW.alike hK, hD⟩, hS.F ht⟩) hS.2.2 dX12_call_109
          · skip
            have f93 : z78.toInt = 0 := b_eq rfl (by decide) c82
            refine lv_iconst (v := 3) hx hb dX12_call_100 (by decide) ?_
            refine lv_goto (tgt := 105) hx hb dX12_call_101 (by decide) ?_
            refine va_put (D := D) (ci := 12) (v := .int 3) (ty := tyX12 70) (C := RX12) (T := TX12) (N := 100) hx hb hg inX12 tyX12 tyX12_ok nmX12 hown hK hP hD hS 0 rfl rfl 70 (by decide) (hg _ w1780) (fun _ h9 => h9) rfl (tyX12_ok 70 (by decide)) rfl rfl (Nat.le_of_ble_eq_true rfl) dX12_call_105 (fun H locs hP hD hS => ?_)
            obtain ⟨V94, hV94⟩ : ∃ z, z = up2 V20 0 70 3 := ⟨_, rfl⟩
            have hP : va_P D vwCl (mw ad kk ks.1 V94 L) H := by rw [hV94]; exact hP
            have hD : va_D A (mw ad kk ks.1 V94 L) := by rw [hV94]; exact hD
            have hMV94 : rgd bM V94 := hMV20.put hV94 (i_full _)
            have agV94 : agr [(0, 0), (0, 60), (0, 65), (0, 68), (0, 69), (0, 70), (0, 71), (0, 72), (0, 73), (0, 76), (0, 90), (0, 91), (0, 92), (0, 93), (0, 95), (0, 96), (0, 98)] [59, 61, 62, 63, 64, 66, 67, 74, 75, 77, 78, 79, 80, 94, 97] V V94 := agV20.up hV94 rfl
            refine lv_iconst (v := 0) hx hb dX12_call_108 (by decide) ?_
            have pq95 : (V94 0 65).toInt = ((V 0 65)).toInt := congrArg Int32.toInt ((up2_k hV94 (by decide)).trans ((up2_k hV20 (by decide)).trans ((ajV14 0 65 rfl).trans (up2_k hV6 (by decide)))))
            have pq96 : (V94 0 60).toInt = ((V 0 60)).toInt := congrArg Int32.toInt ((up2_k hV94 (by decide)).trans ((up2_k hV20 (by decide)).trans ((ajV14 0 60 rfl).trans (up2_k hV6 (by decide)))))
            have pq97 : (V94 0 73).toInt = ((V 0 73)).toInt := congrArg Int32.toInt ((up2_k hV94 (by decide)).trans ((up2_k hV20 (by decide)).trans ((ajV14 0 73 rfl).trans (up2_k hV6 (by decide)))))
            have pq98 : (V94 0 76).toInt = 0 := (congrArg Int32.toInt ((up2_k hV94 (by decide)).trans (up2_s hV20))).trans (by decide)
            have pq99 : (V94 0 69).toInt = ((V14 0 69)).toInt := congrArg Int32.toInt ((up2_k hV94 (by decide)).trans (up2_k hV20 (by decide)))
            have pq100 : (V94 0 95).toInt = ((V14 0 95)).toInt := congrArg Int32.toInt ((up2_k hV94 (by decide)).trans (up2_k hV20 (by decide)))
            have fz101 : (V 0 95).toInt = 0 := r0.2.2.2.2
            have r0102 : RT0 V94 := RT0.ag r0 hMV (show agr [(0, 0), (0, 69), (0, 70), (0, 71), (0, 72), (0, 76), (0, 93), (0, 95), (0, 98)] [] V V94 from (agr.up (agr.up (agr.tr (agr.up agr.rf hV6 rfl) ajV14 (by decide) (by decide)) hV20 rfl) hV94 rfl)) ⟨⟨rfl, fun _ => rfl, fun _ => rfl, fun _ => rfl, fun _ => rfl, fun _ => rfl, fun _ => rfl⟩, by decide, by decide, rfl, rfl, fun _ => rfl, fun _ => rfl, fun _ => rfl⟩ (c0k.ag (show agr [(0, 0), (0, 69), (0, 70), (0, 71), (0, 72), (0, 76), (0, 93), (0, 95), (0, 98)] [] V V94 from (agr.up (agr.up (agr.tr (agr.up agr.rf hV6 rfl) ajV14 (by decide) (by decide)) hV20 rfl) hV94 rfl)) rfl) (by omega)
            exact W.iret (v := 0) hx hb hr (fun t ht hW => ⟨⟨0, (V94, L), rfl, ⟨hMV94, agV94, rfl, (show (V94 0 65).toInt ≤ (V94 0 60).toInt from by first | omega | ((try (have i_t81 := Imp.go t81 (by omega))); (try (have i_t42 := Imp.go t42 (by omega))); (try (have i_r0 := Imp.go r0 (by omega))); (try (have i_r0 := Imp.go r0 (by omega))); (try (have i_t42 := Imp.go t42 (by omega))); (try (have i_t81 := Imp.go t81 (by omega))); omega)), (show (V94 0 73).toInt - (V94 0 65).toInt ≤ (V 0 73).toInt - (V 0 65).toInt + 300 from by first | omega | ((try (have i_t81 := Imp.go t81 (by omega))); (try (have i_t42 := Imp.go t42 (by omega))); (try (have i_r0 := Imp.go r0 (by omega))); (try (have i_r0 := Imp.go r0 (by omega))); (try (have i_t42 := Imp.go t42 (by omega))); (try (have i_t81 := Imp.go t81 (by omega))); omega)), (show (V94 0 76).toInt - (V94 0 69).toInt - (V94 0 73).toInt ≤ (V 0 76).toInt - (V 0 69).toInt - (V 0 73).toInt + 3000 from by first | omega | ((try (have i_t81 := Imp.go t81 (by omega))); (try (have i_t42 := Imp.go t42 (by omega))); (try (have i_r0 := Imp.go r0 (by omega))); (try (have i_r0 := Imp.go r0 (by omega))); (try (have i_t42 := Imp.go t42 (by omega))); (try (have i_t81 := Imp.go t81 (by omega))); omega)), r0102⟩, by rw [ht]; exact hP, va_K.moved hW.alike hK, hD⟩, hS.F ht⟩) hS.2.2 dX12_call_109
        · skip
          have f103 : ((V 0 54)).toInt = 0 := b_eq rfl (by decide) c76
          exfalso; first | omega | ((try (have i_t42 := Imp.go t42 (by omega))); (try (have i_r0 := Imp.go r0 (by omega))); (try (have i_r0 := Imp.go r0 (by omega))); (try (have i_t42 := Imp.go t42 (by omega))); omega)
  · skip
    have f104 : 0 ≤ p1.toInt := b_nlt rfl (by decide) c21
    refine lv_iload_n hx hb dX12_call_18 rfl (lv_at hl 2 rfl) ?_
    refine lv_aload_n hx hb dX12_call_19 rfl (lv_at hl 0 rfl) ?_
    refine va_get (D := D) (ci := 12) (v := .int (V20 0 60)) (C := RX12) (T := TX12) (N := 100) hx hb hg inX12 hown hK hP 0 rfl rfl 60 (by decide) (hg _ w1770) (fun _ h9 => h9) rfl dX12_call_20 ?_
    refine g_top (v := (V 0 60)) ((up2_k hV20 (by decide)).trans ((ajV14 0 60 rfl).trans (up2_k hV6 (by decide)))) ?_
    refine lv_icmp_ge (tgt := 57) hx hb dX12_call_23 (by decide) (fun c105 => ?_) (fun c105 => ?_)
    · skip
      have f106 : ((V 0 60)).toInt ≤ p1.toInt := b_le rfl rfl c105
      refine lv_iconst (v := 0) hx hb dX12_call_57 (by decide) ?_
      refine lv_istore (lv' := [(5, .int 0), (0, .ref (ad 0)), (1, .int p0), (2, .int p1), (3, .int p2), (4, .int p3)]) hx hb dX12_call_58 hl (by decide) rfl (fun ls hl => ?_)
      refine lv_aload_n hx hb dX12_call_60 rfl (lv_at hl 1 rfl) ?_
      refine va_get (D := D) (ci := 12) (v := .int (V20 0 54)) (C := RX12) (T := TX12) (N := 100) hx hb hg inX12 hown hK hP 0 rfl rfl 54 (by decide) (hg _ w1764) (fun _ h9 => h9) rfl dX12_call_61 ?_
      refine g_top (v := (V 0 54)) ((up2_k hV20 (by decide)).trans ((ajV14 0 54 rfl).trans (up2_k hV6 (by decide)))) ?_
      have r107 : 0 ≤ ((V 0 54)).toInt ∧ ((V 0 54)).toInt ≤ 1 := hMV 0 54
      refine lv_if_eq (tgt := 80) hx hb dX12_call_64 (by decide) (fun c108 => ?_) (fun c108 => ?_)
      · skip
        have f109 : ((V 0 54)).toInt = 0 := b_eq rfl (by decide) c108
        refine lv_aload_n hx hb dX12_call_80 rfl (lv_at hl 1 rfl) ?_
        refine lv_aload_n hx hb dX12_call_81 rfl (lv_at hl 1 rfl) ?_
        refine va_get (D := D) (ci := 12) (v := .int (V20 0 54)) (C := RX12) (T := TX12) (N := 100) hx hb hg inX12 hown hK hP 0 rfl rfl 54 (by decide) (hg _ w1764) (fun _ h9 => h9) rfl dX12_call_82 ?_
        refine g_top (v := (V 0 54)) ((up2_k hV20 (by decide)).trans ((ajV14 0 54 rfl).trans (up2_k hV6 (by decide)))) ?_
        refine lv_if_ne (tgt := 92) hx hb dX12_call_85 (by decide) (fun c110 => ?_) (fun c110 => ?_)
        · skip
          have f111 : ((V 0 54)).toInt ≠ 0 := b_neq rfl (by decide) c110
          exfalso; first | omega | ((try (have i_r0 := Imp.go r0 (by omega))); omega)
        · skip
          have f112 : ((V 0 54)).toInt = 0 := b_eq rfl (by decide) c110
          refine lv_iconst (v := 4) hx hb dX12_call_88 (by decide) ?_
          refine lv_goto (tgt := 105) hx hb dX12_call_89 (by decide) ?_
          refine va_put (D := D) (ci := 12) (v := .int 4) (ty := tyX12 70) (C := RX12) (T := TX12) (N := 100) hx hb hg inX12 tyX12 tyX12_ok nmX12 hown hK hP hD hS 0 rfl rfl 70 (by decide) (hg _ w1780) (fun _ h9 => h9) rfl (tyX12_ok 70 (by decide)) rfl rfl (Nat.le_of_ble_eq_true rfl) dX12_call_105 (fun H locs hP hD hS => ?_)
          obtain ⟨V113, hV113⟩ : ∃ z, z = up2 V20 0 70 4 := ⟨_, rfl⟩
          have hP : va_P D vwCl (mw ad kk ks.1 V113 L) H := by rw [hV113]; exact hP
          have hD : va_D A (mw ad kk ks.1 V113 L) := by rw [hV113]; exact hD
          have hMV113 : rgd bM V113 := hMV20.put hV113 (i_full _)
          have agV113 : agr [(0, 0), (0, 60), (0, 65), (0, 68), (0, 69), (0, 70), (0, 71), (0, 72), (0, 73), (0, 76), (0, 90), (0, 91), (0, 92), (0, 93), (0, 95), (0, 96), (0, 98)] [59, 61, 62, 63, 64, 66, 67, 74, 75, 77, 78, 79, 80, 94, 97] V V113 := agV20.up hV113 rfl
          refine lv_iconst (v := 0) hx hb dX12_call_108 (by decide) ?_
          have pq114 : (V113 0 65).toInt = ((V 0 65)).toInt := congrArg Int32.toInt ((up2_k hV113 (by decide)).trans ((up2_k hV20 (by decide)).trans ((ajV14 0 65 rfl).trans (up2_k hV6 (by decide)))))
          have pq115 : (V113 0 60).toInt = ((V 0 60)).toInt := congrArg Int32.toInt ((up2_k hV113 (by decide)).trans ((up2_k hV20 (by decide)).trans ((ajV14 0 60 rfl).trans (up2_k hV6 (by decide)))))
          have pq116 : (V113 0 73).toInt = ((V 0 73)).toInt := congrArg Int32.toInt ((up2_k hV113 (by decide)).trans ((up2_k hV20 (by decide)).trans ((ajV14 0 73 rfl).trans (up2_k hV6 (by decide)))))
          have pq117 : (V113 0 76).toInt = 0 := (congrArg Int32.toInt ((up2_k hV113 (by decide)).trans (up2_s hV20))).trans (by decide)
          have pq118 : (V113 0 69).toInt = ((V14 0 69)).toInt := congrArg Int32.toInt ((up2_k hV113 (by decide)).trans (up2_k hV20 (by decide)))
          have pq119 : (V113 0 95).toInt = ((V14 0 95)).toInt := congrArg Int32.toInt ((up2_k hV113 (by decide)).trans (up2_k hV20 (by decide)))
          have fz120 : (V 0 95).toInt = 0 := r0.2.2.2.2
          have r0121 : RT0 V113 := RT0.ag r0 hMV (show agr [(0, 0), (0, 69), (0, 70), (0, 71), (0, 72), (0, 76), (0, 93), (0, 95), (0, 98)] [] V V113 from (agr.up (agr.up (agr.tr (agr.up agr.rf hV6 rfl) ajV14 (by decide) (by decide)) hV20 rfl) hV113 rfl)) ⟨⟨rfl, fun _ => rfl, fun _ => rfl, fun _ => rfl, fun _ => rfl, fun _ => rfl, fun _ => rfl⟩, by decide, by decide, rfl, rfl, fun _ => rfl, fun _ => rfl, fun _ => rfl⟩ (c0k.ag (show agr [(0, 0), (0, 69), (0, 70), (0, 71), (0, 72), (0, 76), (0, 93), (0, 95), (0, 98)] [] V V113 from (agr.up (agr.up (agr.tr (agr.up agr.rf hV6 rfl) ajV14 (by decide) (by decide)) hV20 rfl) hV113 rfl)) rfl) (by omega)
          exact W.iret (v := 0) hx hb hr (fun t ht hW => ⟨⟨0, (V113, L), rfl, ⟨hMV113, agV113, rfl, (show (V113 0 65).toInt ≤ (V113 0 60).toInt from by first | omega | ((try (have i_r0 := Imp.go r0 (by omega))); omega)), (show (V113 0 73).toInt - (V113 0 65).toInt ≤ (V 0 73).toInt - (V 0 65).toInt + 300 from by first | omega | ((try (have i_r0 := Imp.go r0 (by omega))); omega)), (show (V113 0 76).toInt - (V113 0 69).toInt - (V113 0 73).toInt ≤ (V 0 76).toInt - (V 0 69).toInt - (V 0 73).toInt + 3000 from by first | omega | ((try (have i_r0 := Imp.go r0 (by omega))); omega)), r0121⟩, by rw [ht]; exact hP, va_K.moved hW.alike hK, hD⟩, hS.F ht⟩) hS.2.2 dX12_call_109
      · skip
        have f122 : ((V 0 54)).toInt ≠ 0 := b_neq rfl (by decide) c108
        refine lv_aload_n hx hb dX12_call_67 rfl (lv_at hl 1 rfl) ?_
        refine lv_iload_n hx hb dX12_call_68 rfl (lv_at hl 2 rfl) ?_
        refine gA_int (gA_runV (As := [.int p0]) (rest := []) (ci := 12) (q0 := 0) hx hb hml hown hg hP hD hK hS hA hnw hgk (s_isScope l D ks H.size ad kk V20 L p0 hMV20 ) w2227 w2229 w126 w172 w2230 rfl rfl hdV_yX12_isScope ⟨Nat.le_of_ble_eq_true rfl, Nat.le_of_ble_eq_true rfl⟩ rfl hl.1 rfl (Nat.le_of_ble_eq_true rfl) dX12_call_69 ⟨Nat.le_of_ble_eq_true rfl, Nat.le_of_ble_eq_true rfl⟩) hP hD hK hS hA (fun z123 u124 H locs w125 hP hD hK hS => ?_)
        obtain ⟨rgz123, t126⟩ := w125
        have rgz123 : 0 ≤ z123.toInt ∧ z123.toInt ≤ 1 := rgz123
        have t126 : Imp (z123.toInt = 1) (0 ≤ p0.toInt ∧ p0.toInt < (V20 0 55).toInt) := t126
        have pq127 : (V20 0 55).toInt = ((V 0 55)).toInt := congrArg Int32.toInt ((up2_k hV20 (by decide)).trans ((ajV14 0 55 rfl).trans (up2_k hV6 (by decide))))
        have r128 : 1 ≤ ((V 0 55)).toInt ∧ ((V 0 55)).toInt ≤ 40 := hMV 0 55
        refine lv_if_eq (tgt := 80) hx hb dX12_call_72 (by decide) (fun c129 => ?_) (fun c129 => ?_)
        · skip
          have f130 : z123.toInt = 0 := b_eq rfl (by decide) c129
          refine lv_aload_n hx hb dX12_call_80 rfl (lv_at hl 1 rfl) ?_
          refine lv_aload_n hx hb dX12_call_81 rfl (lv_at hl 1 rfl) ?_
          refine va_get (D := D) (ci := 12) (v := .int (V20 0 54)) (C := RX12) (T := TX12) (N := 100) hx hb hg inX12 hown hK hP 0 rfl rfl 54 (by decide) (hg _ w1764) (fun _ h9 => h9) rfl dX12_call_82 ?_
          refine g_top (v := (V 0 54)) ((up2_k hV20 (by decide)).trans ((ajV14 0 54 rfl).trans (up2_k hV6 (by decide)))) ?_
          refine lv_if_ne (tgt := 92) hx hb dX12_call_85 (by decide) (fun c131 => ?_) (fun c131 => ?_)
          · skip
            have f132 : ((V 0 54)).toInt ≠ 0 := b_neq rfl (by decide) c131
            refine lv_aload_n hx hb dX12_call_92 rfl (lv_at hl 1 rfl) ?_
            refine lv_iload_n hx hb dX12_call_93 rfl (lv_at hl 2 rfl) ?_
            refine gA_int (gA_runV (As := [.int p0]) (rest := [.ref (ad 0)]) (ci := 12) (q0 := 0) hx hb hml hown hg hP hD hK hS hA hnw hgk (s_isScope l D ks H.size ad kk V20 L p0 hMV20 ) w2227 w2229 w126 w172 w2230 rfl rfl hdV_yX12_isScope ⟨Nat.le_of_ble_eq_true rfl, Nat.le_of_ble_eq_true rfl⟩ rfl hl.1 rfl (Nat.le_of_ble_eq_true rfl) dX12_call_94 ⟨Nat.le_of_ble_eq_true rfl, Nat.le_of_ble_eq_true rfl⟩) hP hD hK hS hA (fun z133 u134 H locs w135 hP hD hK hS => ?_)
            obtain ⟨rgz133, t136⟩ := w135
            have rgz133 : 0 ≤ z133.toInt ∧ z133.toInt ≤ 1 := rgz133
            have t136 : Imp (z133.toInt = 1) (0 ≤ p0.toInt ∧ p0.toInt < (V20 0 55).toInt) := t136
            refine lv_if_ne (tgt := 104) hx hb dX12_call_97 (by decide) (fun c137 => ?_) (fun c137 => ?_)
            · skip
              have f138 : z133.toInt ≠ 0 := b_neq rfl (by decide) c137
              refine lv_iconst (v := 4) hx hb dX12_call_104 (by decide) ?_
              refine va_put (D := D) (ci := 12) (v := .int 4) (ty := tyX12 70) (C := RX12) (T := TX12) (N := 100) hx hb hg inX12 tyX12 tyX12_ok nmX12 hown hK hP hD hS 0 rfl rfl 70 (by decide) (hg _ w1780) (fun _ h9 => h9) rfl (tyX12_ok 70 (by decide)) rfl rfl (Nat.le_of_ble_eq_true rfl) dX12_call_105 (fun H locs hP hD hS => ?_)
              obtain ⟨V139, hV139⟩ : ∃ z, z = up2 V20 0 70 4 := ⟨_, rfl⟩
              have hP : va_P D vwCl (mw ad kk ks.1 V139 L) H := by rw [hV139]; exact hP
              have hD : va_D A (mw ad kk ks.1 V139 L) := by rw [hV139]; exact hD
              have hMV139 : rgd bM V139 := hMV20.put hV139 (i_full _)
              have agV139 : agr [(0, 0), (0, 60), (0, 65), (0, 68), (0, 69), (0, 70), (0, 71), (0, 72), (0, 73), (0, 76), (0, 90), (0, 91), (0, 92), (0, 93), (0, 95), (0, 96), (0, 98)] [59, 61, 62, 63, 64, 66, 67, 74, 75, 77, 78, 79, 80, 94, 97] V V139 := agV20.up hV139 rfl
              refine lv_iconst (v := 0) hx hb dX12_call_108 (by decide) ?_
              have pq140 : (V139 0 65).toInt = ((V 0 65)).toInt := congrArg Int32.toInt ((up2_k hV139 (by decide)).trans ((up2_k hV20 (by decide)).trans ((ajV14 0 65 rfl).trans (up2_k hV6 (by decide)))))
              have pq141 : (V139 0 60).toInt = ((V 0 60)).toInt := congrArg Int32.toInt ((up2_k hV139 (by decide)).trans ((up2_k hV20 (by decide)).trans ((ajV14 0 60 rfl).trans (up2_k hV6 (by decide)))))
              have pq142 : (V139 0 73).toInt = ((V 0 73)).toInt := congrArg Int32.toInt ((up2_k hV139 (by decide)).trans ((up2_k hV20 (by decide)).trans ((ajV14 0 73 rfl).trans (up2_k hV6 (by decide)))))
              have pq143 : (V139 0 76).toInt = 0 := (congrArg Int32.toInt ((up2_k hV139 (by decide)).trans (up2_s hV20))).trans (by decide)
              have pq144 : (V139 0 69).toInt = ((V14 0 69)).toInt := congrArg Int32.toInt ((up2_k hV139 (by decide)).trans (up2_k hV20 (by decide)))
              have pq145 : (V139 0 95).toInt = ((V14 0 95)).toInt := congrArg Int32.toInt ((up2_k hV139 (by decide)).trans (up2_k hV20 (by decide)))
              have fz146 : (V 0 95).toInt = 0 := r0.2.2.2.2
              have r0147 : RT0 V139 := RT0.ag r0 hMV (show agr [(0, 0), (0, 69), (0, 70), (0, 71), (0, 72), (0, 76), (0, 93), (0, 95), (0, 98)] [] V V139 from (agr.up (agr.up (agr.tr (agr.up agr.rf hV6 rfl) ajV14 (by decide) (by decide)) hV20 rfl) hV139 rfl)) ⟨⟨rfl, fun _ => rfl, fun _ => rfl, fun _ => rfl, fun _ => rfl, fun _ => rfl, fun _ => rfl⟩, by decide, by decide, rfl, rfl, fun _ => rfl, fun _ => rfl, fun _ => rfl⟩ (c0k.ag (show agr [(0, 0), (0, 69), (0, 70), (0, 71), (0, 72), (0, 76), (0, 93), (0, 95), (0, 98)] [] V V139 from (agr.up (agr.up (agr.tr (agr.up agr.rf hV6 rfl) ajV14 (by decide) (by decide)) hV20 rfl) hV139 rfl)) rfl) (by omega)
              exact W.iret (v := 0) hx hb hr (fun t ht hW => ⟨⟨0, (V139, L), rfl, ⟨hMV139, agV139, rfl, (show (V139 0 65).toInt ≤ (V139 0 60).toInt from by first | omega | ((try (have i_t136 := Imp.go t136 (by omega))); (try (have i_t126 := Imp.go t126 (by omega))); (try (have i_r0 := Imp.go r0 (by omega))); (try (have i_r0 := Imp.go r0 (by omega))); (try (have i_t126 := Imp.go t126 (by omega))); (try (have i_t136 := Imp.go t136 (by omega))); omega)), (show (V139 0 73).toInt - (V139 0 65).toInt ≤ (V 0 73).toInt - (V 0 65).toInt + 300 from by first | omega | ((try (have i_t136 := Imp.go t136 (by omega))); (try (have i_t126 := Imp.go t126 (by omega))); (try (have i_r0 := Imp.go r0 (by omega))); (try (have i_r0 := Imp.go r0 (by omega))); (try (have i_t126 := Imp.go t126 (by omega))); (try (have i_t136 := Imp.go t136 (by omega))); omega)), (show (V139 0 76).toInt - (V139 0 69).toInt - (V139 0 73).toInt ≤ (V 0 76).toInt - (V 0 69).toInt - (V 0 73).toInt + 3000 from by first | omega | ((try (have i_t136 := Imp.go t136 (by omega))); (try (have i_t126 := Imp.go t126 (by omega))); (try (have i_r0 := Imp.go r0 (by omega))); (try (have i_r0 := Imp.go r0 (by omega))); (try (have i_t126 := Imp.go t126 (by omega))); (try (have i_t136 := Imp.go t136 (by omega))); omega)), r0147⟩, by rw [ht]; exact hP, va_K.moved hW.alike hK, hD⟩, hS.F ht⟩) hS.2.2 dX12_call_109
            · skip
              have f148 : z133.toInt = 0 := b_eq rfl (by decide) c137
              refine lv_iconst (v := 3) hx hb dX12_call_100 (by decide) ?_
              refine lv_goto (tgt := 105) hx hb dX12_call_101 (by decide) ?_
              refine va_put (D := D) (ci := 12) (v := .int 3) (ty := tyX12 70) (C := RX12) (T := TX12) (N := 100) hx hb hg inX12 tyX12 tyX12_ok nmX12 hown hK hP hD hS 0 rfl rfl 70 (by decide) (hg _ w1780) (fun _ h9 => h9) rfl (tyX12_ok 70 (by decide)) rfl rfl (Nat.le_of_ble_eq_true rfl) dX12_call_105 (fun H locs hP hD hS => ?_)
              obtain ⟨V149, hV149⟩ : ∃ z, z = up2 V20 0 70 3 := ⟨_, rfl⟩
              have hP : va_P D vwCl (mw ad kk ks.1 V149 L) H := by rw [hV149]; exact hP
              have hD : va_D A (mw ad kk ks.1 V149 L) := by rw [hV149]; exact hD
              have hMV149 : rgd bM V149 := hMV20.put hV149 (i_full _)
              have agV149 : agr [(0, 0), (0, 60), (0, 65), (0, 68), (0, 69), (0, 70), (0, 71), (0, 72), (0, 73), (0, 76), (0, 90), (0, 91), (0, 92), (0, 93), (0, 95), (0, 96), (0, 98)] [59, 61, 62, 63, 64, 66, 67, 74, 75, 77, 78, 79, 80, 94, 97] V V149 := agV20.up hV149 rfl
              refine lv_iconst (v := 0) hx hb dX12_call_108 (by decide) ?_
              have pq150 : (V149 0 65).toInt = ((V 0 65)).toInt := congrArg Int32.toInt ((up2_k hV149 (by decide)).trans ((up2_k hV20 (by decide)).trans ((ajV14 0 65 rfl).trans (up2_k hV6 (by decide)))))
              have pq151 : (V149 0 60).toInt = ((V 0 60)).toInt := congrArg Int32.toInt ((up2_k hV149 (by decide)).trans ((up2_k hV20 (by decide)).trans ((ajV14 0 60 rfl).trans (up2_k hV6 (by decide)))))
              have pq152 : (V149 0 73).toInt = ((V 0 73)).toInt := congrArg Int32.toInt ((up2_k hV149 (by decide)).trans ((up2_k hV20 (by decide)).trans ((ajV14 0 73 rfl).trans (up2_k hV6 (by decide)))))
              have pq153 : (V149 0 76).toInt = 0 := (congrArg Int32.toInt ((up2_k hV149 (by decide)).trans (up2_s hV20))).trans (by decide)
              have pq154 : (V149 0 69).toInt = ((V14 0 69)).toInt := congrArg Int32.toInt ((up2_k hV149 (by decide)).trans (up2_k hV20 (by decide)))
              have pq155 : (V149 0 95).toInt = ((V14 0 95)).toInt := congrArg Int32.toInt ((up2_k hV149 (by decide)).trans (up2_k hV20 (by decide)))
              have fz156 : (V 0 95).toInt = 0 := r0.2.2.2.2
              have r0157 : RT0 V149 := RT0.ag r0 hMV (show agr [(0, 0), (0, 69), (0, 70), (0, 71), (0, 72), (0, 76), (0, 93), (0, 95), (0, 98)] [] V V149 from (agr.up (agr.up (agr.tr (agr.up agr.rf hV6 rfl) ajV14 (by decide) (by decide)) hV20 rfl) hV149 rfl)) ⟨⟨rfl, fun _ => rfl, fun _ => rfl, fun _ => rfl, fun _ => rfl, fun _ => rfl, fun _ => rfl⟩, by decide, by decide, rfl, rfl, fun _ => rfl, fun _ => rfl, fun _ => rfl⟩ (c0k.ag (show agr [(0, 0), (0, 69), (0, 70), (0, 71), (0, 72), (0, 76), (0, 93), (0, 95), (0, 98)] [] V V149 from (agr.up (agr.up (agr.tr (agr.up agr.rf hV6 rfl) ajV14 (by decide) (by decide)) hV20 rfl) hV149 rfl)) rfl) (by omega)
              exact W.iret (v := 0) hx hb hr (fun t ht hW => ⟨⟨0, (V149, L), rfl, ⟨hMV149, agV149, rfl, (show (V149 0 65).toInt ≤ (V149 0 60).toInt from by first | omega | ((try (have i_t136 := Imp.go t136 (by omega))); (try (have i_t126 := Imp.go t126 (by omega))); (try (have i_r0 := Imp.go r0 (by omega))); (try (have i_r0 := Imp.go r0 (by omega))); (try (have i_t126 := Imp.go t126 (by omega))); (try (have i_t136 := Imp.go t136 (by omega))); omega)), (show (V149 0 73).toInt - (V149 0 65).toInt ≤ (V 0 73).toInt - (V 0 65).toInt + 300 from by first | omega | ((try (have i_t136 := Imp.go t136 (by omega))); (try (have i_t126 := Imp.go t126 (by omega))); (try (have i_r0 := Imp.go r0 (by omega))); (try (have i_r0 := Imp.go r0 (by omega))); (try (have i_t126 := Imp.go t126 (by omega))); (try (have i_t136 := Imp.go t136 (by omega))); omega)), (show (V149 0 76).toInt - (V149 0 69).toInt - (V149 0 73).toInt ≤ (V 0 76).toInt - (V 0 69).toInt - (V 0 73).toInt + 3000 from by first | omega | ((try (have i_t136 := Imp.go t136 (by omega))); (try (have i_t126 := Imp.go t126 (by omega))); (try (have i_r0 := Imp.go r0 (by omega))); (try (have i_r0 := Imp.go r0 (by omega))); (try (have i_t126 := Imp.go t126 (by omega))); (try (have i_t136 := Imp.go t136 (by omega))); omega)), r0157⟩, by rw [ht]; exact hP, va_K.moved hW.alike hK, hD⟩, hS.F ht⟩) hS.2.2 dX12_call_109
          · skip
            have f158 : ((V 0 54)).toInt = 0 := b_eq rfl (by decide) c131
            exfalso; first | omega | ((try (have i_t126 := Imp.go t126 (by omega))); (try (have i_r0 := Imp.go r0 (by omega))); (try (have i_r0 := Imp.go r0 (by omega))); (try (have i_t126 := Imp.go t126 (by omega))); omega)
        · skip
          have f159 : z123.toInt ≠ 0 := b_neq rfl (by decide) c129
          refine lv_iload hx hb dX12_call_75 (lv_at hl 0 rfl) ?_
          refine lv_if_ne (tgt := 110) hx hb dX12_call_77 (by decide) (fun q => absurd rfl q) (fun _ => ?_)
          refine lv_aload_n hx hb dX12_call_80 rfl (lv_at hl 1 rfl) ?_
          refine lv_aload_n hx hb dX12_call_81 rfl (lv_at hl 1 rfl) ?_
          refine va_get (D := D) (ci := 12) (v := .int (V20 0 54)) (C := RX12) (T := TX12) (N := 100) hx hb hg inX12 hown hK hP 0 rfl rfl 54 (by decide) (hg _ w1764) (fun _ h9 => h9) rfl dX12_call_82 ?_
          refine g_top (v := (V 0 54)) ((up2_k hV20 (by decide)).trans ((ajV14 0 54 rfl).trans (up2_k hV6 (by decide)))) ?_
          refine lv_if_ne (tgt := 92) hx hb dX12_call_85 (by decide) (fun c160 => ?_) (fun c160 => ?_)
          · skip
            have f161 : ((V 0 54)).toInt ≠ 0 := b_neq rfl (by decide) c160
            refine lv_aload_n hx hb dX12_call_92 rfl (lv_at hl 1 rfl) ?_
            refine lv_iload_n hx hb dX12_call_93 rfl (lv_at hl 2 rfl) ?_
            refine gA_int (gA_runV (As := [.int p0]) (rest := [.ref (ad 0)]) (ci := 12) (q0 := 0) hx hb hml hown hg hP hD hK hS hA hnw hgk (s_isScope l D ks H.size ad kk V20 L p0 hMV20 ) w2227 w2229 w126 w172 w2230 rfl rfl hdV_yX12_isScope ⟨Nat.le_of_ble_eq_true rfl, Nat.le_of_ble_eq_true rfl⟩ rfl hl.1 rfl (Nat.le_of_ble_eq_true rfl) dX12_call_94 ⟨Nat.le_of_ble_eq_true rfl, Nat.le_of_ble_eq_true rfl⟩) hP hD hK hS hA (fun z162 u163 H locs w164 hP hD hK hS => ?_)
            obtain ⟨rgz162, t165⟩ := w164
            have rgz162 : 0 ≤ z162.toInt ∧ z162.toInt ≤ 1 := rgz162
            have t165 : Imp (z162.toInt = 1) (0 ≤ p0.toInt ∧ p0.toInt < (V20 0 55).toInt) := t165
            refine lv_if_ne (tgt := 104) hx hb dX12_call_97 (by decide) (fun c166 => ?_) (fun c166 => ?_)
            · skip
              have f167 : z162.toInt ≠ 0 := b_neq rfl (by decide) c166
              refine lv_iconst (v := 4) hx hb dX12_call_104 (by decide) ?_
              refine va_put (D := D) (ci := 12) (v := .int 4) (ty := tyX12 70) (C := RX12) (T := TX12) (N := 100) hx hb hg inX12 tyX12 tyX12_ok nmX12 hown hK hP hD hS 0 rfl rfl 70 (by decide) (hg _ w1780) (fun _ h9 => h9) rfl (tyX12_ok 70 (by decide)) rfl rfl (Nat.le_of_ble_eq_true rfl) dX12_call_105 (fun H locs hP hD hS => ?_)
              obtain ⟨V168, hV168⟩ : ∃ z, z = up2 V20 0 70 4 := ⟨_, rfl⟩
              have hP : va_P D vwCl (mw ad kk ks.1 V168 L) H := by rw [hV168]; exact hP
              have hD : va_D A (mw ad kk ks.1 V168 L) := by rw [hV168]; exact hD
              have hMV168 : rgd bM V168 := hMV20.put hV168 (i_full _)
              have agV168 : agr [(0, 0), (0, 60), (0, 65), (0, 68), (0, 69), (0, 70), (0, 71), (0, 72), (0, 73), (0, 76), (0, 90), (0, 91), (0, 92), (0, 93), (0, 95), (0, 96), (0, 98)] [59, 61, 62, 63, 64, 66, 67, 74, 75, 77, 78, 79, 80, 94, 97] V V168 := agV20.up hV168 rfl
              refine lv_iconst (v := 0) hx hb dX12_call_108 (by decide) ?_
              have pq169 : (V168 0 65).toInt = ((V 0 65)).toInt := congrArg Int32.toInt ((up2_k hV168 (by decide)).trans ((up2_k hV20 (by decide)).trans ((ajV14 0 65 rfl).trans (up2_k hV6 (by decide)))))
              have pq170 : (V168 0 60).toInt = ((V 0 60)).toInt := congrArg Int32.toInt ((up2_k hV168 (by decide)).trans ((up2_k hV20 (by decide)).trans ((ajV14 0 60 rfl).trans (up2_k hV6 (by decide)))))
              have pq171 : (V168 0 73).toInt = ((V 0 73)).toInt := congrArg Int32.toInt ((up2_k hV168 (by decide)).trans ((up2_k hV20 (by decide)).trans ((ajV14 0 73 rfl).trans (up2_k hV6 (by decide)))))
              have pq172 : (V168 0 76).toInt = 0 := (congrArg Int32.toInt ((up2_k hV168 (by decide)).trans (up2_s hV20))).trans (by decide)
              have pq173 : (V168 0 69).toInt = ((V14 0 69)).toInt := congrArg Int32.toInt ((up2_k hV168 (by decide)).trans (up2_k hV20 (by decide)))
              have pq174 : (V168 0 95).toInt = ((V14 0 95)).toInt := congrArg Int32.toInt ((up2_k hV168 (by decide)).trans (up2_k hV20 (by decide)))
              have fz175 : (V 0 95).toInt = 0 := r0.2.2.2.2
              have r0176 : RT0 V168 := RT0.ag r0 hMV (show agr [(0, 0), (0, 69), (0, 70), (0, 71), (0, 72), (0, 76), (0, 93), (0, 95), (0, 98)] [] V V168 from (agr.up (agr.up (agr.tr (agr.up agr.rf hV6 rfl) ajV14 (by decide) (by decide)) hV20 rfl) hV168 rfl)) ⟨⟨rfl, fun _ => rfl, fun _ => rfl, fun _ => rfl, fun _ => rfl, fun _ => rfl, fun _ => rfl⟩, by decide, by decide, rfl, rfl, fun _ => rfl, fun _ => rfl, fun _ => rfl⟩ (c0k.ag (show agr [(0, 0), (0, 69), (0, 70), (0, 71), (0, 72), (0, 76), (0, 93), (0, 95), (0, 98)] [] V V168 from (agr.up (agr.up (agr.tr (agr.up agr.rf hV6 rfl) ajV14 (by decide) (by decide)) hV20 rfl) hV168 rfl)) rfl) (by omega)
              exact W.iret (v := 0) hx hb hr (fun t ht hW => ⟨⟨0, (V168, L), rfl, ⟨hMV168, agV168, rfl, (show (V168 0 65).toInt ≤ (V168 0 60).toInt from by first | omega | ((try (have i_t165 := Imp.go t165 (by omega))); (try (have i_t126 := Imp.go t126 (by omega))); (try (have i_r0 := Imp.go r0 (by omega))); (try (have i_r0 := Imp.go r0 (by omega))); (try (have i_t126 := Imp.go t126 (by omega))); (try (have i_t165 := Imp.go t165 (by omega))); omega)), (show (V168 0 73).toInt - (V168 0 65).toInt ≤ (V 0 73).toInt - (V 0 65).toInt + 300 from by first | omega | ((try (have i_t165 := Imp.go t165 (by omega))); (try (have i_t126 := Imp.go t126 (by omega))); (try (have i_r0 := Imp.go r0 (by omega))); (try (have i_r0 := Imp.go r0 (by omega))); (try (have i_t126 := Imp.go t126 (by omega))); (try (have i_t165 := Imp.go t165 (by omega))); omega)), (show (V168 0 76).toInt - (V168 0 69).toInt - (V168 0 73).toInt ≤ (V 0 76).toInt - (V 0 69).toInt - (V 0 73).toInt + 3000 from by first | omega | ((try (have i_t165 := Imp.go t165 (by omega))); (try (have i_t126 := Imp.go t126 (by omega))); (try (have i_r0 := Imp.go r0 (by omega))); (try (have i_r0 := Imp.go r0 (by omega))); (try (have i_t126 := Imp.go t126 (by omega))); (try (have i_t165 := Imp.go t165 (by omega))); omega)), r0176⟩, by rw [ht]; exact hP, va_K.moved hW.alike hK, hD⟩, hS.F ht⟩) hS.2.2 dX12_call_109
            · skip
              have f177 : z162.toInt = 0 := b_eq rfl (by decide) c166
              refine lv_iconst (v := 3) hx hb dX12_call_100 (by decide) ?_
              refine lv_goto (tgt := 105) hx hb dX12_call_101 (by decide) ?_
              refine va_put (D := D) (ci := 12) (v := .int 3) (ty := tyX12 70) (C := RX12) (T := TX12) (N := 100) hx hb hg inX12 tyX12 tyX12_ok nmX12 hown hK hP hD hS 0 rfl rfl 70 (by decide) (hg _ w1780) (fun _ h9 => h9) rfl (tyX12_ok 70 (by decide)) rfl rfl (Nat.le_of_ble_eq_true rfl) dX12_call_105 (fun H locs hP hD hS => ?_)
              obtain ⟨V178, hV178⟩ : ∃ z, z = up2 V20 0 70 3 := ⟨_, rfl⟩
              have hP : va_P D vwCl (mw ad kk ks.1 V178 L) H := by rw [hV178]; exact hP
              have hD : va_D A (mw ad kk ks.1 V178 L) := by rw [hV178]; exact hD
              have hMV178 : rgd bM V178 := hMV20.put hV178 (i_full _)
              have agV178 : agr [(0, 0), (0, 60), (0, 65), (0, 68), (0, 69), (0, 70), (0, 71), (0, 72), (0, 73), (0, 76), (0, 90), (0, 91), (0, 92), (0, 93), (0, 95), (0, 96), (0, 98)] [59, 61, 62, 63, 64, 66, 67, 74, 75, 77, 78, 79, 80, 94, 97] V V178 := agV20.up hV178 rfl
              refine lv_iconst (v := 0) hx hb dX12_call_108 (by decide) ?_
              have pq179 : (V178 0 65).toInt = ((V 0 65)).toInt := congrArg Int32.toInt ((up2_k hV178 (by decide)).trans ((up2_k hV20 (by decide)).trans ((ajV14 0 65 rfl).trans (up2_k hV6 (by decide)))))
              have pq180 : (V178 0 60).toInt = ((V 0 60)).toInt := congrArg Int32.toInt ((up2_k hV178 (by decide)).trans ((up2_k hV20 (by decide)).trans ((ajV14 0 60 rfl).trans (up2_k hV6 (by decide)))))
              have pq181 : (V178 0 73).toInt = ((V 0 73)).toInt := congrArg Int32.toInt ((up2_k hV178 (by decide)).trans ((up2_k hV20 (by decide)).trans ((ajV14 0 73 rfl).trans (up2_k hV6 (by decide)))))
              have pq182 : (V178 0 76).toInt = 0 := (congrArg Int32.toInt ((up2_k hV178 (by decide)).trans (up2_s hV20))).trans (by decide)
              have pq183 : (V178 0 69).toInt = ((V14 0 69)).toInt := congrArg Int32.toInt ((up2_k hV178 (by decide)).trans (up2_k hV20 (by decide)))
              have pq184 : (V178 0 95).toInt = ((V14 0 95)).toInt := congrArg Int32.toInt ((up2_k hV178 (by decide)).trans (up2_k hV20 (by decide)))
              have fz185 : (V 0 95).toInt = 0 := r0.2.2.2.2
              have r0186 : RT0 V178 := RT0.ag r0 hMV (show agr [(0, 0), (0, 69), (0, 70), (0, 71), (0, 72), (0, 76), (0, 93), (0, 95), (0, 98)] [] V V178 from (agr.up (agr.up (agr.tr (agr.up agr.rf hV6 rfl) ajV14 (by decide) (by decide)) hV20 rfl) hV178 rfl)) ⟨⟨rfl, fun _ => rfl, fun _ => rfl, fun _ => rfl, fun _ => rfl, fun _ => rfl, fun _ => rfl⟩, by decide, by decide, rfl, rfl, fun _ => rfl, fun _ => rfl, fun _ => rfl⟩ (c0k.ag (show agr [(0, 0), (0, 69), (0, 70), (0, 71), (0, 72), (0, 76), (0, 93), (0, 95), (0, 98)] [] V V178 from (agr.up (agr.up (agr.tr (agr.up agr.rf hV6 rfl) ajV14 (by decide) (by decide)) hV20 rfl) hV178 rfl)) rfl) (by omega)
              exact W.iret (v := 0) hx hb hr (fun t ht hW => ⟨⟨0, (V178, L), rfl, ⟨hMV178, agV178, rfl, (show (V178 0 65).toInt ≤ (V178 0 60).toInt from by first | omega | ((try (have i_t165 := Imp.go t165 (by omega))); (try (have i_t126 := Imp.go t126 (by omega))); (try (have i_r0 := Imp.go r0 (by omega))); (try (have i_r0 := Imp.go r0 (by omega))); (try (have i_t126 := Imp.go t126 (by omega))); (try (have i_t165 := Imp.go t165 (by omega))); omega)), (show (V178 0 73).toInt - (V178 0 65).toInt ≤ (V 0 73).toInt - (V 0 65).toInt + 300 from by first | omega | ((try (have i_t165 := Imp.go t165 (by omega))); (try (have i_t126 := Imp.go t126 (by omega))); (try (have i_r0 := Imp.go r0 (by omega))); (try (have i_r0 := Imp.go r0 (by omega))); (try (have i_t126 := Imp.go t126 (by omega))); (try (have i_t165 := Imp.go t165 (by omega))); omega)), (show (V178 0 76).toInt - (V178 0 69).toInt - (V178 0 73).toInt ≤ (V 0 76).toInt - (V 0 69).toInt - (V 0 73).toInt + 3000 from by first | omega | ((try (have i_t165 := Imp.go t165 (by omega))); (try (have i_t126 := Imp.go t126 (by omega))); (try (have i_r0 := Imp.go r0 (by omega))); (try (have i_r0 := Imp.go r0 (by omega))); (try (have i_t126 := Imp.go t126 (by omega))); (try (have i_t165 := Imp.go t165 (by omega))); omega)), r0186⟩, by rw [ht]; exact hP, va_K.moved hW.alike hK, hD⟩, hS.F ht⟩) hS.2.2 dX12_call_109
          · skip
            have f187 : ((V 0 54)).toInt = 0 := b_eq rfl (by decide) c160
            exfalso; first | omega | ((try (have i_t126 := Imp.go t126 (by omega))); (try (have i_r0 := Imp.go r0 (by omega))); (try (have i_r0 := Imp.go r0 (by omega))); (try (have i_t126 := Imp.go t126 (by omega))); omega)
    · skip
      have f188 : p1.toInt < ((V 0 60)).toInt := b_nle rfl rfl c105
      refine lv_aload_n hx hb dX12_call_26 rfl (lv_at hl 0 rfl) ?_
      refine va_get (D := D) (ci := 12) (v := .ref (ad 63)) (C := RX12) (T := TX12) (N := 100) hx hb hg inX12 hown hK hP 0 rfl rfl 63 (by decide) (hg _ w1773) (fun _ h9 => h9) rfl dX12_call_27 ?_
      refine lv_iload_n hx hb dX12_call_30 rfl (lv_at hl 2 rfl) ?_
      refine va_iald (D := D) (i := p1) hx hb hK hP 48 47 rfl rfl (i_in (a := p1.toInt) rfl (by first | omega | ((try (have i_r0 := Imp.go r0 (by omega))); omega))) dX12_call_31 ?_
      refine g_top (v := (V 63 (Int32.toNatClampNeg p1))) ((up2_o hV20 (by decide)).trans ((ajV14 63 (Int32.toNatClampNeg p1) rfl).trans (up2_o hV6 (by decide)))) ?_
      have r189 : 0 ≤ ((V 63 (Int32.toNatClampNeg p1))).toInt ∧ ((V 63 (Int32.toNatClampNeg p1))).toInt ≤ 2 := hMV 63 (Int32.toNatClampNeg p1)
      refine lv_iconst (v := 1) hx hb dX12_call_32 (by decide) ?_
      refine lv_icmp_ne (tgt := 57) hx hb dX12_call_33 (by decide) (fun c190 => ?_) (fun c190 => ?_)
      · skip
        have f191 : ((V 63 (Int32.toNatClampNeg p1))).toInt ≠ 1 := b_neq rfl (by decide) c190
        refine lv_iconst (v := 0) hx hb dX12_call_57 (by decide) ?_
        refine lv_istore (lv' := [(5, .int 0), (0, .ref (ad 0)), (1, .int p0), (2, .int p1), (3, .int p2), (4, .int p3)]) hx hb dX12_call_58 hl (by decide) rfl (fun ls hl => ?_)
        refine lv_aload_n hx hb dX12_call_60 rfl (lv_at hl 1 rfl) ?_
        refine va_get (D := D) (ci := 12) (v := .int (V20 0 54)) (C := RX12) (T := TX12) (N := 100) hx hb hg inX12 hown hK hP 0 rfl rfl 54 (by decide) (hg _ w1764) (fun _ h9 => h9) rfl dX12_call_61 ?_
        refine g_top (v := (V 0 54)) ((up2_k hV20 (by decide)).trans ((ajV14 0 54 rfl).trans (up2_k hV6 (by decide)))) ?_
        have r192 : 0 ≤ ((V 0 54)).toInt ∧ ((V 0 54)).toInt ≤ 1 := hMV 0 54
        refine lv_if_eq (tgt := 80) hx hb dX12_call_64 (by decide) (fun c193 => ?_) (fun c193 => ?_)
        · skip
          have f194 : ((V 0 54)).toInt = 0 := b_eq rfl (by decide) c193
          refine lv_aload_n hx hb dX12_call_80 rfl (lv_at hl 1 rfl) ?_
          refine lv_aload_n hx hb dX12_call_81 rfl (lv_at hl 1 rfl) ?_
          refine va_get (D := D) (ci := 12) (v := .int (V20 0 54)) (C := RX12) (T := TX12) (N := 100) hx hb hg inX12 hown hK hP 0 rfl rfl 54 (by decide) (hg _ w1764) (fun _ h9 => h9) rfl dX12_call_82 ?_
          refine g_top (v := (V 0 54)) ((up2_k hV20 (by decide)).trans ((ajV14 0 54 rfl).trans (up2_k hV6 (by decide)))) ?_
          refine lv_if_ne (tgt := 92) hx hb dX12_call_85 (by decide) (fun c195 => ?_) (fun c195 => ?_)
          · skip
            have f196 : ((V 0 54)).toInt ≠ 0 := b_neq rfl (by decide) c195
            exfalso; first | omega | ((try (have i_r0 := Imp.go r0 (by omega))); omega)
          · skip
            have f197 : ((V 0 54)).toInt = 0 := b_eq rfl (by decide) c195
            refine lv_iconst (v := 4) hx hb dX12_call_88 (by decide) ?_
            refine lv_goto (tgt := 105) hx hb dX12_call_89 (by decide) ?_
            refine va_put (D := D) (ci := 12) (v := .int 4) (ty := tyX12 70) (C := RX12) (T := TX12) (N := 100) hx hb hg inX12 tyX12 tyX12_ok nmX12 hown hK hP hD hS 0 rfl rfl 70 (by decide) (hg _ w1780) (fun _ h9 => h9) rfl (tyX12_ok 70 (by decide)) rfl rfl (Nat.le_of_ble_eq_true rfl) dX12_call_105 (fun H locs hP hD hS => ?_)
            obtain ⟨V198, hV198⟩ : ∃ z, z = up2 V20 0 70 4 := ⟨_, rfl⟩
            have hP : va_P D vwCl (mw ad kk ks.1 V198 L) H := by rw [hV198]; exact hP
            have hD : va_D A (mw ad kk ks.1 V198 L) := by rw [hV198]; exact hD
            have hMV198 : rgd bM V198 := hMV20.put hV198 (i_full _)
            have agV198 : agr [(0, 0), (0, 60), (0, 65), (0, 68), (0, 69), (0, 70), (0, 71), (0, 72), (0, 73), (0, 76), (0, 90), (0, 91), (0, 92), (0, 93), (0, 95), (0, 96), (0, 98)] [59, 61, 62, 63, 64, 66, 67, 74, 75, 77, 78, 79, 80, 94, 97] V V198 := agV20.up hV198 rfl
            refine lv_iconst (v := 0) hx hb dX12_call_108 (by decide) ?_
            have pq199 : (V198 0 65).toInt = ((V 0 65)).toInt := congrArg Int32.toInt ((up2_k hV198 (by decide)).trans ((up2_k hV20 (by decide)).trans ((ajV14 0 65 rfl).trans (up2_k hV6 (by decide)))))
            have pq200 : (V198 0 60).toInt = ((V 0 60)).toInt := congrArg Int32.toInt ((up2_k hV198 (by decide)).trans ((up2_k hV20 (by decide)).trans ((ajV14 0 60 rfl).trans (up2_k hV6 (by decide)))))
            have pq201 : (V198 0 73).toInt = ((V 0 73)).toInt := congrArg Int32.toInt ((up2_k hV198 (by decide)).trans ((up2_k hV20 (by decide)).trans ((ajV14 0 73 rfl).trans (up2_k hV6 (by decide)))))
            have pq202 : (V198 0 76).toInt = 0 := (congrArg Int32.toInt ((up2_k hV198 (by decide)).trans (up2_s hV20))).trans (by decide)
            have pq203 : (V198 0 69).toInt = ((V14 0 69)).toInt := congrArg Int32.toInt ((up2_k hV198 (by decide)).trans (up2_k hV20 (by decide)))
            have pq204 : (V198 0 95).toInt = ((V14 0 95)).toInt := congrArg Int32.toInt ((up2_k hV198 (by decide)).trans (up2_k hV20 (by decide)))
            have fz205 : (V 0 95).toInt = 0 := r0.2.2.2.2
            have r0206 : RT0 V198 := RT0.ag r0 hMV (show agr [(0, 0), (0, 69), (0, 70), (0, 71), (0, 72), (0, 76), (0, 93), (0, 95), (0, 98)] [] V V198 from (agr.up (agr.up (agr.tr (agr.up agr.rf hV6 rfl) ajV14 (by decide) (by decide)) hV20 rfl) hV198 rfl)) ⟨⟨rfl, fun _ => rfl, fun _ => rfl, fun _ => rfl, fun _ => rfl, fun _ => rfl, fun _ => rfl⟩, by decide, by decide, rfl, rfl, fun _ => rfl, fun _ => rfl, fun _ => rfl⟩ (c0k.ag (show agr [(0, 0), (0, 69), (0, 70), (0, 71), (0, 72), (0, 76), (0, 93), (0, 95), (0, 98)] [] V V198 from (agr.up (agr.up (agr.tr (agr.up agr.rf hV6 rfl) ajV14 (by decide) (by decide)) hV20 rfl) hV198 rfl)) rfl) (by omega)
            exact W.iret (v := 0) hx hb hr (fun t ht hW => ⟨⟨0, (V198, L), rfl, ⟨hMV198, agV198, rfl, (show (V198 0 65).toInt ≤ (V198 0 60).toInt from by first | omega | ((try (have i_r0 := Imp.go r0 (by omega))); omega)), (show (V198 0 73).toInt - (V198 0 65).toInt ≤ (V 0 73).toInt - (V 0 65).toInt + 300 from by first | omega | ((try (have i_r0 := Imp.go r0 (by omega))); omega)), (show (V198 0 76).toInt - (V198 0 69).toInt - (V198 0 73).toInt ≤ (V 0 76).toInt - (V 0 69).toInt - (V 0 73).toInt + 3000 from by first | omega | ((try (have i_r0 := Imp.go r0 (by omega))); omega)), r0206⟩, by rw [ht]; exact hP, va_K.moved hW.alike hK, hD⟩, hS.F ht⟩) hS.2.2 dX12_call_109
        · skip
          have f207 : ((V 0 54)).toInt ≠ 0 := b_neq rfl (by decide) c193
          refine lv_aload_n hx hb dX12_call_67 rfl (lv_at hl 1 rfl) ?_
          refine lv_iload_n hx hb dX12_call_68 rfl (lv_at hl 2 rfl) ?_
          refine gA_int (gA_runV (As := [.int p0]) (rest := []) (ci := 12) (q0 := 0) hx hb hml hown hg hP hD hK hS hA hnw hgk (s_isScope l D ks H.size ad kk V20 L p0 hMV20 ) w2227 w2229 w126 w172 w2230 rfl rfl hdV_yX12_isScope ⟨Nat.le_of_ble_eq_true rfl, Nat.le_of_ble_eq_true rfl⟩ rfl hl.1 rfl (Nat.le_of_ble_eq_true rfl) dX12_call_69 ⟨Nat.le_of_ble_eq_true rfl, Nat.le_of_ble_eq_true rfl⟩) hP hD hK hS hA (fun z208 u209 H locs w210 hP hD hK hS => ?_)
          obtain ⟨rgz208, t211⟩ := w210
          have rgz208 : 0 ≤ z208.toInt ∧ z208.toInt ≤ 1 := rgz208
          have t211 : Imp (z208.toInt = 1) (0 ≤ p0.toInt ∧ p0.toInt < (V20 0 55).toInt) := t211
          have pq212 : (V20 0 55).toInt = ((V 0 55)).toInt := congrArg Int32.toInt ((up2_k hV20 (by decide)).trans ((ajV14 0 55 rfl).trans (up2_k hV6 (by decide))))
          have r213 : 1 ≤ ((V 0 55)).toInt ∧ ((V 0 55)).toInt ≤ 40 := hMV 0 55
          refine lv_if_eq (tgt := 80) hx hb dX12_call_72 (by decide) (fun c214 => ?_) (fun c214 => ?_)
          · skip
            have f215 : z208.toInt = 0 := b_eq rfl (by decide) c214
            refine lv_aload_n hx hb dX12_call_80 rfl (lv_at hl 1 rfl) ?_
            refine lv_aload_n hx hb dX12_call_81 rfl (lv_at hl 1 rfl) ?_
            refine va_get (D := D) (ci := 12) (v := .int (V20 0 54)) (C := RX12) (T := TX12) (N := 100) hx hb hg inX12 hown hK hP 0 rfl rfl 54 (by decide) (hg _ w1764) (fun _ h9 => h9) rfl dX12_call_82 ?_
            refine g_top (v := (V 0 54)) ((up2_k hV20 (by decide)).trans ((ajV14 0 54 rfl).trans (up2_k hV6 (by decide)))) ?_
            refine lv_if_ne (tgt := 92) hx hb dX12_call_85 (by decide) (fun c216 => ?_) (fun c216 => ?_)
            · skip
              have f217 : ((V 0 54)).toInt ≠ 0 := b_neq rfl (by decide) c216
              refine lv_aload_n hx hb dX12_call_92 rfl (lv_at hl 1 rfl) ?_
              refine lv_iload_n hx hb dX12_call_93 rfl (lv_at hl 2 rfl) ?_
              refine gA_int (gA_runV (As := [.int p0]) (rest := [.ref (ad 0)]) (ci := 12) (q0 := 0) hx hb hml hown hg hP hD hK hS hA hnw hgk (s_isScope l D ks H.size ad kk V20 L p0 hMV20 ) w2227 w2229 w126 w172 w2230 rfl rfl hdV_yX12_isScope ⟨Nat.le_of_ble_eq_true rfl, Nat.le_of_ble_eq_true rfl⟩ rfl hl.1 rfl (Nat.le_of_ble_eq_true rfl) dX12_call_94 ⟨Nat.le_of_ble_eq_true rfl, Nat.le_of_ble_eq_true rfl⟩) hP hD hK hS hA (fun z218 u219 H locs w220 hP hD hK hS => ?_)
              obtain ⟨rgz218, t221⟩ := w220
              have rgz218 : 0 ≤ z218.toInt ∧ z218.toInt ≤ 1 := rgz218
              have t221 : Imp (z218.toInt = 1) (0 ≤ p0.toInt ∧ p0.toInt < (V20 0 55).toInt) := t221
              refine lv_if_ne (tgt := 104) hx hb dX12_call_97 (by decide) (fun c222 => ?_) (fun c222 => ?_)
              · skip
                have f223 : z218.toInt ≠ 0 := b_neq rfl (by decide) c222
                refine lv_iconst (v := 4) hx hb dX12_call_104 (by decide) ?_
                refine va_put (D := D) (ci := 12) (v := .int 4) (ty := tyX12 70) (C := RX12) (T := TX12) (N := 100) hx hb hg inX12 tyX12 tyX12_ok nmX12 hown hK hP hD hS 0 rfl rfl 70 (by decide) (hg _ w1780) (fun _ h9 => h9) rfl (tyX12_ok 70 (by decide)) rfl rfl (Nat.le_of_ble_eq_true rfl) dX12_call_105 (fun H locs hP hD hS => ?_)
                obtain ⟨V224, hV224⟩ : ∃ z, z = up2 V20 0 70 4 := ⟨_, rfl⟩
                have hP : va_P D vwCl (mw ad kk ks.1 V224 L) H := by rw [hV224]; exact hP
                have hD : va_D A (mw ad kk ks.1 V224 L) := by rw [hV224]; exact hD
                have hMV224 : rgd bM V224 := hMV20.put hV224 (i_full _)
                have agV224 : agr [(0, 0), (0, 60), (0, 65), (0, 68), (0, 69), (0, 70), (0, 71), (0, 72), (0, 73), (0, 76), (0, 90), (0, 91), (0, 92), (0, 93), (0, 95), (0, 96), (0, 98)] [59, 61, 62, 63, 64, 66, 67, 74, 75, 77, 78, 79, 80, 94, 97] V V224 := agV20.up hV224 rfl
                refine lv_iconst (v := 0) hx hb dX12_call_108 (by decide) ?_
                have pq225 : (V224 0 65).toInt = ((V 0 65)).toInt := congrArg Int32.toInt ((up2_k hV224 (by decide)).trans ((up2_k hV20 (by decide)).trans ((ajV14 0 65 rfl).trans (up2_k hV6 (by decide)))))
                have pq226 : (V224 0 60).toInt = ((V 0 60)).toInt := congrArg Int32.toInt ((up2_k hV224 (by decide)).trans ((up2_k hV20 (by decide)).trans ((ajV14 0 60 rfl).trans (up2_k hV6 (by decide)))))
                have pq227 : (V224 0 73).toInt = ((V 0 73)).toInt := congrArg Int32.toInt ((up2_k hV224 (by decide)).trans ((up2_k hV20 (by decide)).trans ((ajV14 0 73 rfl).trans (up2_k hV6 (by decide)))))
                have pq228 : (V224 0 76).toInt = 0 := (congrArg Int32.toInt ((up2_k hV224 (by decide)).trans (up2_s hV20))).trans (by decide)
                have pq229 : (V224 0 69).toInt = ((V14 0 69)).toInt := congrArg Int32.toInt ((up2_k hV224 (by decide)).trans (up2_k hV20 (by decide)))
                have pq230 : (V224 0 95).toInt = ((V14 0 95)).toInt := congrArg Int32.toInt ((up2_k hV224 (by decide)).trans (up2_k hV20 (by decide)))
                have fz231 : (V 0 95).toInt = 0 := r0.2.2.2.2
                have r0232 : RT0 V224 := RT0.ag r0 hMV (show agr [(0, 0), (0, 69), (0, 70), (0, 71), (0, 72), (0, 76), (0, 93), (0, 95), (0, 98)] [] V V224 from (agr.up (agr.up (agr.tr (agr.up agr.rf hV6 rfl) ajV14 (by decide) (by decide)) hV20 rfl) hV224 rfl)) ⟨⟨rfl, fun _ => rfl, fun _ => rfl, fun _ => rfl, fun _ => rfl, fun _ => rfl, fun _ => rfl⟩, by decide, by decide, rfl, rfl, fun _ => rfl, fun _ => rfl, fun _ => rfl⟩ (c0k.ag (show agr [(0, 0), (0, 69), (0, 70), (0, 71), (0, 72), (0, 76), (0, 93), (0, 95), (0, 98)] [] V V224 from (agr.up (agr.up (agr.tr (agr.up agr.rf hV6 rfl) ajV14 (by decide) (by decide)) hV20 rfl) hV224 rfl)) rfl) (by omega)
                exact W.iret (v := 0) hx hb hr (fun t ht hW => ⟨⟨0, (V224, L), rfl, ⟨hMV224, agV224, rfl, (show (V224 0 65).toInt ≤ (V224 0 60).toInt from by first | omega | ((try (have i_t221 := Imp.go t221 (by omega))); (try (have i_t211 := Imp.go t211 (by omega))); (try (have i_r0 := Imp.go r0 (by omega))); (try (have i_r0 := Imp.go r0 (by omega))); (try (have i_t211 := Imp.go t211 (by omega))); (try (have i_t221 := Imp.go t221 (by omega))); omega)), (show (V224 0 73).toInt - (V224 0 65).toInt ≤ (V 0 73).toInt - (V 0 65).toInt + 300 from by first | omega | ((try (have i_t221 := Imp.go t221 (by omega))); (try (have i_t211 := Imp.go t211 (by omega))); (try (have i_r0 := Imp.go r0 (by omega))); (try (have i_r0 := Imp.go r0 (by omega))); (try (have i_t211 := Imp.go t211 (by omega))); (try (have i_t221 := Imp.go t221 (by omega))); omega)), (show (V224 0 76).toInt - (V224 0 69).toInt - (V224 0 73).toInt ≤ (V 0 76).toInt - (V 0 69).toInt - (V 0 73).toInt + 3000 from by first | omega | ((try (have i_t221 := Imp.go t221 (by omega))); (try (have i_t211 := Imp.go t211 (by omega))); (try (have i_r0 := Imp.go r0 (by omega))); (try (have i_r0 := Imp.go r0 (by omega))); (try (have i_t211 := Imp.go t211 (by omega))); (try (have i_t221 := Imp.go t221 (by omega))); omega)), r0232⟩, by rw [ht]; exact hP, va_K.moved hW.alike hK, hD⟩, hS.F ht⟩) hS.2.2 dX12_call_109
              · skip
                have f233 : z218.toInt = 0 := b_eq rfl (by decide) c222
                refine lv_iconst (v := 3) hx hb dX12_call_100 (by decide) ?_
                refine lv_goto (tgt := 105) hx hb dX12_call_101 (by decide) ?_
                refine va_put (D := D) (ci := 12) (v := .int 3) (ty := tyX12 70) (C := RX12) (T := TX12) (N := 100) hx hb hg inX12 tyX12 tyX12_ok nmX12 hown hK hP hD hS 0 rfl rfl 70 (by decide) (hg _ w1780) (fun _ h9 => h9) rfl (tyX12_ok 70 (by decide)) rfl rfl (Nat.le_of_ble_eq_true rfl) dX12_call_105 (fun H locs hP hD hS => ?_)
                obtain ⟨V234, hV234⟩ : ∃ z, z = up2 V20 0 70 3 := ⟨_, rfl⟩
                have hP : va_P D vwCl (mw ad kk ks.1 V234 L) H := by rw [hV234]; exact hP
                have hD : va_D A (mw ad kk ks.1 V234 L) := by rw [hV234]; exact hD
                have hMV234 : rgd bM V234 := hMV20.put hV234 (i_full _)
                have agV234 : agr [(0, 0), (0, 60), (0, 65), (0, 68), (0, 69), (0, 70), (0, 71), (0, 72), (0, 73), (0, 76), (0, 90), (0, 91), (0, 92), (0, 93), (0, 95), (0, 96), (0, 98)] [59, 61, 62, 63, 64, 66, 67, 74, 75, 77, 78, 79, 80, 94, 97] V V234 := agV20.up hV234 rfl
                refine lv_iconst (v := 0) hx hb dX12_call_108 (by decide) ?_
                have pq235 : (V234 0 65).toInt = ((V 0 65)).toInt := congrArg Int32.toInt ((up2_k hV234 (by decide)).trans ((up2_k hV20 (by decide)).trans ((ajV14 0 65 rfl).trans (up2_k hV6 (by decide)))))
                have pq236 : (V234 0 60).toInt = ((V 0 60)).toInt := congrArg Int32.toInt ((up2_k hV234 (by decide)).trans ((up2_k hV20 (by decide)).trans ((ajV14 0 60 rfl).trans (up2_k hV6 (by decide)))))
                have pq237 : (V234 0 73).toInt = ((V 0 73)).toInt := congrArg Int32.toInt ((up2_k hV234 (by decide)).trans ((up2_k hV20 (by decide)).trans ((ajV14 0 73 rfl).trans (up2_k hV6 (by decide)))))
                have pq238 : (V234 0 76).toInt = 0 := (congrArg Int32.toInt ((up2_k hV234 (by decide)).trans (up2_s hV20))).trans (by decide)
                have pq239 : (V234 0 69).toInt = ((V14 0 69)).toInt := congrArg Int32.toInt ((up2_k hV234 (by decide)).trans (up2_k hV20 (by decide)))
                have pq240 : (V234 0 95).toInt = ((V14 0 95)).toInt := congrArg Int32.toInt ((up2_k hV234 (by decide)).trans (up2_k hV20 (by decide)))
                have fz241 : (V 0 95).toInt = 0 := r0.2.2.2.2
                have r0242 : RT0 V234 := RT0.ag r0 hMV (show agr [(0, 0), (0, 69), (0, 70), (0, 71), (0, 72), (0, 76), (0, 93), (0, 95), (0, 98)] [] V V234 from (agr.up (agr.up (agr.tr (agr.up agr.rf hV6 rfl) ajV14 (by decide) (by decide)) hV20 rfl) hV234 rfl)) ⟨⟨rfl, fun _ => rfl, fun _ => rfl, fun _ => rfl, fun _ => rfl, fun _ => rfl, fun _ => rfl⟩, by decide, by decide, rfl, rfl, fun _ => rfl, fun _ => rfl, fun _ => rfl⟩ (c0k.ag (show agr [(0, 0), (0, 69), (0, 70), (0, 71), (0, 72), (0, 76), (0, 93), (0, 95), (0, 98)] [] V V234 from (agr.up (agr.up (agr.tr (agr.up agr.rf hV6 rfl) ajV14 (by decide) (by decide)) hV20 rfl) hV234 rfl)) rfl) (by omega)
                exact W.iret (v := 0) hx hb hr (fun t ht hW => ⟨⟨0, (V234, L), rfl, ⟨hMV234, agV234, rfl, (show (V234 0 65).toInt ≤ (V234 0 60).toInt from by first | omega | ((try (have i_t221 := Imp.go t221 (by omega))); (try (have i_t211 := Imp.go t211 (by omega))); (try (have i_r0 := Imp.go r0 (by omega))); (try (have i_r0 := Imp.go r0 (by omega))); (try (have i_t211 := Imp.go t211 (by omega))); (try (have i_t221 := Imp.go t221 (by omega))); omega)), (show (V234 0 73).toInt - (V234 0 65).toInt ≤ (V 0 73).toInt - (V 0 65).toInt + 300 from by first | omega | ((try (have i_t221 := Imp.go t221 (by omega))); (try (have i_t211 := Imp.go t211 (by omega))); (try (have i_r0 := Imp.go r0 (by omega))); (try (have i_r0 := Imp.go r0 (by omega))); (try (have i_t211 := Imp.go t211 (by omega))); (try (have i_t221 := Imp.go t221 (by omega))); omega)), (show (V234 0 76).toInt - (V234 0 69).toInt - (V234 0 73).toInt ≤ (V 0 76).toInt - (V 0 69).toInt - (V 0 73).toInt + 3000 from by first | omega | ((try (have i_t221 := Imp.go t221 (by omega))); (try (have i_t211 := Imp.go t211 (by omega))); (try (have i_r0 := Imp.go r0 (by omega))); (try (have i_r0 := Imp.go r0 (by omega))); (try (have i_t211 := Imp.go t211 (by omega))); (try (have i_t221 := Imp.go t221 (by omega))); omega)), r0242⟩, by rw [ht]; exact hP, va_K.moved hW.alike hK, hD⟩, hS.F ht⟩) hS.2.2 dX12_call_109
            · skip
              have f243 : ((V 0 54)).toInt = 0 := b_eq rfl (by decide) c216
              exfalso; first | omega | ((try (have i_t211 := Imp.go t211 (by omega))); (try (have i_r0 := Imp.go r0 (by omega))); (try (have i_r0 := Imp.go r0 (by omega))); (try (have i_t211 := Imp.go t211 (by omega))); omega)
          · skip
            have f244 : z208.toInt ≠ 0 := b_neq rfl (by decide) c214
            refine lv_iload hx hb dX12_call_75 (lv_at hl 0 rfl) ?_
            refine lv_if_ne (tgt := 110) hx hb dX12_call_77 (by decide) (fun q => absurd rfl q) (fun _ => ?_)
            refine lv_aload_n hx hb dX12_call_80 rfl (lv_at hl 1 rfl) ?_
            refine lv_aload_n hx hb dX12_call_81 rfl (lv_at hl 1 rfl) ?_
            refine va_get (D := D) (ci := 12) (v := .int (V20 0 54)) (C := RX12) (T := TX12) (N := 100) hx hb hg inX12 hown hK hP 0 rfl rfl 54 (by decide) (hg _ w1764) (fun _ h9 => h9) rfl dX12_call_82 ?_
            refine g_top (v := (V 0 54)) ((up2_k hV20 (by decide)).trans ((ajV14 0 54 rfl).trans (up2_k hV6 (by decide)))) ?_
            refine lv_if_ne (tgt := 92) hx hb dX12_call_85 (by decide) (fun c245 => ?_) (fun c245 => ?_)
            · skip
              have f246 : ((V 0 54)).toInt ≠ 0 := b_neq rfl (by decide) c245
              refine lv_aload_n hx hb dX12_call_92 rfl (lv_at hl 1 rfl) ?_
              refine lv_iload_n hx hb dX12_call_93 rfl (lv_at hl 2 rfl) ?_
              refine gA_int (gA_runV (As := [.int p0]) (rest := [.ref (ad 0)]) (ci := 12) (q0 := 0) hx hb hml hown hg hP hD hK hS hA hnw hgk (s_isScope l D ks H.size ad kk V20 L p0 hMV20 ) w2227 w2229 w126 w172 w2230 rfl rfl hdV_yX12_isScope ⟨Nat.le_of_ble_eq_true rfl, Nat.le_of_ble_eq_true rfl⟩ rfl hl.1 rfl (Nat.le_of_ble_eq_true rfl) dX12_call_94 ⟨Nat.le_of_ble_eq_true rfl, Nat.le_of_ble_eq_true rfl⟩) hP hD hK hS hA (fun z247 u248 H locs w249 hP hD hK hS => ?_)
              obtain ⟨rgz247, t250⟩ := w249
              have rgz247 : 0 ≤ z247.toInt ∧ z247.toInt ≤ 1 := rgz247
              have t250 : Imp (z247.toInt = 1) (0 ≤ p0.toInt ∧ p0.toInt < (V20 0 55).toInt) := t250
              refine lv_if_ne (tgt := 104) hx hb dX12_call_97 (by decide) (fun c251 => ?_) (fun c251 => ?_)
              · skip
                have f252 : z247.toInt ≠ 0 := b_neq rfl (by decide) c251
                refine lv_iconst (v := 4) hx hb dX12_call_104 (by decide) ?_
                refine va_put (D := D) (ci := 12) (v := .int 4) (ty := tyX12 70) (C := RX12) (T := TX12) (N := 100) hx hb hg inX12 tyX12 tyX12_ok nmX12 hown hK hP hD hS 0 rfl rfl 70 (by decide) (hg _ w1780) (fun _ h9 => h9) rfl (tyX12_ok 70 (by decide)) rfl rfl (Nat.le_of_ble_eq_true rfl) dX12_call_105 (fun H locs hP hD hS => ?_)
                obtain ⟨V253, hV253⟩ : ∃ z, z = up2 V20 0 70 4 := ⟨_, rfl⟩
                have hP : va_P D vwCl (mw ad kk ks.1 V253 L) H := by rw [hV253]; exact hP
                have hD : va_D A (mw ad kk ks.1 V253 L) := by rw [hV253]; exact hD
                have hMV253 : rgd bM V253 := hMV20.put hV253 (i_full _)
                have agV253 : agr [(0, 0), (0, 60), (0, 65), (0, 68), (0, 69), (0, 70), (0, 71), (0, 72), (0, 73), (0, 76), (0, 90), (0, 91), (0, 92), (0, 93), (0, 95), (0, 96), (0, 98)] [59, 61, 62, 63, 64, 66, 67, 74, 75, 77, 78, 79, 80, 94, 97] V V253 := agV20.up hV253 rfl
                refine lv_iconst (v := 0) hx hb dX12_call_108 (by decide) ?_
                have pq254 : (V253 0 65).toInt = ((V 0 65)).toInt := congrArg Int32.toInt ((up2_k hV253 (by decide)).trans ((up2_k hV20 (by decide)).trans ((ajV14 0 65 rfl).trans (up2_k hV6 (by decide)))))
                have pq255 : (V253 0 60).toInt = ((V 0 60)).toInt := congrArg Int32.toInt ((up2_k hV253 (by decide)).trans ((up2_k hV20 (by decide)).trans ((ajV14 0 60 rfl).trans (up2_k hV6 (by decide)))))
                have pq256 : (V253 0 73).toInt = ((V 0 73)).toInt := congrArg Int32.toInt ((up2_k hV253 (by decide)).trans ((up2_k hV20 (by decide)).trans ((ajV14 0 73 rfl).trans (up2_k hV6 (by decide)))))
                have pq257 : (V253 0 76).toInt = 0 := (congrArg Int32.toInt ((up2_k hV253 (by decide)).trans (up2_s hV20))).trans (by decide)
                have pq258 : (V253 0 69).toInt = ((V14 0 69)).toInt := congrArg Int32.toInt ((up2_k hV253 (by decide)).trans (up2_k hV20 (by decide)))
                have pq259 : (V253 0 95).toInt = ((V14 0 95)).toInt := congrArg Int32.toInt ((up2_k hV253 (by decide)).trans (up2_k hV20 (by decide)))
                have fz260 : (V 0 95).toInt = 0 := r0.2.2.2.2
                have r0261 : RT0 V253 := RT0.ag r0 hMV (show agr [(0, 0), (0, 69), (0, 70), (0, 71), (0, 72), (0, 76), (0, 93), (0, 95), (0, 98)] [] V V253 from (agr.up (agr.up (agr.tr (agr.up agr.rf hV6 rfl) ajV14 (by decide) (by decide)) hV20 rfl) hV253 rfl)) ⟨⟨rfl, fun _ => rfl, fun _ => rfl, fun _ => rfl, fun _ => rfl, fun _ => rfl, fun _ => rfl⟩, by decide, by decide, rfl, rfl, fun _ => rfl, fun _ => rfl, fun _ => rfl⟩ (c0k.ag (show agr [(0, 0), (0, 69), (0, 70), (0, 71), (0, 72), (0, 76), (0, 93), (0, 95), (0, 98)] [] V V253 from (agr.up (agr.up (agr.tr (agr.up agr.rf hV6 rfl) ajV14 (by decide) (by decide)) hV20 rfl) hV253 rfl)) rfl) (by omega)
                exact W.iret (v := 0) hx hb hr (fun t ht hW => ⟨⟨0, (V253, L), rfl, ⟨hMV253, agV253, rfl, (show (V253 0 65).toInt ≤ (V253 0 60).toInt from by first | omega | ((try (have i_t250 := Imp.go t250 (by omega))); (try (have i_t211 := Imp.go t211 (by omega))); (try (have i_r0 := Imp.go r0 (by omega))); (try (have i_r0 := Imp.go r0 (by omega))); (try (have i_t211 := Imp.go t211 (by omega))); (try (have i_t250 := Imp.go t250 (by omega))); omega)), (show (V253 0 73).toInt - (V253 0 65).toInt ≤ (V 0 73).toInt - (V 0 65).toInt + 300 from by first | omega | ((try (have i_t250 := Imp.go t250 (by omega))); (try (have i_t211 := Imp.go t211 (by omega))); (try (have i_r0 := Imp.go r0 (by omega))); (try (have i_r0 := Imp.go r0 (by omega))); (try (have i_t211 := Imp.go t211 (by omega))); (try (have i_t250 := Imp.go t250 (by omega))); omega)), (show (V253 0 76).toInt - (V253 0 69).toInt - (V253 0 73).toInt ≤ (V 0 76).toInt - (V 0 69).toInt - (V 0 73).toInt + 3000 from by first | omega | ((try (have i_t250 := Imp.go t250 (by omega))); (try (have i_t211 := Imp.go t211 (by omega))); (try (have i_r0 := Imp.go r0 (by omega))); (try (have i_r0 := Imp.go r0 (by omega))); (try (have i_t211 := Imp.go t211 (by omega))); (try (have i_t250 := Imp.go t250 (by omega))); omega)), r0261⟩, by rw [ht]; exact hP, va_K.moved hW.alike hK, hD⟩, hS.F ht⟩) hS.2.2 dX12_call_109
              · skip
                have f262 : z247.toInt = 0 := b_eq rfl (by decide) c251
                refine lv_iconst (v := 3) hx hb dX12_call_100 (by decide) ?_
                refine lv_goto (tgt := 105) hx hb dX12_call_101 (by decide) ?_
                refine va_put (D := D) (ci := 12) (v := .int 3) (ty := tyX12 70) (C := RX12) (T := TX12) (N := 100) hx hb hg inX12 tyX12 tyX12_ok nmX12 hown hK hP hD hS 0 rfl rfl 70 (by decide) (hg _ w1780) (fun _ h9 => h9) rfl (tyX12_ok 70 (by decide)) rfl rfl (Nat.le_of_ble_eq_true rfl) dX12_call_105 (fun H locs hP hD hS => ?_)
                obtain ⟨V263, hV263⟩ : ∃ z, z = up2 V20 0 70 3 := ⟨_, rfl⟩
                have hP : va_P D vwCl (mw ad kk ks.1 V263 L) H := by rw [hV263]; exact hP
                have hD : va_D A (mw ad kk ks.1 V263 L) := by rw [hV263]; exact hD
                have hMV263 : rgd bM V263 := hMV20.put hV263 (i_full _)
                have agV263 : agr [(0, 0), (0, 60), (0, 65), (0, 68), (0, 69), (0, 70), (0, 71), (0, 72), (0, 73), (0, 76), (0, 90), (0, 91), (0, 92), (0, 93), (0, 95), (0, 96), (0, 98)] [59, 61, 62, 63, 64, 66, 67, 74, 75, 77, 78, 79, 80, 94, 97] V V263 := agV20.up hV263 rfl
                refine lv_iconst (v := 0) hx hb dX12_call_108 (by decide) ?_
                have pq264 : (V263 0 65).toInt = ((V 0 65)).toInt := congrArg Int32.toInt ((up2_k hV263 (by decide)).trans ((up2_k hV20 (by decide)).trans ((ajV14 0 65 rfl).trans (up2_k hV6 (by decide)))))
                have pq265 : (V263 0 60).toInt = ((V 0 60)).toInt := congrArg Int32.toInt ((up2_k hV263 (by decide)).trans ((up2_k hV20 (by decide)).trans ((ajV14 0 60 rfl).trans (up2_k hV6 (by decide)))))
                have pq266 : (V263 0 73).toInt = ((V 0 73)).toInt := congrArg Int32.toInt ((up2_k hV263 (by decide)).trans ((up2_k hV20 (by decide)).trans ((ajV14 0 73 rfl).trans (up2_k hV6 (by decide)))))
                have pq267 : (V263 0 76).toInt = 0 := (congrArg Int32.toInt ((up2_k hV263 (by decide)).trans (up2_s hV20))).trans (by decide)
                have pq268 : (V263 0 69).toInt = ((V14 0 69)).toInt := congrArg Int32.toInt ((up2_k hV263 (by decide)).trans (up2_k hV20 (by decide)))
                have pq269 : (V263 0 95).toInt = ((V14 0 95)).toInt := congrArg Int32.toInt ((up2_k hV263 (by decide)).trans (up2_k hV20 (by decide)))
                have fz270 : (V 0 95).toInt = 0 := r0.2.2.2.2
                have r0271 : RT0 V263 := RT0.ag r0 hMV (show agr [(0, 0), (0, 69), (0, 70), (0, 71), (0, 72), (0, 76), (0, 93), (0, 95), (0, 98)] [] V V263 from (agr.up (agr.up (agr.tr (agr.up agr.rf hV6 rfl) ajV14 (by decide) (by decide)) hV20 rfl) hV263 rfl)) ⟨⟨rfl, fun _ => rfl, fun _ => rfl, fun _ => rfl, fun _ => rfl, fun _ => rfl, fun _ => rfl⟩, by decide, by decide, rfl, rfl, fun _ => rfl, fun _ => rfl, fun _ => rfl⟩ (c0k.ag (show agr [(0, 0), (0, 69), (0, 70), (0, 71), (0, 72), (0, 76), (0, 93), (0, 95), (0, 98)] [] V V263 from (agr.up (agr.up (agr.tr (agr.up agr.rf hV6 rfl) ajV14 (by decide) (by decide)) hV20 rfl) hV263 rfl)) rfl) (by omega)
                exact W.iret (v := 0) hx hb hr (fun t ht hW => ⟨⟨0, (V263, L), rfl, ⟨hMV263, agV263, rfl, (show (V263 0 65).toInt ≤ (V263 0 60).toInt from by first | omega | ((try (have i_t250 := Imp.go t250 (by omega))); (try (have i_t211 := Imp.go t211 (by omega))); (try (have i_r0 := Imp.go r0 (by omega))); (try (have i_r0 := Imp.go r0 (by omega))); (try (have i_t211 := Imp.go t211 (by omega))); (try (have i_t250 := Imp.go t250 (by omega))); omega)), (show (V263 0 73).toInt - (V263 0 65).toInt ≤ (V 0 73).toInt - (V 0 65).toInt + 300 from by first | omega | ((try (have i_t250 := Imp.go t250 (by omega))); (try (have i_t211 := Imp.go t211 (by omega))); (try (have i_r0 := Imp.go r0 (by omega))); (try (have i_r0 := Imp.go r0 (by omega))); (try (have i_t211 := Imp.go t211 (by omega))); (try (have i_t250 := Imp.go t250 (by omega))); omega)), (show (V263 0 76).toInt - (V263 0 69).toInt - (V263 0 73).toInt ≤ (V 0 76).toInt - (V 0 69).toInt - (V 0 73).toInt + 3000 from by first | omega | ((try (have i_t250 := Imp.go t250 (by omega))); (try (have i_t211 := Imp.go t211 (by omega))); (try (have i_r0 := Imp.go r0 (by omega))); (try (have i_r0 := Imp.go r0 (by omega))); (try (have i_t211 := Imp.go t211 (by omega))); (try (have i_t250 := Imp.go t250 (by omega))); omega)), r0271⟩, by rw [ht]; exact hP, va_K.moved hW.alike hK, hD⟩, hS.F ht⟩) hS.2.2 dX12_call_109
            · skip
              have f272 : ((V 0 54)).toInt = 0 := b_eq rfl (by decide) c245
              exfalso; first | omega | ((try (have i_t211 := Imp.go t211 (by omega))); (try (have i_r0 := Imp.go r0 (by omega))); (try (have i_r0 := Imp.go r0 (by omega))); (try (have i_t211 := Imp.go t211 (by omega))); omega)
      · skip
        have f273 : ((V 63 (Int32.toNatClampNeg p1))).toInt = 1 := b_eq rfl (by decide) c190
        refine lv_iload_n hx hb dX12_call_36 rfl (lv_at hl 3 rfl) ?_
        refine lv_if_lt (tgt := 57) hx hb dX12_call_37 (by decide) (fun c274 => ?_) (fun c274 => ?_)
        · skip
          have f275 : p2.toInt < 0 := b_lt rfl (by decide) c274
          refine lv_iconst (v := 0) hx hb dX12_call_57 (by decide) ?_
          refine lv_istore (lv' := [(5, .int 0), (0, .ref (ad 0)), (1, .int p0), (2, .int p1), (3, .int p2), (4, .int p3)]) hx hb dX12_call_58 hl (by decide) rfl (fun ls hl => ?_)
          refine lv_aload_n hx hb dX12_call_60 rfl (lv_at hl 1 rfl) ?_
          refine va_get (D := D) (ci := 12) (v := .int (V20 0 54)) (C := RX12) (T := TX12) (N := 100) hx hb hg inX12 hown hK hP 0 rfl rfl 54 (by decide) (hg _ w1764) (fun _ h9 => h9) rfl dX12_call_61 ?_
          refine g_top (v := (V 0 54)) ((up2_k hV20 (by decide)).trans ((ajV14 0 54 rfl).trans (up2_k hV6 (by decide)))) ?_
          have r276 : 0 ≤ ((V 0 54)).toInt ∧ ((V 0 54)).toInt ≤ 1 := hMV 0 54
          refine lv_if_eq (tgt := 80) hx hb dX12_call_64 (by decide) (fun c277 => ?_) (fun c277 => ?_)
          · skip
            have f278 : ((V 0 54)).toInt = 0 := b_eq rfl (by decide) c277
            refine lv_aload_n hx hb dX12_call_80 rfl (lv_at hl 1 rfl) ?_
            refine lv_aload_n hx hb dX12_call_81 rfl (lv_at hl 1 rfl) ?_
            refine va_get (D := D) (ci := 12) (v := .int (V20 0 54)) (C := RX12) (T := TX12) (N := 100) hx hb hg inX12 hown hK hP 0 rfl rfl 54 (by decide) (hg _ w1764) (fun _ h9 => h9) rfl dX12_call_82 ?_
            refine g_top (v := (V 0 54)) ((up2_k hV20 (by decide)).trans ((ajV14 0 54 rfl).trans (up2_k hV6 (by decide)))) ?_
            refine lv_if_ne (tgt := 92) hx hb dX12_call_85 (by decide) (fun c279 => ?_) (fun c279 => ?_)
            · skip
              have f280 : ((V 0 54)).toInt ≠ 0 := b_neq rfl (by decide) c279
              exfalso; first | omega | ((try (have i_r0 := Imp.go r0 (by omega))); omega)
            · skip
              have f281 : ((V 0 54)).toInt = 0 := b_eq rfl (by decide) c279
              refine lv_iconst (v := 4) hx hb dX12_call_88 (by decide) ?_
              refine lv_goto (tgt := 105) hx hb dX12_call_89 (by decide) ?_
              refine va_put (D := D) (ci := 12) (v := .int 4) (ty := tyX12 70) (C := RX12) (T := TX12) (N := 100) hx hb hg inX12 tyX12 tyX12_ok nmX12 hown hK hP hD hS 0 rfl rfl 70 (by decide) (hg _ w1780) (fun _ h9 => h9) rfl (tyX12_ok 70 (by decide)) rfl rfl (Nat.le_of_ble_eq_true rfl) dX12_call_105 (fun H locs hP hD hS => ?_)
              obtain ⟨V282, hV282⟩ : ∃ z, z = up2 V20 0 70 4 := ⟨_, rfl⟩
              have hP : va_P D vwCl (mw ad kk ks.1 V282 L) H := by rw [hV282]; exact hP
              have hD : va_D A (mw ad kk ks.1 V282 L) := by rw [hV282]; exact hD
              have hMV282 : rgd bM V282 := hMV20.put hV282 (i_full _)
              have agV282 : agr [(0, 0), (0, 60), (0, 65), (0, 68), (0, 69), (0, 70), (0, 71), (0, 72), (0, 73), (0, 76), (0, 90), (0, 91), (0, 92), (0, 93), (0, 95), (0, 96), (0, 98)] [59, 61, 62, 63, 64, 66, 67, 74, 75, 77, 78, 79, 80, 94, 97] V V282 := agV20.up hV282 rfl
              refine lv_iconst (v := 0) hx hb dX12_call_108 (by decide) ?_
              have pq283 : (V282 0 65).toInt = ((V 0 65)).toInt := congrArg Int32.toInt ((up2_k hV282 (by decide)).trans ((up2_k hV20 (by decide)).trans ((ajV14 0 65 rfl).trans (up2_k hV6 (by decide)))))
              have pq284 : (V282 0 60).toInt = ((V 0 60)).toInt := congrArg Int32.toInt ((up2_k hV282 (by decide)).trans ((up2_k hV20 (by decide)).trans ((ajV14 0 60 rfl).trans (up2_k hV6 (by decide)))))
              have pq285 : (V282 0 73).toInt = ((V 0 73)).toInt := congrArg Int32.toInt ((up2_k hV282 (by decide)).trans ((up2_k hV20 (by decide)).trans ((ajV14 0 73 rfl).trans (up2_k hV6 (by decide)))))
              have pq286 : (V282 0 76).toInt = 0 := (congrArg Int32.toInt ((up2_k hV282 (by decide)).trans (up2_s hV20))).trans (by decide)
              have pq287 : (V282 0 69).toInt = ((V14 0 69)).toInt := congrArg Int32.toInt ((up2_k hV282 (by decide)).trans (up2_k hV20 (by decide)))
              have pq288 : (V282 0 95).toInt = ((V14 0 95)).toInt := congrArg Int32.toInt ((up2_k hV282 (by decide)).trans (up2_k hV20 (by decide)))
              have fz289 : (V 0 95).toInt = 0 := r0.2.2.2.2
              have r0290 : RT0 V282 := RT0.ag r0 hMV (show agr [(0, 0), (0, 69), (0, 70), (0, 71), (0, 72), (0, 76), (0, 93), (0, 95), (0, 98)] [] V V282 from (agr.up (agr.up (agr.tr (agr.up agr.rf hV6 rfl) ajV14 (by decide) (by decide)) hV20 rfl) hV282 rfl)) ⟨⟨rfl, fun _ => rfl, fun _ => rfl, fun _ => rfl, fun _ => rfl, fun _ => rfl, fun _ => rfl⟩, by decide, by decide, rfl, rfl, fun _ => rfl, fun _ => rfl, fun _ => rfl⟩ (c0k.ag (show agr [(0, 0), (0, 69), (0, 70), (0, 71), (0, 72), (0, 76), (0, 93), (0, 95), (0, 98)] [] V V282 from (agr.up (agr.up (agr.tr (agr.up agr.rf hV6 rfl) ajV14 (by decide) (by decide)) hV20 rfl) hV282 rfl)) rfl) (by omega)
              exact W.iret (v := 0) hx hb hr (fun t ht hW => ⟨⟨0, (V282, L), rfl, ⟨hMV282, agV282, rfl, (show (V282 0 65).toInt ≤ (V282 0 60).toInt from by first | omega | ((try (have i_r0 := Imp.go r0 (by omega))); omega)), (show (V282 0 73).toInt - (V282 0 65).toInt ≤ (V 0 73).toInt - (V 0 65).toInt + 300 from by first | omega | ((try (have i_r0 := Imp.go r0 (by omega))); omega)), (show (V282 0 76).toInt - (V282 0 69).toInt - (V282 0 73).toInt ≤ (V 0 76).toInt - (V 0 69).toInt - (V 0 73).toInt + 3000 from by first | omega | ((try (have i_r0 := Imp.go r0 (by omega))); omega)), r0290⟩, by rw [ht]; exact hP, va_K.moved hW.alike hK, hD⟩, hS.F ht⟩) hS.2.2 dX12_call_109
          · skip
            have f291 : ((V 0 54)).toInt ≠ 0 := b_neq rfl (by decide) c277
            refine lv_aload_n hx hb dX12_call_67 rfl (lv_at hl 1 rfl) ?_
            refine lv_iload_n hx hb dX12_call_68 rfl (lv_at hl 2 rfl) ?_
            refine gA_int (gA_runV (As := [.int p0]) (rest := []) (ci := 12) (q0 := 0) hx hb hml hown hg hP hD hK hS hA hnw hgk (s_isScope l D ks H.size ad kk V20 L p0 hMV20 ) w2227 w2229 w126 w172 w2230 rfl rfl hdV_yX12_isScope ⟨Nat.le_of_ble_eq_true rfl, Nat.le_of_ble_eq_true rfl⟩ rfl hl.1 rfl (Nat.le_of_ble_eq_true rfl) dX12_call_69 ⟨Nat.le_of_ble_eq_true rfl, Nat.le_of_ble_eq_true rfl⟩) hP hD hK hS hA (fun z292 u293 H locs w294 hP hD hK hS => ?_)
            obtain ⟨rgz292, t295⟩ := w294
            have rgz292 : 0 ≤ z292.toInt ∧ z292.toInt ≤ 1 := rgz292
            have t295 : Imp (z292.toInt = 1) (0 ≤ p0.toInt ∧ p0.toInt < (V20 0 55).toInt) := t295
            have pq296 : (V20 0 55).toInt = ((V 0 55)).toInt := congrArg Int32.toInt ((up2_k hV20 (by decide)).trans ((ajV14 0 55 rfl).trans (up2_k hV6 (by decide))))
            have r297 : 1 ≤ ((V 0 55)).toInt ∧ ((V 0 55)).toInt ≤ 40 := hMV 0 55
            refine lv_if_eq (tgt := 80) hx hb dX12_call_72 (by decide) (fun c298 => ?_) (fun c298 => ?_)
            · skip
              have f299 : z292.toInt = 0 := b_eq rfl (by decide) c298
              refine lv_aload_n hx hb dX12_call_80 rfl (lv_at hl 1 rfl) ?_
              refine lv_aload_n hx hb dX12_call_81 rfl (lv_at hl 1 rfl) ?_
              refine va_get (D := D) (ci := 12) (v := .int (V20 0 54)) (C := RX12) (T := TX12) (N := 100) hx hb hg inX12 hown hK hP 0 rfl rfl 54 (by decide) (hg _ w1764) (fun _ h9 => h9) rfl dX12_call_82 ?_
              refine g_top (v := (V 0 54)) ((up2_k hV20 (by decide)).trans ((ajV14 0 54 rfl).trans (up2_k hV6 (by decide)))) ?_
              refine lv_if_ne (tgt := 92) hx hb dX12_call_85 (by decide) (fun c300 => ?_) (fun c300 => ?_)
              · skip
                have f301 : ((V 0 54)).toInt ≠ 0 := b_neq rfl (by decide) c300
                refine lv_aload_n hx hb dX12_call_92 rfl (lv_at hl 1 rfl) ?_
                refine lv_iload_n hx hb dX12_call_93 rfl (lv_at hl 2 rfl) ?_
                refine gA_int (gA_runV (As := [.int p0]) (rest := [.ref (ad 0)]) (ci := 12) (q0 := 0) hx hb hml hown hg hP hD hK hS hA hnw hgk (s_isScope l D ks H.size ad kk V20 L p0 hMV20 ) w2227 w2229 w126 w172 w2230 rfl rfl hdV_yX12_isScope ⟨Nat.le_of_ble_eq_true rfl, Nat.le_of_ble_eq_true rfl⟩ rfl hl.1 rfl (Nat.le_of_ble_eq_true rfl) dX12_call_94 ⟨Nat.le_of_ble_eq_true rfl, Nat.le_of_ble_eq_true rfl⟩) hP hD hK hS hA (fun z302 u303 H locs w304 hP hD hK hS => ?_)
                obtain ⟨rgz302, t305⟩ := w304
                have rgz302 : 0 ≤ z302.toInt ∧ z302.toInt ≤ 1 := rgz302
                have t305 : Imp (z302.toInt = 1) (0 ≤ p0.toInt ∧ p0.toInt < (V20 0 55).toInt) := t305
                refine lv_if_ne (tgt := 104) hx hb dX12_call_97 (by decide) (fun c306 => ?_) (fun c306 => ?_)
                · skip
                  have f307 : z302.toInt ≠ 0 := b_neq rfl (by decide) c306
                  refine lv_iconst (v := 4) hx hb dX12_call_104 (by decide) ?_
                  refine va_put (D := D) (ci := 12) (v := .int 4) (ty := tyX12 70) (C := RX12) (T := TX12) (N := 100) hx hb hg inX12 tyX12 tyX12_ok nmX12 hown hK hP hD hS 0 rfl rfl 70 (by decide) (hg _ w1780) (fun _ h9 => h9) rfl (tyX12_ok 70 (by decide)) rfl rfl (Nat.le_of_ble_eq_true rfl) dX12_call_105 (fun H locs hP hD hS => ?_)
                  obtain ⟨V308, hV308⟩ : ∃ z, z = up2 V20 0 70 4 := ⟨_, rfl⟩
                  have hP : va_P D vwCl (mw ad kk ks.1 V308 L) H := by rw [hV308]; exact hP
                  have hD : va_D A (mw ad kk ks.1 V308 L) := by rw [hV308]; exact hD
                  have hMV308 : rgd bM V308 := hMV20.put hV308 (i_full _)
                  have agV308 : agr [(0, 0), (0, 60), (0, 65), (0, 68), (0, 69), (0, 70), (0, 71), (0, 72), (0, 73), (0, 76), (0, 90), (0, 91), (0, 92), (0, 93), (0, 95), (0, 96), (0, 98)] [59, 61, 62, 63, 64, 66, 67, 74, 75, 77, 78, 79, 80, 94, 97] V V308 := agV20.up hV308 rfl
                  refine lv_iconst (v := 0) hx hb dX12_call_108 (by decide) ?_
                  have pq309 : (V308 0 65).toInt = ((V 0 65)).toInt := congrArg Int32.toInt ((up2_k hV308 (by decide)).trans ((up2_k hV20 (by decide)).trans ((ajV14 0 65 rfl).trans (up2_k hV6 (by decide)))))
                  have pq310 : (V308 0 60).toInt = ((V 0 60)).toInt := congrArg Int32.toInt ((up2_k hV308 (by decide)).trans ((up2_k hV20 (by decide)).trans ((ajV14 0 60 rfl).trans (up2_k hV6 (by decide)))))
                  have pq311 : (V308 0 73).toInt = ((V 0 73)).toInt := congrArg Int32.toInt ((up2_k hV308 (by decide)).trans ((up2_k hV20 (by decide)).trans ((ajV14 0 73 rfl).trans (up2_k hV6 (by decide)))))
                  have pq312 : (V308 0 76).toInt = 0 := (congrArg Int32.toInt ((up2_k hV308 (by decide)).trans (up2_s hV20))).trans (by decide)
                  have pq313 : (V308 0 69).toInt = ((V14 0 69)).toInt := congrArg Int32.toInt ((up2_k hV308 (by decide)).trans (up2_k hV20 (by decide)))
                  have pq314 : (V308 0 95).toInt = ((V14 0 95)).toInt := congrArg Int32.toInt ((up2_k hV308 (by decide)).trans (up2_k hV20 (by decide)))
                  have fz315 : (V 0 95).toInt = 0 := r0.2.2.2.2
                  have r0316 : RT0 V308 := RT0.ag r0 hMV (show agr [(0, 0), (0, 69), (0, 70), (0, 71), (0, 72), (0, 76), (0, 93), (0, 95), (0, 98)] [] V V308 from (agr.up (agr.up (agr.tr (agr.up agr.rf hV6 rfl) ajV14 (by decide) (by decide)) hV20 rfl) hV308 rfl)) ⟨⟨rfl, fun _ => rfl, fun _ => rfl, fun _ => rfl, fun _ => rfl, fun _ => rfl, fun _ => rfl⟩, by decide, by decide, rfl, rfl, fun _ => rfl, fun _ => rfl, fun _ => rfl⟩ (c0k.ag (show agr [(0, 0), (0, 69), (0, 70), (0, 71), (0, 72), (0, 76), (0, 93), (0, 95), (0, 98)] [] V V308 from (agr.up (agr.up (agr.tr (agr.up agr.rf hV6 rfl) ajV14 (by decide) (by decide)) hV20 rfl) hV308 rfl)) rfl) (by omega)
                  exact W.iret (v := 0) hx hb hr (fun t ht hW => ⟨⟨0, (V308, L), rfl, ⟨hMV308, agV308, rfl, (show (V308 0 65).toInt ≤ (V308 0 60).toInt from by first | omega | ((try (have i_t305 := Imp.go t305 (by omega))); (try (have i_t295 := Imp.go t295 (by omega))); (try (have i_r0 := Imp.go r0 (by omega))); (try (have i_r0 := Imp.go r0 (by omega))); (try (have i_t295 := Imp.go t295 (by omega))); (try (have i_t305 := Imp.go t305 (by omega))); omega)), (show (V308 0 73).toInt - (V308 0 65).toInt ≤ (V 0 73).toInt - (V 0 65).toInt + 300 from by first | omega | ((try (have i_t305 := Imp.go t305 (by omega))); (try (have i_t295 := Imp.go t295 (by omega))); (try (have i_r0 := Imp.go r0 (by omega))); (try (have i_r0 := Imp.go r0 (by omega))); (try (have i_t295 := Imp.go t295 (by omega))); (try (have i_t305 := Imp.go t305 (by omega))); omega)), (show (V308 0 76).toInt - (V308 0 69).toInt - (V308 0 73).toInt ≤ (V 0 76).toInt - (V 0 69).toInt - (V 0 73).toInt + 3000 from by first | omega | ((try (have i_t305 := Imp.go t305 (by omega))); (try (have i_t295 := Imp.go t295 (by omega))); (try (have i_r0 := Imp.go r0 (by omega))); (try (have i_r0 := Imp.go r0 (by omega))); (try (have i_t295 := Imp.go t295 (by omega))); (try (have i_t305 := Imp.go t305 (by omega))); omega)), r0316⟩, by rw [ht]; exact hP, va_K.moved hW.alike hK, hD⟩, hS.F ht⟩) hS.2.2 dX12_call_109
                · skip
                  have f317 : z302.toInt = 0 := b_eq rfl (by decide) c306
                  refine lv_iconst (v := 3) hx hb dX12_call_100 (by decide) ?_
                  refine lv_goto (tgt := 105) hx hb dX12_call_101 (by decide) ?_
                  refine va_put (D := D) (ci := 12) (v := .int 3) (ty := tyX12 70) (C := RX12) (T := TX12) (N := 100) hx hb hg inX12 tyX12 tyX12_ok nmX12 hown hK hP hD hS 0 rfl rfl 70 (by decide) (hg _ w1780) (fun _ h9 => h9) rfl (tyX12_ok 70 (by decide)) rfl rfl (Nat.le_of_ble_eq_true rfl) dX12_call_105 (fun H locs hP hD hS => ?_)
                  obtain ⟨V318, hV318⟩ : ∃ z, z = up2 V20 0 70 3 := ⟨_, rfl⟩
                  have hP : va_P D vwCl (mw ad kk ks.1 V318 L) H := by rw [hV318]; exact hP
                  have hD : va_D A (mw ad kk ks.1 V318 L) := by rw [hV318]; exact hD
                  have hMV318 : rgd bM V318 := hMV20.put hV318 (i_full _)
                  have agV318 : agr [(0, 0), (0, 60), (0, 65), (0, 68), (0, 69), (0, 70), (0, 71), (0, 72), (0, 73), (0, 76), (0, 90), (0, 91), (0, 92), (0, 93), (0, 95), (0, 96), (0, 98)] [59, 61, 62, 63, 64, 66, 67, 74, 75, 77, 78, 79, 80, 94, 97] V V318 := agV20.up hV318 rfl
                  refine lv_iconst (v := 0) hx hb dX12_call_108 (by decide) ?_
                  have pq319 : (V318 0 65).toInt = ((V 0 65)).toInt := congrArg Int32.toInt ((up2_k hV318 (by decide)).trans ((up2_k hV20 (by decide)).trans ((ajV14 0 65 rfl).trans (up2_k hV6 (by decide)))))
                  have pq320 : (V318 0 60).toInt = ((V 0 60)).toInt := congrArg Int32.toInt ((up2_k hV318 (by decide)).trans ((up2_k hV20 (by decide)).trans ((ajV14 0 60 rfl).trans (up2_k hV6 (by decide)))))
                  have pq321 : (V318 0 73).toInt = ((V 0 73)).toInt := congrArg Int32.toInt ((up2_k hV318 (by decide)).trans ((up2_k hV20 (by decide)).trans ((ajV14 0 73 rfl).trans (up2_k hV6 (by decide)))))
                  have pq322 : (V318 0 76).toInt = 0 := (congrArg Int32.toInt ((up2_k hV318 (by decide)).trans (up2_s hV20))).trans (by decide)
                  have pq323 : (V318 0 69).toInt = ((V14 0 69)).toInt := congrArg Int32.toInt ((up2_k hV318 (by decide)).trans (up2_k hV20 (by decide)))
                  have pq324 : (V318 0 95).toInt = ((V14 0 95)).toInt := congrArg Int32.toInt ((up2_k hV318 (by decide)).trans (up2_k hV20 (by decide)))
                  have fz325 : (V 0 95).toInt = 0 := r0.2.2.2.2
                  have r0326 : RT0 V318 := RT0.ag r0 hMV (show agr [(0, 0), (0, 69), (0, 70), (0, 71), (0, 72), (0, 76), (0, 93), (0, 95), (0, 98)] [] V V318 from (agr.up (agr.up (agr.tr (agr.up agr.rf hV6 rfl) ajV14 (by decide) (by decide)) hV20 rfl) hV318 rfl)) ⟨⟨rfl, fun _ => rfl, fun _ => rfl, fun _ => rfl, fun _ => rfl, fun _ => rfl, fun _ => rfl⟩, by decide, by decide, rfl, rfl, fun _ => rfl, fun _ => rfl, fun _ => rfl⟩ (c0k.ag (show agr [(0, 0), (0, 69), (0, 70), (0, 71), (0, 72), (0, 76), (0, 93), (0, 95), (0, 98)] [] V V318 from (agr.up (agr.up (agr.tr (agr.up agr.rf hV6 rfl) ajV14 (by decide) (by decide)) hV20 rfl) hV318 rfl)) rfl) (by omega)
                  exact W.iret (v := 0) hx hb hr (fun t ht hW => ⟨⟨0, (V318, L), rfl, ⟨hMV318, agV318, rfl, (show (V318 0 65).toInt ≤ (V318 0 60).toInt from by first | omega | ((try (have i_t305 := Imp.go t305 (by omega))); (try (have i_t295 := Imp.go t295 (by omega))); (try (have i_r0 := Imp.go r0 (by omega))); (try (have i_r0 := Imp.go r0 (by omega))); (try (have i_t295 := Imp.go t295 (by omega))); (try (have i_t305 := Imp.go t305 (by omega))); omega)), (show (V318 0 73).toInt - (V318 0 65).toInt ≤ (V 0 73).toInt - (V 0 65).toInt + 300 from by first | omega | ((try (have i_t305 := Imp.go t305 (by omega))); (try (have i_t295 := Imp.go t295 (by omega))); (try (have i_r0 := Imp.go r0 (by omega))); (try (have i_r0 := Imp.go r0 (by omega))); (try (have i_t295 := Imp.go t295 (by omega))); (try (have i_t305 := Imp.go t305 (by omega))); omega)), (show (V318 0 76).toInt - (V318 0 69).toInt - (V318 0 73).toInt ≤ (V 0 76).toInt - (V 0 69).toInt - (V 0 73).toInt + 3000 from by first | omega | ((try (have i_t305 := Imp.go t305 (by omega))); (try (have i_t295 := Imp.go t295 (by omega))); (try (have i_r0 := Imp.go r0 (by omega))); (try (have i_r0 := Imp.go r0 (by omega))); (try (have i_t295 := Imp.go t295 (by omega))); (try (have i_t305 := Imp.go t305 (by omega))); omega)), r0326⟩, by rw [ht]; exact hP, va_K.moved hW.alike hK, hD⟩, hS.F ht⟩) hS.2.2 dX12_call_109
              · skip
                have f327 : ((V 0 54)).toInt = 0 := b_eq rfl (by decide) c300
                exfalso; first | omega | ((try (have i_t295 := Imp.go t295 (by omega))); (try (have i_r0 := Imp.go r0 (by omega))); (try (have i_r0 := Imp.go r0 (by omega))); (try (have i_t295 := Imp.go t295 (by omega))); omega)
            · skip
              have f328 : z292.toInt ≠ 0 := b_neq rfl (by decide) c298
              refine lv_iload hx hb dX12_call_75 (lv_at hl 0 rfl) ?_
              refine lv_if_ne (tgt := 110) hx hb dX12_call_77 (by decide) (fun q => absurd rfl q) (fun _ => ?_)
              refine lv_aload_n hx hb dX12_call_80 rfl (lv_at hl 1 rfl) ?_
              refine lv_aload_n hx hb dX12_call_81 rfl (lv_at hl 1 rfl) ?_
              refine va_get (D := D) (ci := 12) (v := .int (V20 0 54)) (C := RX12) (T := TX12) (N := 100) hx hb hg inX12 hown hK hP 0 rfl rfl 54 (by decide) (hg _ w1764) (fun _ h9 => h9) rfl dX12_call_82 ?_
              refine g_top (v := (V 0 54)) ((up2_k hV20 (by decide)).trans ((ajV14 0 54 rfl).trans (up2_k hV6 (by decide)))) ?_
              refine lv_if_ne (tgt := 92) hx hb dX12_call_85 (by decide) (fun c329 => ?_) (fun c329 => ?_)
              · skip
                have f330 : ((V 0 54)).toInt ≠ 0 := b_neq rfl (by decide) c329
                refine lv_aload_n hx hb dX12_call_92 rfl (lv_at hl 1 rfl) ?_
                refine lv_iload_n hx hb dX12_call_93 rfl (lv_at hl 2 rfl) ?_
                refine gA_int (gA_runV (As := [.int p0]) (rest := [.ref (ad 0)]) (ci := 12) (q0 := 0) hx hb hml hown hg hP hD hK hS hA hnw hgk (s_isScope l D ks H.size ad kk V20 L p0 hMV20 ) w2227 w2229 w126 w172 w2230 rfl rfl hdV_yX12_isScope ⟨Nat.le_of_ble_eq_true rfl, Nat.le_of_ble_eq_true rfl⟩ rfl hl.1 rfl (Nat.le_of_ble_eq_true rfl) dX12_call_94 ⟨Nat.le_of_ble_eq_true rfl, Nat.le_of_ble_eq_true rfl⟩) hP hD hK hS hA (fun z331 u332 H locs w333 hP hD hK hS => ?_)
                obtain ⟨rgz331, t334⟩ := w333
                have rgz331 : 0 ≤ z331.toInt ∧ z331.toInt ≤ 1 := rgz331
                have t334 : Imp (z331.toInt = 1) (0 ≤ p0.toInt ∧ p0.toInt < (V20 0 55).toInt) := t334
                refine lv_if_ne (tgt := 104) hx hb dX12_call_97 (by decide) (fun c335 => ?_) (fun c335 => ?_)
                · skip
                  have f336 : z331.toInt ≠ 0 := b_neq rfl (by decide) c335
                  refine lv_iconst (v := 4) hx hb dX12_call_104 (by decide) ?_
                  refine va_put (D := D) (ci := 12) (v := .int 4) (ty := tyX12 70) (C := RX12) (T := TX12) (N := 100) hx hb hg inX12 tyX12 tyX12_ok nmX12 hown hK hP hD hS 0 rfl rfl 70 (by decide) (hg _ w1780) (fun _ h9 => h9) rfl (tyX12_ok 70 (by decide)) rfl rfl (Nat.le_of_ble_eq_true rfl) dX12_call_105 (fun H locs hP hD hS => ?_)
                  obtain ⟨V337, hV337⟩ : ∃ z, z = up2 V20 0 70 4 := ⟨_, rfl⟩
                  have hP : va_P D vwCl (mw ad kk ks.1 V337 L) H := by rw [hV337]; exact hP
                  have hD : va_D A (mw ad kk ks.1 V337 L) := by rw [hV337]; exact hD
                  have hMV337 : rgd bM V337 := hMV20.put hV337 (i_full _)
                  have agV337 : agr [(0, 0), (0, 60), (0, 65), (0, 68), (0, 69), (0, 70), (0, 71), (0, 72), (0, 73), (0, 76), (0, 90), (0, 91), (0, 92), (0, 93), (0, 95), (0, 96), (0, 98)] [59, 61, 62, 63, 64, 66, 67, 74, 75, 77, 78, 79, 80, 94, 97] V V337 := agV20.up hV337 rfl
                  refine lv_iconst (v := 0) hx hb dX12_call_108 (by decide) ?_
                  have pq338 : (V337 0 65).toInt = ((V 0 65)).toInt := congrArg Int32.toInt ((up2_k hV337 (by decide)).trans ((up2_k hV20 (by decide)).trans ((ajV14 0 65 rfl).trans (up2_k hV6 (by decide)))))
                  have pq339 : (V337 0 60).toInt = ((V 0 60)).toInt := congrArg Int32.toInt ((up2_k hV337 (by decide)).trans ((up2_k hV20 (by decide)).trans ((ajV14 0 60 rfl).trans (up2_k hV6 (by decide)))))
                  have pq340 : (V337 0 73).toInt = ((V 0 73)).toInt := congrArg Int32.toInt ((up2_k hV337 (by decide)).trans ((up2_k hV20 (by decide)).trans ((ajV14 0 73 rfl).trans (up2_k hV6 (by decide)))))
                  have pq341 : (V337 0 76).toInt = 0 := (congrArg Int32.toInt ((up2_k hV337 (by decide)).trans (up2_s hV20))).trans (by decide)
                  have pq342 : (V337 0 69).toInt = ((V14 0 69)).toInt := congrArg Int32.toInt ((up2_k hV337 (by decide)).trans (up2_k hV20 (by decide)))
                  have pq343 : (V337 0 95).toInt = ((V14 0 95)).toInt := congrArg Int32.toInt ((up2_k hV337 (by decide)).trans (up2_k hV20 (by decide)))
                  have fz344 : (V 0 95).toInt = 0 := r0.2.2.2.2
                  have r0345 : RT0 V337 := RT0.ag r0 hMV (show agr [(0, 0), (0, 69), (0, 70), (0, 71), (0, 72), (0, 76), (0, 93), (0, 95), (0, 98)] [] V V337 from (agr.up (agr.up (agr.tr (agr.up agr.rf hV6 rfl) ajV14 (by decide) (by decide)) hV20 rfl) hV337 rfl)) ⟨⟨rfl, fun _ => rfl, fun _ => rfl, fun _ => rfl, fun _ => rfl, fun _ => rfl, fun _ => rfl⟩, by decide, by decide, rfl, rfl, fun _ => rfl, fun _ => rfl, fun _ => rfl⟩ (c0k.ag (show agr [(0, 0), (0, 69), (0, 70), (0, 71), (0, 72), (0, 76), (0, 93), (0, 95), (0, 98)] [] V V337 from (agr.up (agr.up (agr.tr (agr.up agr.rf hV6 rfl) ajV14 (by decide) (by decide)) hV20 rfl) hV337 rfl)) rfl) (by omega)
                  exact W.iret (v := 0) hx hb hr (fun t ht hW => ⟨⟨0, (V337, L), rfl, ⟨hMV337, agV337, rfl, (show (V337 0 65).toInt ≤ (V337 0 60).toInt from by first | omega | ((try (have i_t334 := Imp.go t334 (by omega))); (try (have i_t295 := Imp.go t295 (by omega))); (try (have i_r0 := Imp.go r0 (by omega))); (try (have i_r0 := Imp.go r0 (by omega))); (try (have i_t295 := Imp.go t295 (by omega))); (try (have i_t334 := Imp.go t334 (by omega))); omega)), (show (V337 0 73).toInt - (V337 0 65).toInt ≤ (V 0 73).toInt - (V 0 65).toInt + 300 from by first | omega | ((try (have i_t334 := Imp.go t334 (by omega))); (try (have i_t295 := Imp.go t295 (by omega))); (try (have i_r0 := Imp.go r0 (by omega))); (try (have i_r0 := Imp.go r0 (by omega))); (try (have i_t295 := Imp.go t295 (by omega))); (try (have i_t334 := Imp.go t334 (by omega))); omega)), (show (V337 0 76).toInt - (V337 0 69).toInt - (V337 0 73).toInt ≤ (V 0 76).toInt - (V 0 69).toInt - (V 0 73).toInt + 3000 from by first | omega | ((try (have i_t334 := Imp.go t334 (by omega))); (try (have i_t295 := Imp.go t295 (by omega))); (try (have i_r0 := Imp.go r0 (by omega))); (try (have i_r0 := Imp.go r0 (by omega))); (try (have i_t295 := Imp.go t295 (by omega))); (try (have i_t334 := Imp.go t334 (by omega))); omega)), r0345⟩, by rw [ht]; exact hP, va_K.moved hW.alike hK, hD⟩, hS.F ht⟩) hS.2.2 dX12_call_109
                · skip
                  have f346 : z331.toInt = 0 := b_eq rfl (by decide) c335
                  refine lv_iconst (v := 3) hx hb dX12_call_100 (by decide) ?_
                  refine lv_goto (tgt := 105) hx hb dX12_call_101 (by decide) ?_
                  refine va_put (D := D) (ci := 12) (v := .int 3) (ty := tyX12 70) (C := RX12) (T := TX12) (N := 100) hx hb hg inX12 tyX12 tyX12_ok nmX12 hown hK hP hD hS 0 rfl rfl 70 (by decide) (hg _ w1780) (fun _ h9 => h9) rfl (tyX12_ok 70 (by decide)) rfl rfl (Nat.le_of_ble_eq_true rfl) dX12_call_105 (fun H locs hP hD hS => ?_)
                  obtain ⟨V347, hV347⟩ : ∃ z, z = up2 V20 0 70 3 := ⟨_, rfl⟩
                  have hP : va_P D vwCl (mw ad kk ks.1 V347 L) H := by rw [hV347]; exact hP
                  have hD : va_D A (mw ad kk ks.1 V347 L) := by rw [hV347]; exact hD
                  have hMV347 : rgd bM V347 := hMV20.put hV347 (i_full _)
                  have agV347 : agr [(0, 0), (0, 60), (0, 65), (0, 68), (0, 69), (0, 70), (0, 71), (0, 72), (0, 73), (0, 76), (0, 90), (0, 91), (0, 92), (0, 93), (0, 95), (0, 96), (0, 98)] [59, 61, 62, 63, 64, 66, 67, 74, 75, 77, 78, 79, 80, 94, 97] V V347 := agV20.up hV347 rfl
                  refine lv_iconst (v := 0) hx hb dX12_call_108 (by decide) ?_
                  have pq348 : (V347 0 65).toInt = ((V 0 65)).toInt := congrArg Int32.toInt ((up2_k hV347 (by decide)).trans ((up2_k hV20 (by decide)).trans ((ajV14 0 65 rfl).trans (up2_k hV6 (by decide)))))
                  have pq349 : (V347 0 60).toInt = ((V 0 60)).toInt := congrArg Int32.toInt ((up2_k hV347 (by decide)).trans ((up2_k hV20 (by decide)).trans ((ajV14 0 60 rfl).trans (up2_k hV6 (by decide)))))
                  have pq350 : (V347 0 73).toInt = ((V 0 73)).toInt := congrArg Int32.toInt ((up2_k hV347 (by decide)).trans ((up2_k hV20 (by decide)).trans ((ajV14 0 73 rfl).trans (up2_k hV6 (by decide)))))
                  have pq351 : (V347 0 76).toInt = 0 := (congrArg Int32.toInt ((up2_k hV347 (by decide)).trans (up2_s hV20))).trans (by decide)
                  have pq352 : (V347 0 69).toInt = ((V14 0 69)).toInt := congrArg Int32.toInt ((up2_k hV347 (by decide)).trans (up2_k hV20 (by decide)))
                  have pq353 : (V347 0 95).toInt = ((V14 0 95)).toInt := congrArg Int32.toInt ((up2_k hV347 (by decide)).trans (up2_k hV20 (by decide)))
                  have fz354 : (V 0 95).toInt = 0 := r0.2.2.2.2
                  have r0355 : RT0 V347 := RT0.ag r0 hMV (show agr [(0, 0), (0, 69), (0, 70), (0, 71), (0, 72), (0, 76), (0, 93), (0, 95), (0, 98)] [] V V347 from (agr.up (agr.up (agr.tr (agr.up agr.rf hV6 rfl) ajV14 (by decide) (by decide)) hV20 rfl) hV347 rfl)) ⟨⟨rfl, fun _ => rfl, fun _ => rfl, fun _ => rfl, fun _ => rfl, fun _ => rfl, fun _ => rfl⟩, by decide, by decide, rfl, rfl, fun _ => rfl, fun _ => rfl, fun _ => rfl⟩ (c0k.ag (show agr [(0, 0), (0, 69), (0, 70), (0, 71), (0, 72), (0, 76), (0, 93), (0, 95), (0, 98)] [] V V347 from (agr.up (agr.up (agr.tr (agr.up agr.rf hV6 rfl) ajV14 (by decide) (by decide)) hV20 rfl) hV347 rfl)) rfl) (by omega)
                  exact W.iret (v := 0) hx hb hr (fun t ht hW => ⟨⟨0, (V347, L), rfl, ⟨hMV347, agV347, rfl, (show (V347 0 65).toInt ≤ (V347 0 60).toInt from by first | omega | ((try (have i_t334 := Imp.go t334 (by omega))); (try (have i_t295 := Imp.go t295 (by omega))); (try (have i_r0 := Imp.go r0 (by omega))); (try (have i_r0 := Imp.go r0 (by omega))); (try (have i_t295 := Imp.go t295 (by omega))); (try (have i_t334 := Imp.go t334 (by omega))); omega)), (show (V347 0 73).toInt - (V347 0 65).toInt ≤ (V 0 73).toInt - (V 0 65).toInt + 300 from by first | omega | ((try (have i_t334 := Imp.go t334 (by omega))); (try (have i_t295 := Imp.go t295 (by omega))); (try (have i_r0 := Imp.go r0 (by omega))); (try (have i_r0 := Imp.go r0 (by omega))); (try (have i_t295 := Imp.go t295 (by omega))); (try (have i_t334 := Imp.go t334 (by omega))); omega)), (show (V347 0 76).toInt - (V347 0 69).toInt - (V347 0 73).toInt ≤ (V 0 76).toInt - (V 0 69).toInt - (V 0 73).toInt + 3000 from by first | omega | ((try (have i_t334 := Imp.go t334 (by omega))); (try (have i_t295 := Imp.go t295 (by omega))); (try (have i_r0 := Imp.go r0 (by omega))); (try (have i_r0 := Imp.go r0 (by omega))); (try (have i_t295 := Imp.go t295 (by omega))); (try (have i_t334 := Imp.go t334 (by omega))); omega)), r0355⟩, by rw [ht]; exact hP, va_K.moved hW.alike hK, hD⟩, hS.F ht⟩) hS.2.2 dX12_call_109
              · skip
                have f356 : ((V 0 54)).toInt = 0 := b_eq rfl (by decide) c329
                exfalso; first | omega | ((try (have i_t295 := Imp.go t295 (by omega))); (try (have i_r0 := Imp.go r0 (by omega))); (try (have i_r0 := Imp.go r0 (by omega))); (try (have i_t295 := Imp.go t295 (by omega))); omega)
        · skip
          have f357 : 0 ≤ p2.toInt := b_nlt rfl (by decide) c274
          refine lv_iload_n hx hb dX12_call_40 rfl (lv_at hl 3 rfl) ?_
          refine lv_aload_n hx hb dX12_call_41 rfl (lv_at hl 0 rfl) ?_
          refine va_get (D := D) (ci := 12) (v := .ref (ad 35)) (C := RX12) (T := TX12) (N := 100) hx hb hg inX12 hown hK hP 0 rfl rfl 35 (by decide) (hg _ w1745) (fun _ h9 => h9) rfl dX12_call_42 ?_
          refine lv_aload_n hx hb dX12_call_45 rfl (lv_at hl 0 rfl) ?_
          refine va_get (D := D) (ci := 12) (v := .int (V20 0 11)) (C := RX12) (T := TX12) (N := 100) hx hb hg inX12 hown hK hP 0 rfl rfl 11 (by decide) (hg _ w1721) (fun _ h9 => h9) rfl dX12_call_46 ?_
          refine g_top (v := (V 0 11)) ((up2_k hV20 (by decide)).trans ((ajV14 0 11 rfl).trans (up2_k hV6 (by decide)))) ?_
          have r358 : 0 ≤ ((V 0 11)).toInt ∧ ((V 0 11)).toInt ≤ 1 := hMV 0 11
          refine va_iald (D := D) (i := (V 0 11)) hx hb hK hP 28 27 rfl rfl (i_in (a := ((V 0 11)).toInt) rfl (by first | omega | ((try (have i_r0 := Imp.go r0 (by omega))); omega))) dX12_call_49 ?_
          refine g_top (v := (V 35 (Int32.toNatClampNeg (V 0 11)))) ((up2_o hV20 (by decide)).trans ((ajV14 35 (Int32.toNatClampNeg (V 0 11)) rfl).trans (up2_o hV6 (by decide)))) ?_
          have r359 : 0 ≤ ((V 35 (Int32.toNatClampNeg (V 0 11)))).toInt ∧ ((V 35 (Int32.toNatClampNeg (V 0 11)))).toInt ≤ 20 := hMV 35 (Int32.toNatClampNeg (V 0 11))
          refine lv_icmp_ge (tgt := 57) hx hb dX12_call_50 (by decide) (fun c360 => ?_) (fun c360 => ?_)
          · skip
            have f361 : ((V 35 (Int32.toNatClampNeg (V 0 11)))).toInt ≤ p2.toInt := b_le rfl rfl c360
            refine lv_iconst (v := 0) hx hb dX12_call_57 (by decide) ?_
            refine lv_istore (lv' := [(5, .int 0), (0, .ref (ad 0)), (1, .int p0), (2, .int p1), (3, .int p2), (4, .int p3)]) hx hb dX12_call_58 hl (by decide) rfl (fun ls hl => ?_)
            refine lv_aload_n hx hb dX12_call_60 rfl (lv_at hl 1 rfl) ?_
            refine va_get (D := D) (ci := 12) (v := .int (V20 0 54)) (C := RX12) (T := TX12) (N := 100) hx hb hg inX12 hown hK hP 0 rfl rfl 54 (by decide) (hg _ w1764) (fun _ h9 => h9) rfl dX12_call_61 ?_
            refine g_top (v := (V 0 54)) ((up2_k hV20 (by decide)).trans ((ajV14 0 54 rfl).trans (up2_k hV6 (by decide)))) ?_
            have r362 : 0 ≤ ((V 0 54)).toInt ∧ ((V 0 54)).toInt ≤ 1 := hMV 0 54
            refine lv_if_eq (tgt := 80) hx hb dX12_call_64 (by decide) (fun c363 => ?_) (fun c363 => ?_)
            · skip
              have f364 : ((V 0 54)).toInt = 0 := b_eq rfl (by decide) c363
              refine lv_aload_n hx hb dX12_call_80 rfl (lv_at hl 1 rfl) ?_
              refine lv_aload_n hx hb dX12_call_81 rfl (lv_at hl 1 rfl) ?_
              refine va_get (D := D) (ci := 12) (v := .int (V20 0 54)) (C := RX12) (T := TX12) (N := 100) hx hb hg inX12 hown hK hP 0 rfl rfl 54 (by decide) (hg _ w1764) (fun _ h9 => h9) rfl dX12_call_82 ?_
              refine g_top (v := (V 0 54)) ((up2_k hV20 (by decide)).trans ((ajV14 0 54 rfl).trans (up2_k hV6 (by decide)))) ?_
              refine lv_if_ne (tgt := 92) hx hb dX12_call_85 (by decide) (fun c365 => ?_) (fun c365 => ?_)
              · skip
                have f366 : ((V 0 54)).toInt ≠ 0 := b_neq rfl (by decide) c365
                exfalso; first | omega | ((try (have i_r0 := Imp.go r0 (by omega))); omega)
              · skip
                have f367 : ((V 0 54)).toInt = 0 := b_eq rfl (by decide) c365
                refine lv_iconst (v := 4) hx hb dX12_call_88 (by decide) ?_
                refine lv_goto (tgt := 105) hx hb dX12_call_89 (by decide) ?_
                refine va_put (D := D) (ci := 12) (v := .int 4) (ty := tyX12 70) (C := RX12) (T := TX12) (N := 100) hx hb hg inX12 tyX12 tyX12_ok nmX12 hown hK hP hD hS 0 rfl rfl 70 (by decide) (hg _ w1780) (fun _ h9 => h9) rfl (tyX12_ok 70 (by decide)) rfl rfl (Nat.le_of_ble_eq_true rfl) dX12_call_105 (fun H locs hP hD hS => ?_)
                obtain ⟨V368, hV368⟩ : ∃ z, z = up2 V20 0 70 4 := ⟨_, rfl⟩
                have hP : va_P D vwCl (mw ad kk ks.1 V368 L) H := by rw [hV368]; exact hP
                have hD : va_D A (mw ad kk ks.1 V368 L) := by rw [hV368]; exact hD
                have hMV368 : rgd bM V368 := hMV20.put hV368 (i_full _)
                have agV368 : agr [(0, 0), (0, 60), (0, 65), (0, 68), (0, 69), (0, 70), (0, 71), (0, 72), (0, 73), (0, 76), (0, 90), (0, 91), (0, 92), (0, 93), (0, 95), (0, 96), (0, 98)] [59, 61, 62, 63, 64, 66, 67, 74, 75, 77, 78, 79, 80, 94, 97] V V368 := agV20.up hV368 rfl
                refine lv_iconst (v := 0) hx hb dX12_call_108 (by decide) ?_
                have pq369 : (V368 0 65).toInt = ((V 0 65)).toInt := congrArg Int32.toInt ((up2_k hV368 (by decide)).trans ((up2_k hV20 (by decide)).trans ((ajV14 0 65 rfl).trans (up2_k hV6 (by decide)))))
                have pq370 : (V368 0 60).toInt = ((V 0 60)).toInt := congrArg Int32.toInt ((up2_k hV368 (by decide)).trans ((up2_k hV20 (by decide)).trans ((ajV14 0 60 rfl).trans (up2_k hV6 (by decide)))))
                have pq371 : (V368 0 73).toInt = ((V 0 73)).toInt := congrArg Int32.toInt ((up2_k hV368 (by decide)).trans ((up2_k hV20 (by decide)).trans ((ajV14 0 73 rfl).trans (up2_k hV6 (by decide)))))
                have pq372 : (V368 0 76).toInt = 0 := (congrArg Int32.toInt ((up2_k hV368 (by decide)).trans (up2_s hV20))).trans (by decide)
                have pq373 : (V368 0 69).toInt = ((V14 0 69)).toInt := congrArg Int32.toInt ((up2_k hV368 (by decide)).trans (up2_k hV20 (by decide)))
                have pq374 : (V368 0 95).toInt = ((V14 0 95)).toInt := congrArg Int32.toInt ((up2_k hV368 (by decide)).trans (up2_k hV20 (by decide)))
                have fz375 : (V 0 95).toInt = 0 := r0.2.2.2.2
                have r0376 : RT0 V368 := RT0.ag r0 hMV (show agr [(0, 0), (0, 69), (0, 70), (0, 71), (0, 72), (0, 76), (0, 93), (0, 95), (0, 98)] [] V V368 from (agr.up (agr.up (agr.tr (agr.up agr.rf hV6 rfl) ajV14 (by decide) (by decide)) hV20 rfl) hV368 rfl)) ⟨⟨rfl, fun _ => rfl, fun _ => rfl, fun _ => rfl, fun _ => rfl, fun _ => rfl, fun _ => rfl⟩, by decide, by decide, rfl, rfl, fun _ => rfl, fun _ => rfl, fun _ => rfl⟩ (c0k.ag (show agr [(0, 0), (0, 69), (0, 70), (0, 71), (0, 72), (0, 76), (0, 93), (0, 95), (0, 98)] [] V V368 from (agr.up (agr.up (agr.tr (agr.up agr.rf hV6 rfl) ajV14 (by decide) (by decide)) hV20 rfl) hV368 rfl)) rfl) (by omega)
                exact W.iret (v := 0) hx hb hr (fun t ht hW => ⟨⟨0, (V368, L), rfl, ⟨hMV368, agV368, rfl, (show (V368 0 65).toInt ≤ (V368 0 60).toInt from by first | omega | ((try (have i_r0 := Imp.go r0 (by omega))); omega)), (show (V368 0 73).toInt - (V368 0 65).toInt ≤ (V 0 73).toInt - (V 0 65).toInt + 300 from by first | omega | ((try (have i_r0 := Imp.go r0 (by omega))); omega)), (show (V368 0 76).toInt - (V368 0 69).toInt - (V368 0 73).toInt ≤ (V 0 76).toInt - (V 0 69).toInt - (V 0 73).toInt + 3000 from by first | omega | ((try (have i_r0 := Imp.go r0 (by omega))); omega)), r0376⟩, by rw [ht]; exact hP, va_K.moved hW.alike hK, hD⟩, hS.F ht⟩) hS.2.2 dX12_call_109
            · skip
              have f377 : ((V 0 54)).toInt ≠ 0 := b_neq rfl (by decide) c363
              refine lv_aload_n hx hb dX12_call_67 rfl (lv_at hl 1 rfl) ?_
              refine lv_iload_n hx hb dX12_call_68 rfl (lv_at hl 2 rfl) ?_
              refine gA_int (gA_runV (As := [.int p0]) (rest := []) (ci := 12) (q0 := 0) hx hb hml hown hg hP hD hK hS hA hnw hgk (s_isScope l D ks H.size ad kk V20 L p0 hMV20 ) w2227 w2229 w126 w172 w2230 rfl rfl hdV_yX12_isScope ⟨Nat.le_of_ble_eq_true rfl, Nat.le_of_ble_eq_true rfl⟩ rfl hl.1 rfl (Nat.le_of_ble_eq_true rfl) dX12_call_69 ⟨Nat.le_of_ble_eq_true rfl, Nat.le_of_ble_eq_true rfl⟩) hP hD hK hS hA (fun z378 u379 H locs w380 hP hD hK hS => ?_)
              obtain ⟨rgz378, t381⟩ := w380
              have rgz378 : 0 ≤ z378.toInt ∧ z378.toInt ≤ 1 := rgz378
              have t381 : Imp (z378.toInt = 1) (0 ≤ p0.toInt ∧ p0.toInt < (V20 0 55).toInt) := t381
              have pq382 : (V20 0 55).toInt = ((V 0 55)).toInt := congrArg Int32.toInt ((up2_k hV20 (by decide)).trans ((ajV14 0 55 rfl).trans (up2_k hV6 (by decide))))
              have r383 : 1 ≤ ((V 0 55)).toInt ∧ ((V 0 55)).toInt ≤ 40 := hMV 0 55
              refine lv_if_eq (tgt := 80) hx hb dX12_call_72 (by decide) (fun c384 => ?_) (fun c384 => ?_)
              · skip
                have f385 : z378.toInt = 0 := b_eq rfl (by decide) c384
                refine lv_aload_n hx hb dX12_call_80 rfl (lv_at hl 1 rfl) ?_
                refine lv_aload_n hx hb dX12_call_81 rfl (lv_at hl 1 rfl) ?_
                refine va_get (D := D) (ci := 12) (v := .int (V20 0 54)) (C := RX12) (T := TX12) (N := 100) hx hb hg inX12 hown hK hP 0 rfl rfl 54 (by decide) (hg _ w1764) (fun _ h9 => h9) rfl dX12_call_82 ?_
                refine g_top (v := (V 0 54)) ((up2_k hV20 (by decide)).trans ((ajV14 0 54 rfl).trans (up2_k hV6 (by decide)))) ?_
                refine lv_if_ne (tgt := 92) hx hb dX12_call_85 (by decide) (fun c386 => ?_) (fun c386 => ?_)
                · skip
                  have f387 : ((V 0 54)).toInt ≠ 0 := b_neq rfl (by decide) c386
                  refine lv_aload_n hx hb dX12_call_92 rfl (lv_at hl 1 rfl) ?_
                  refine lv_iload_n hx hb dX12_call_93 rfl (lv_at hl 2 rfl) ?_
                  refine gA_int (gA_runV (As := [.int p0]) (rest := [.ref (ad 0)]) (ci := 12) (q0 := 0) hx hb hml hown hg hP hD hK hS hA hnw hgk (s_isScope l D ks H.size ad kk V20 L p0 hMV20 ) w2227 w2229 w126 w172 w2230 rfl rfl hdV_yX12_isScope ⟨Nat.le_of_ble_eq_true rfl, Nat.le_of_ble_eq_true rfl⟩ rfl hl.1 rfl (Nat.le_of_ble_eq_true rfl) dX12_call_94 ⟨Nat.le_of_ble_eq_true rfl, Nat.le_of_ble_eq_true rfl⟩) hP hD hK hS hA (fun z388 u389 H locs w390 hP hD hK hS => ?_)
                  obtain ⟨rgz388, t391⟩ := w390
                  have rgz388 : 0 ≤ z388.toInt ∧ z388.toInt ≤ 1 := rgz388
                  have t391 : Imp (z388.toInt = 1) (0 ≤ p0.toInt ∧ p0.toInt < (V20 0 55).toInt) := t391
                  refine lv_if_ne (tgt := 104) hx hb dX12_call_97 (by decide) (fun c392 => ?_) (fun c392 => ?_)
                  · skip
                    have f393 : z388.toInt ≠ 0 := b_neq rfl (by decide) c392
                    refine lv_iconst (v := 4) hx hb dX12_call_104 (by decide) ?_
                    refine va_put (D := D) (ci := 12) (v := .int 4) (ty := tyX12 70) (C := RX12) (T := TX12) (N := 100) hx hb hg inX12 tyX12 tyX12_ok nmX12 hown hK hP hD hS 0 rfl rfl 70 (by decide) (hg _ w1780) (fun _ h9 => h9) rfl (tyX12_ok 70 (by decide)) rfl rfl (Nat.le_of_ble_eq_true rfl) dX12_call_105 (fun H locs hP hD hS => ?_)
                    obtain ⟨V394, hV394⟩ : ∃ z, z = up2 V20 0 70 4 := ⟨_, rfl⟩
                    have hP : va_P D vwCl (mw ad kk ks.1 V394 L) H := by rw [hV394]; exact hP
                    have hD : va_D A (mw ad kk ks.1 V394 L) := by rw [hV394]; exact hD
                    have hMV394 : rgd bM V394 := hMV20.put hV394 (i_full _)
                    have agV394 : agr [(0, 0), (0, 60), (0, 65), (0, 68), (0, 69), (0, 70), (0, 71), (0, 72), (0, 73), (0, 76), (0, 90), (0, 91), (0, 92), (0, 93), (0, 95), (0, 96), (0, 98)] [59, 61, 62, 63, 64, 66, 67, 74, 75, 77, 78, 79, 80, 94, 97] V V394 := agV20.up hV394 rfl
                    refine lv_iconst (v := 0) hx hb dX12_call_108 (by decide) ?_
                    have pq395 : (V394 0 65).toInt = ((V 0 65)).toInt := congrArg Int32.toInt ((up2_k hV394 (by decide)).trans ((up2_k hV20 (by decide)).trans ((ajV14 0 65 rfl).trans (up2_k hV6 (by decide)))))
                    have pq396 : (V394 0 60).toInt = ((V 0 60)).toInt := congrArg Int32.toInt ((up2_k hV394 (by decide)).trans ((up2_k hV20 (by decide)).trans ((ajV14 0 60 rfl).trans (up2_k hV6 (by decide)))))
                    have pq397 : (V394 0 73).toInt = ((V 0 73)).toInt := congrArg Int32.toInt ((up2_k hV394 (by decide)).trans ((up2_k hV20 (by decide)).trans ((ajV14 0 73 rfl).trans (up2_k hV6 (by decide)))))
                    have pq398 : (V394 0 76).toInt = 0 := (congrArg Int32.toInt ((up2_k hV394 (by decide)).trans (up2_s hV20))).trans (by decide)
                    have pq399 : (V394 0 69).toInt = ((V14 0 69)).toInt := congrArg Int32.toInt ((up2_k hV394 (by decide)).trans (up2_k hV20 (by decide)))
                    have pq400 : (V394 0 95).toInt = ((V14 0 95)).toInt := congrArg Int32.toInt ((up2_k hV394 (by decide)).trans (up2_k hV20 (by decide)))
                    have fz401 : (V 0 95).toInt = 0 := r0.2.2.2.2
                    have r0402 : RT0 V394 := RT0.ag r0 hMV (show agr [(0, 0), (0, 69), (0, 70), (0, 71), (0, 72), (0, 76), (0, 93), (0, 95), (0, 98)] [] V V394 from (agr.up (agr.up (agr.tr (agr.up agr.rf hV6 rfl) ajV14 (by decide) (by decide)) hV20 rfl) hV394 rfl)) ⟨⟨rfl, fun _ => rfl, fun _ => rfl, fun _ => rfl, fun _ => rfl, fun _ => rfl, fun _ => rfl⟩, by decide, by decide, rfl, rfl, fun _ => rfl, fun _ => rfl, fun _ => rfl⟩ (c0k.ag (show agr [(0, 0), (0, 69), (0, 70), (0, 71), (0, 72), (0, 76), (0, 93), (0, 95), (0, 98)] [] V V394 from (agr.up (agr.up (agr.tr (agr.up agr.rf hV6 rfl) ajV14 (by decide) (by decide)) hV20 rfl) hV394 rfl)) rfl) (by omega)
                    exact W.iret (v := 0) hx hb hr (fun t ht hW => ⟨⟨0, (V394, L), rfl, ⟨hMV394, agV394, rfl, (show (V394 0 65).toInt ≤ (V394 0 60).toInt from by first | omega | ((try (have i_t391 := Imp.go t391 (by omega))); (try (have i_t381 := Imp.go t381 (by omega))); (try (have i_r0 := Imp.go r0 (by omega))); (try (have i_r0 := Imp.go r0 (by omega))); (try (have i_t381 := Imp.go t381 (by omega))); (try (have i_t391 := Imp.go t391 (by omega))); omega)), (show (V394 0 73).toInt - (V394 0 65).toInt ≤ (V 0 73).toInt - (V 0 65).toInt + 300 from by first | omega | ((try (have i_t391 := Imp.go t391 (by omega))); (try (have i_t381 := Imp.go t381 (by omega))); (try (have i_r0 := Imp.go r0 (by omega))); (try (have i_r0 := Imp.go r0 (by omega))); (try (have i_t381 := Imp.go t381 (by omega))); (try (have i_t391 := Imp.go t391 (by omega))); omega)), (show (V394 0 76).toInt - (V394 0 69).toInt - (V394 0 73).toInt ≤ (V 0 76).toInt - (V 0 69).toInt - (V 0 73).toInt + 3000 from by first | omega | ((try (have i_t391 := Imp.go t391 (by omega))); (try (have i_t381 := Imp.go t381 (by omega))); (try (have i_r0 := Imp.go r0 (by omega))); (try (have i_r0 := Imp.go r0 (by omega))); (try (have i_t381 := Imp.go t381 (by omega))); (try (have i_t391 := Imp.go t391 (by omega))); omega)), r0402⟩, by rw [ht]; exact hP, va_K.moved hW.alike hK, hD⟩, hS.F ht⟩) hS.2.2 dX12_call_109
                  · skip
                    have f403 : z388.toInt = 0 := b_eq rfl (by decide) c392
                    refine lv_iconst (v := 3) hx hb dX12_call_100 (by decide) ?_
                    refine lv_goto (tgt := 105) hx hb dX12_call_101 (by decide) ?_
                    refine va_put (D := D) (ci := 12) (v := .int 3) (ty := tyX12 70) (C := RX12) (T := TX12) (N := 100) hx hb hg inX12 tyX12 tyX12_ok nmX12 hown hK hP hD hS 0 rfl rfl 70 (by decide) (hg _ w1780) (fun _ h9 => h9) rfl (tyX12_ok 70 (by decide)) rfl rfl (Nat.le_of_ble_eq_true rfl) dX12_call_105 (fun H locs hP hD hS => ?_)
                    obtain ⟨V404, hV404⟩ : ∃ z, z = up2 V20 0 70 3 := ⟨_, rfl⟩
                    have hP : va_P D vwCl (mw ad kk ks.1 V404 L) H := by rw [hV404]; exact hP
                    have hD : va_D A (mw ad kk ks.1 V404 L) := by rw [hV404]; exact hD
                    have hMV404 : rgd bM V404 := hMV20.put hV404 (i_full _)
                    have agV404 : agr [(0, 0), (0, 60), (0, 65), (0, 68), (0, 69), (0, 70), (0, 71), (0, 72), (0, 73), (0, 76), (0, 90), (0, 91), (0, 92), (0, 93), (0, 95), (0, 96), (0, 98)] [59, 61, 62, 63, 64, 66, 67, 74, 75, 77, 78, 79, 80, 94, 97] V V404 := agV20.up hV404 rfl
                    refine lv_iconst (v := 0) hx hb dX12_call_108 (by decide) ?_
                    have pq405 : (V404 0 65).toInt = ((V 0 65)).toInt := congrArg Int32.toInt ((up2_k hV404 (by decide)).trans ((up2_k hV20 (by decide)).trans ((ajV14 0 65 rfl).trans (up2_k hV6 (by decide)))))
                    have pq406 : (V404 0 60).toInt = ((V 0 60)).toInt := congrArg Int32.toInt ((up2_k hV404 (by decide)).trans ((up2_k hV20 (by decide)).trans ((ajV14 0 60 rfl).trans (up2_k hV6 (by decide)))))
                    have pq407 : (V404 0 73).toInt = ((V 0 73)).toInt := congrArg Int32.toInt ((up2_k hV404 (by decide)).trans ((up2_k hV20 (by decide)).trans ((ajV14 0 73 rfl).trans (up2_k hV6 (by decide)))))
                    have pq408 : (V404 0 76).toInt = 0 := (congrArg Int32.toInt ((up2_k hV404 (by decide)).trans (up2_s hV20))).trans (by decide)
                    have pq409 : (V404 0 69).toInt = ((V14 0 69)).toInt := congrArg Int32.toInt ((up2_k hV404 (by decide)).trans (up2_k hV20 (by decide)))
                    have pq410 : (V404 0 95).toInt = ((V14 0 95)).toInt := congrArg Int32.toInt ((up2_k hV404 (by decide)).trans (up2_k hV20 (by decide)))
                    have fz411 : (V 0 95).toInt = 0 := r0.2.2.2.2
                    have r0412 : RT0 V404 := RT0.ag r0 hMV (show agr [(0, 0), (0, 69), (0, 70), (0, 71), (0, 72), (0, 76), (0, 93), (0, 95), (0, 98)] [] V V404 from (agr.up (agr.up (agr.tr (agr.up agr.rf hV6 rfl) ajV14 (by decide) (by decide)) hV20 rfl) hV404 rfl)) ⟨⟨rfl, fun _ => rfl, fun _ => rfl, fun _ => rfl, fun _ => rfl, fun _ => rfl, fun _ => rfl⟩, by decide, by decide, rfl, rfl, fun _ => rfl, fun _ => rfl, fun _ => rfl⟩ (c0k.ag (show agr [(0, 0), (0, 69), (0, 70), (0, 71), (0, 72), (0, 76), (0, 93), (0, 95), (0, 98)] [] V V404 from (agr.up (agr.up (agr.tr (agr.up agr.rf hV6 rfl) ajV14 (by decide) (by decide)) hV20 rfl) hV404 rfl)) rfl) (by omega)
                    exact W.iret (v := 0) hx hb hr (fun t ht hW => ⟨⟨0, (V404, L), rfl, ⟨hMV404, agV404, rfl, (show (V404 0 65).toInt ≤ (V404 0 60).toInt from by first | omega | ((try (have i_t391 := Imp.go t391 (by omega))); (try (have i_t381 := Imp.go t381 (by omega))); (try (have i_r0 := Imp.go r0 (by omega))); (try (have i_r0 := Imp.go r0 (by omega))); (try (have i_t381 := Imp.go t381 (by omega))); (try (have i_t391 := Imp.go t391 (by omega))); omega)), (show (V404 0 73).toInt - (V404 0 65).toInt ≤ (V 0 73).toInt - (V 0 65).toInt + 300 from by first | omega | ((try (have i_t391 := Imp.go t391 (by omega))); (try (have i_t381 := Imp.go t381 (by omega))); (try (have i_r0 := Imp.go r0 (by omega))); (try (have i_r0 := Imp.go r0 (by omega))); (try (have i_t381 := Imp.go t381 (by omega))); (try (have i_t391 := Imp.go t391 (by omega))); omega)), (show (V404 0 76).toInt - (V404 0 69).toInt - (V404 0 73).toInt ≤ (V 0 76).toInt - (V 0 69).toInt - (V 0 73).toInt + 3000 from by first | omega | ((try (have i_t391 := Imp.go t391 (by omega))); (try (have i_t381 := Imp.go t381 (by omega))); (try (have i_r0 := Imp.go r0 (by omega))); (try (have i_r0 := Imp.go r0 (by omega))); (try (have i_t381 := Imp.go t381 (by omega))); (try (have i_t391 := Imp.go t391 (by omega))); omega)), r0412⟩, by rw [ht]; exact hP, va_K.moved hW.alike hK, hD⟩, hS.F ht⟩) hS.2.2 dX12_call_109
                · skip
                  have f413 : ((V 0 54)).toInt = 0 := b_eq rfl (by decide) c386
                  exfalso; first | omega | ((try (have i_t381 := Imp.go t381 (by omega))); (try (have i_r0 := Imp.go r0 (by omega))); (try (have i_r0 := Imp.go r0 (by omega))); (try (have i_t381 := Imp.go t381 (by omega))); omega)
              · skip
                have f414 : z378.toInt ≠ 0 := b_neq rfl (by decide) c384
                refine lv_iload hx hb dX12_call_75 (lv_at hl 0 rfl) ?_
                refine lv_if_ne (tgt := 110) hx hb dX12_call_77 (by decide) (fun q => absurd rfl q) (fun _ => ?_)
                refine lv_aload_n hx hb dX12_call_80 rfl (lv_at hl 1 rfl) ?_
                refine lv_aload_n hx hb dX12_call_81 rfl (lv_at hl 1 rfl) ?_
                refine va_get (D := D) (ci := 12) (v := .int (V20 0 54)) (C := RX12) (T := TX12) (N := 100) hx hb hg inX12 hown hK hP 0 rfl rfl 54 (by decide) (hg _ w1764) (fun _ h9 => h9) rfl dX12_call_82 ?_
                refine g_top (v := (V 0 54)) ((up2_k hV20 (by decide)).trans ((ajV14 0 54 rfl).trans (up2_k hV6 (by decide)))) ?_
                refine lv_if_ne (tgt := 92) hx hb dX12_call_85 (by decide) (fun c415 => ?_) (fun c415 => ?_)
                · skip
                  have f416 : ((V 0 54)).toInt ≠ 0 := b_neq rfl (by decide) c415
                  refine lv_aload_n hx hb dX12_call_92 rfl (lv_at hl 1 rfl) ?_
                  refine lv_iload_n hx hb dX12_call_93 rfl (lv_at hl 2 rfl) ?_
                  refine gA_int (gA_runV (As := [.int p0]) (rest := [.ref (ad 0)]) (ci := 12) (q0 := 0) hx hb hml hown hg hP hD hK hS hA hnw hgk (s_isScope l D ks H.size ad kk V20 L p0 hMV20 ) w2227 w2229 w126 w172 w2230 rfl rfl hdV_yX12_isScope ⟨Nat.le_of_ble_eq_true rfl, Nat.le_of_ble_eq_true rfl⟩ rfl hl.1 rfl (Nat.le_of_ble_eq_true rfl) dX12_call_94 ⟨Nat.le_of_ble_eq_true rfl, Nat.le_of_ble_eq_true rfl⟩) hP hD hK hS hA (fun z417 u418 H locs w419 hP hD hK hS => ?_)
                  obtain ⟨rgz417, t420⟩ := w419
                  have rgz417 : 0 ≤ z417.toInt ∧ z417.toInt ≤ 1 := rgz417
                  have t420 : Imp (z417.toInt = 1) (0 ≤ p0.toInt ∧ p0.toInt < (V20 0 55).toInt) := t420
                  refine lv_if_ne (tgt := 104) hx hb dX12_call_97 (by decide) (fun c421 => ?_) (fun c421 => ?_)
                  · skip
                    have f422 : z417.toInt ≠ 0 := b_neq rfl (by decide) c421
                    refine lv_iconst (v := 4) hx hb dX12_call_104 (by decide) ?_
                    refine va_put (D := D) (ci := 12) (v := .int 4) (ty := tyX12 70) (C := RX12) (T := TX12) (N := 100) hx hb hg inX12 tyX12 tyX12_ok nmX12 hown hK hP hD hS 0 rfl rfl 70 (by decide) (hg _ w1780) (fun _ h9 => h9) rfl (tyX12_ok 70 (by decide)) rfl rfl (Nat.le_of_ble_eq_true rfl) dX12_call_105 (fun H locs hP hD hS => ?_)
                    obtain ⟨V423, hV423⟩ : ∃ z, z = up2 V20 0 70 4 := ⟨_, rfl⟩
                    have hP : va_P D vwCl (mw ad kk ks.1 V423 L) H := by rw [hV423]; exact hP
                    have hD : va_D A (mw ad kk ks.1 V423 L) := by rw [hV423]; exact hD
                    have hMV423 : rgd bM V423 := hMV20.put hV423 (i_full _)
                    have agV423 : agr [(0, 0), (0, 60), (0, 65), (0, 68), (0, 69), (0, 70), (0, 71), (0, 72), (0, 73), (0, 76), (0, 90), (0, 91), (0, 92), (0, 93), (0, 95), (0, 96), (0, 98)] [59, 61, 62, 63, 64, 66, 67, 74, 75, 77, 78, 79, 80, 94, 97] V V423 := agV20.up hV423 rfl
                    refine lv_iconst (v := 0) hx hb dX12_call_108 (by decide) ?_
                    have pq424 : (V423 0 65).toInt = ((V 0 65)).toInt := congrArg Int32.toInt ((up2_k hV423 (by decide)).trans ((up2_k hV20 (by decide)).trans ((ajV14 0 65 rfl).trans (up2_k hV6 (by decide)))))
                    have pq425 : (V423 0 60).toInt = ((V 0 60)).toInt := congrArg Int32.toInt ((up2_k hV423 (by decide)).trans ((up2_k hV20 (by decide)).trans ((ajV14 0 60 rfl).trans (up2_k hV6 (by decide)))))
                    have pq426 : (V423 0 73).toInt = ((V 0 73)).toInt := congrArg Int32.toInt ((up2_k hV423 (by decide)).trans ((up2_k hV20 (by decide)).trans ((ajV14 0 73 rfl).trans (up2_k hV6 (by decide)))))
                    have pq427 : (V423 0 76).toInt = 0 := (congrArg Int32.toInt ((up2_k hV423 (by decide)).trans (up2_s hV20))).trans (by decide)
                    have pq428 : (V423 0 69).toInt = ((V14 0 69)).toInt := congrArg Int32.toInt ((up2_k hV423 (by decide)).trans (up2_k hV20 (by decide)))
                    have pq429 : (V423 0 95).toInt = ((V14 0 95)).toInt := congrArg Int32.toInt ((up2_k hV423 (by decide)).trans (up2_k hV20 (by decide)))
                    have fz430 : (V 0 95).toInt = 0 := r0.2.2.2.2
                    have r0431 : RT0 V423 := RT0.ag r0 hMV (show agr [(0, 0), (0, 69), (0, 70), (0, 71), (0, 72), (0, 76), (0, 93), (0, 95), (0, 98)] [] V V423 from (agr.up (agr.up (agr.tr (agr.up agr.rf hV6 rfl) ajV14 (by decide) (by decide)) hV20 rfl) hV423 rfl)) ⟨⟨rfl, fun _ => rfl, fun _ => rfl, fun _ => rfl, fun _ => rfl, fun _ => rfl, fun _ => rfl⟩, by decide, by decide, rfl, rfl, fun _ => rfl, fun _ => rfl, fun _ => rfl⟩ (c0k.ag (show agr [(0, 0), (0, 69), (0, 70), (0, 71), (0, 72), (0, 76), (0, 93), (0, 95), (0, 98)] [] V V423 from (agr.up (agr.up (agr.tr (agr.up agr.rf hV6 rfl) ajV14 (by decide) (by decide)) hV20 rfl) hV423 rfl)) rfl) (by omega)
                    exact W.iret (v := 0) hx hb hr (fun t ht hW => ⟨⟨0, (V423, L), rfl, ⟨hMV423, agV423, rfl, (show (V423 0 65).toInt ≤ (V423 0 60).toInt from by first | omega | ((try (have i_t420 := Imp.go t420 (by omega))); (try (have i_t381 := Imp.go t381 (by omega))); (try (have i_r0 := Imp.go r0 (by omega))); (try (have i_r0 := Imp.go r0 (by omega))); (try (have i_t381 := Imp.go t381 (by omega))); (try (have i_t420 := Imp.go t420 (by omega))); omega)), (show (V423 0 73).toInt - (V423 0 65).toInt ≤ (V 0 73).toInt - (V 0 65).toInt + 300 from by first | omega | ((try (have i_t420 := Imp.go t420 (by omega))); (try (have i_t381 := Imp.go t381 (by omega))); (try (have i_r0 := Imp.go r0 (by omega))); (try (have i_r0 := Imp.go r0 (by omega))); (try (have i_t381 := Imp.go t381 (by omega))); (try (have i_t420 := Imp.go t420 (by omega))); omega)), (show (V423 0 76).toInt - (V423 0 69).toInt - (V423 0 73).toInt ≤ (V 0 76).toInt - (V 0 69).toInt - (V 0 73).toInt + 3000 from by first | omega | ((try (have i_t420 := Imp.go t420 (by omega))); (try (have i_t381 := Imp.go t381 (by omega))); (try (have i_r0 := Imp.go r0 (by omega))); (try (have i_r0 := Imp.go r0 (by omega))); (try (have i_t381 := Imp.go t381 (by omega))); (try (have i_t420 := Imp.go t420 (by omega))); omega)), r0431⟩, by rw [ht]; exact hP, va_K.moved hW.alike hK, hD⟩, hS.F ht⟩) hS.2.2 dX12_call_109
                  · skip
                    have f432 : z417.toInt = 0 := b_eq rfl (by decide) c421
                    refine lv_iconst (v := 3) hx hb dX12_call_100 (by decide) ?_
                    refine lv_goto (tgt := 105) hx hb dX12_call_101 (by decide) ?_
                    refine va_put (D := D) (ci := 12) (v := .int 3) (ty := tyX12 70) (C := RX12) (T := TX12) (N := 100) hx hb hg inX12 tyX12 tyX12_ok nmX12 hown hK hP hD hS 0 rfl rfl 70 (by decide) (hg _ w1780) (fun _ h9 => h9) rfl (tyX12_ok 70 (by decide)) rfl rfl (Nat.le_of_ble_eq_true rfl) dX12_call_105 (fun H locs hP hD hS => ?_)
                    obtain ⟨V433, hV433⟩ : ∃ z, z = up2 V20 0 70 3 := ⟨_, rfl⟩
                    have hP : va_P D vwCl (mw ad kk ks.1 V433 L) H := by rw [hV433]; exact hP
                    have hD : va_D A (mw ad kk ks.1 V433 L) := by rw [hV433]; exact hD
                    have hMV433 : rgd bM V433 := hMV20.put hV433 (i_full _)
                    have agV433 : agr [(0, 0), (0, 60), (0, 65), (0, 68), (0, 69), (0, 70), (0, 71), (0, 72), (0, 73), (0, 76), (0, 90), (0, 91), (0, 92), (0, 93), (0, 95), (0, 96), (0, 98)] [59, 61, 62, 63, 64, 66, 67, 74, 75, 77, 78, 79, 80, 94, 97] V V433 := agV20.up hV433 rfl
                    refine lv_iconst (v := 0) hx hb dX12_call_108 (by decide) ?_
                    have pq434 : (V433 0 65).toInt = ((V 0 65)).toInt := congrArg Int32.toInt ((up2_k hV433 (by decide)).trans ((up2_k hV20 (by decide)).trans ((ajV14 0 65 rfl).trans (up2_k hV6 (by decide)))))
                    have pq435 : (V433 0 60).toInt = ((V 0 60)).toInt := congrArg Int32.toInt ((up2_k hV433 (by decide)).trans ((up2_k hV20 (by decide)).trans ((ajV14 0 60 rfl).trans (up2_k hV6 (by decide)))))
                    have pq436 : (V433 0 73).toInt = ((V 0 73)).toInt := congrArg Int32.toInt ((up2_k hV433 (by decide)).trans ((up2_k hV20 (by decide)).trans ((ajV14 0 73 rfl).trans (up2_k hV6 (by decide)))))
                    have pq437 : (V433 0 76).toInt = 0 := (congrArg Int32.toInt ((up2_k hV433 (by decide)).trans (up2_s hV20))).trans (by decide)
                    have pq438 : (V433 0 69).toInt = ((V14 0 69)).toInt := congrArg Int32.toInt ((up2_k hV433 (by decide)).trans (up2_k hV20 (by decide)))
                    have pq439 : (V433 0 95).toInt = ((V14 0 95)).toInt := congrArg Int32.toInt ((up2_k hV433 (by decide)).trans (up2_k hV20 (by decide)))
                    have fz440 : (V 0 95).toInt = 0 := r0.2.2.2.2
                    have r0441 : RT0 V433 := RT0.ag r0 hMV (show agr [(0, 0), (0, 69), (0, 70), (0, 71), (0, 72), (0, 76), (0, 93), (0, 95), (0, 98)] [] V V433 from (agr.up (agr.up (agr.tr (agr.up agr.rf hV6 rfl) ajV14 (by decide) (by decide)) hV20 rfl) hV433 rfl)) ⟨⟨rfl, fun _ => rfl, fun _ => rfl, fun _ => rfl, fun _ => rfl, fun _ => rfl, fun _ => rfl⟩, by decide, by decide, rfl, rfl, fun _ => rfl, fun _ => rfl, fun _ => rfl⟩ (c0k.ag (show agr [(0, 0), (0, 69), (0, 70), (0, 71), (0, 72), (0, 76), (0, 93), (0, 95), (0, 98)] [] V V433 from (agr.up (agr.up (agr.tr (agr.up agr.rf hV6 rfl) ajV14 (by decide) (by decide)) hV20 rfl) hV433 rfl)) rfl) (by omega)
                    exact W.iret (v := 0) hx hb hr (fun t ht hW => ⟨⟨0, (V433, L), rfl, ⟨hMV433, agV433, rfl, (show (V433 0 65).toInt ≤ (V433 0 60).toInt from by first | omega | ((try (have i_t420 := Imp.go t420 (by omega))); (try (have i_t381 := Imp.go t381 (by omega))); (try (have i_r0 := Imp.go r0 (by omega))); (try (have i_r0 := Imp.go r0 (by omega))); (try (have i_t381 := Imp.go t381 (by omega))); (try (have i_t420 := Imp.go t420 (by omega))); omega)), (show (V433 0 73).toInt - (V433 0 65).toInt ≤ (V 0 73).toInt - (V 0 65).toInt + 300 from by first | omega | ((try (have i_t420 := Imp.go t420 (by omega))); (try (have i_t381 := Imp.go t381 (by omega))); (try (have i_r0 := Imp.go r0 (by omega))); (try (have i_r0 := Imp.go r0 (by omega))); (try (have i_t381 := Imp.go t381 (by omega))); (try (have i_t420 := Imp.go t420 (by omega))); omega)), (show (V433 0 76).toInt - (V433 0 69).toInt - (V433 0 73).toInt ≤ (V 0 76).toInt - (V 0 69).toInt - (V 0 73).toInt + 3000 from by first | omega | ((try (have i_t420 := Imp.go t420 (by omega))); (try (have i_t381 := Imp.go t381 (by omega))); (try (have i_r0 := Imp.go r0 (by omega))); (try (have i_r0 := Imp.go r0 (by omega))); (try (have i_t381 := Imp.go t381 (by omega))); (try (have i_t420 := Imp.go t420 (by omega))); omega)), r0441⟩, by rw [ht]; exact hP, va_K.moved hW.alike hK, hD⟩, hS.F ht⟩) hS.2.2 dX12_call_109
                · skip
                  have f442 : ((V 0 54)).toInt = 0 := b_eq rfl (by decide) c415
                  exfalso; first | omega | ((try (have i_t381 := Imp.go t381 (by omega))); (try (have i_r0 := Imp.go r0 (by omega))); (try (have i_r0 := Imp.go r0 (by omega))); (try (have i_t381 := Imp.go t381 (by omega))); omega)
          · skip
            have f443 : p2.toInt < ((V 35 (Int32.toNatClampNeg (V 0 11)))).toInt := b_nle rfl rfl c360
            refine lv_iconst (v := 1) hx hb dX12_call_53 (by decide) ?_
            refine lv_goto (tgt := 58) hx hb dX12_call_54 (by decide) ?_
            refine lv_istore (lv' := [(5, .int 1), (0, .ref (ad 0)), (1, .int p0), (2, .int p1), (3, .int p2), (4, .int p3)]) hx hb dX12_call_58 hl (by decide) rfl (fun ls hl => ?_)
            refine lv_aload_n hx hb dX12_call_60 rfl (lv_at hl 1 rfl) ?_
            refine va_get (D := D) (ci := 12) (v := .int (V20 0 54)) (C := RX12) (T := TX12) (N := 100) hx hb hg inX12 hown hK hP 0 rfl rfl 54 (by decide) (hg _ w1764) (fun _ h9 => h9) rfl dX12_call_61 ?_
            refine g_top (v := (V 0 54)) ((up2_k hV20 (by decide)).trans ((ajV14 0 54 rfl).trans (up2_k hV6 (by decide)))) ?_
            have r444 : 0 ≤ ((V 0 54)).toInt ∧ ((V 0 54)).toInt ≤ 1 := hMV 0 54
            refine lv_if_eq (tgt := 80) hx hb dX12_call_64 (by decide) (fun c445 => ?_) (fun c445 => ?_)
            · skip
              have f446 : ((V 0 54)).toInt = 0 := b_eq rfl (by decide) c445
              refine lv_aload_n hx hb dX12_call_80 rfl (lv_at hl 1 rfl) ?_
              refine lv_aload_n hx hb dX12_call_81 rfl (lv_at hl 1 rfl) ?_
              refine va_get (D := D) (ci := 12) (v := .int (V20 0 54)) (C := RX12) (T := TX12) (N := 100) hx hb hg inX12 hown hK hP 0 rfl rfl 54 (by decide) (hg _ w1764) (fun _ h9 => h9) rfl dX12_call_82 ?_
              refine g_top (v := (V 0 54)) ((up2_k hV20 (by decide)).trans ((ajV14 0 54 rfl).trans (up2_k hV6 (by decide)))) ?_
              refine lv_if_ne (tgt := 92) hx hb dX12_call_85 (by decide) (fun c447 => ?_) (fun c447 => ?_)
              · skip
                have f448 : ((V 0 54)).toInt ≠ 0 := b_neq rfl (by decide) c447
                exfalso; first | omega | ((try (have i_r0 := Imp.go r0 (by omega))); omega)
              · skip
                have f449 : ((V 0 54)).toInt = 0 := b_eq rfl (by decide) c447
                refine lv_iconst (v := 4) hx hb dX12_call_88 (by decide) ?_
                refine lv_goto (tgt := 105) hx hb dX12_call_89 (by decide) ?_
                refine va_put (D := D) (ci := 12) (v := .int 4) (ty := tyX12 70) (C := RX12) (T := TX12) (N := 100) hx hb hg inX12 tyX12 tyX12_ok nmX12 hown hK hP hD hS 0 rfl rfl 70 (by decide) (hg _ w1780) (fun _ h9 => h9) rfl (tyX12_ok 70 (by decide)) rfl rfl (Nat.le_of_ble_eq_true rfl) dX12_call_105 (fun H locs hP hD hS => ?_)
                obtain ⟨V450, hV450⟩ : ∃ z, z = up2 V20 0 70 4 := ⟨_, rfl⟩
                have hP : va_P D vwCl (mw ad kk ks.1 V450 L) H := by rw [hV450]; exact hP
                have hD : va_D A (mw ad kk ks.1 V450 L) := by rw [hV450]; exact hD
                have hMV450 : rgd bM V450 := hMV20.put hV450 (i_full _)
                have agV450 : agr [(0, 0), (0, 60), (0, 65), (0, 68), (0, 69), (0, 70), (0, 71), (0, 72), (0, 73), (0, 76), (0, 90), (0, 91), (0, 92), (0, 93), (0, 95), (0, 96), (0, 98)] [59, 61, 62, 63, 64, 66, 67, 74, 75, 77, 78, 79, 80, 94, 97] V V450 := agV20.up hV450 rfl
                refine lv_iconst (v := 0) hx hb dX12_call_108 (by decide) ?_
                have pq451 : (V450 0 65).toInt = ((V 0 65)).toInt := congrArg Int32.toInt ((up2_k hV450 (by decide)).trans ((up2_k hV20 (by decide)).trans ((ajV14 0 65 rfl).trans (up2_k hV6 (by decide)))))
                have pq452 : (V450 0 60).toInt = ((V 0 60)).toInt := congrArg Int32.toInt ((up2_k hV450 (by decide)).trans ((up2_k hV20 (by decide)).trans ((ajV14 0 60 rfl).trans (up2_k hV6 (by decide)))))
                have pq453 : (V450 0 73).toInt = ((V 0 73)).toInt := congrArg Int32.toInt ((up2_k hV450 (by decide)).trans ((up2_k hV20 (by decide)).trans ((ajV14 0 73 rfl).trans (up2_k hV6 (by decide)))))
                have pq454 : (V450 0 76).toInt = 0 := (congrArg Int32.toInt ((up2_k hV450 (by decide)).trans (up2_s hV20))).trans (by decide)
                have pq455 : (V450 0 69).toInt = ((V14 0 69)).toInt := congrArg Int32.toInt ((up2_k hV450 (by decide)).trans (up2_k hV20 (by decide)))
                have pq456 : (V450 0 95).toInt = ((V14 0 95)).toInt := congrArg Int32.toInt ((up2_k hV450 (by decide)).trans (up2_k hV20 (by decide)))
                have fz457 : (V 0 95).toInt = 0 := r0.2.2.2.2
                have r0458 : RT0 V450 := RT0.ag r0 hMV (show agr [(0, 0), (0, 69), (0, 70), (0, 71), (0, 72), (0, 76), (0, 93), (0, 95), (0, 98)] [] V V450 from (agr.up (agr.up (agr.tr (agr.up agr.rf hV6 rfl) ajV14 (by decide) (by decide)) hV20 rfl) hV450 rfl)) ⟨⟨rfl, fun _ => rfl, fun _ => rfl, fun _ => rfl, fun _ => rfl, fun _ => rfl, fun _ => rfl⟩, by decide, by decide, rfl, rfl, fun _ => rfl, fun _ => rfl, fun _ => rfl⟩ (c0k.ag (show agr [(0, 0), (0, 69), (0, 70), (0, 71), (0, 72), (0, 76), (0, 93), (0, 95), (0, 98)] [] V V450 from (agr.up (agr.up (agr.tr (agr.up agr.rf hV6 rfl) ajV14 (by decide) (by decide)) hV20 rfl) hV450 rfl)) rfl) (by omega)
                exact W.iret (v := 0) hx hb hr (fun t ht hW => ⟨⟨0, (V450, L), rfl, ⟨hMV450, agV450, rfl, (show (V450 0 65).toInt ≤ (V450 0 60).toInt from by first | omega | ((try (have i_r0 := Imp.go r0 (by omega))); omega)), (show (V450 0 73).toInt - (V450 0 65).toInt ≤ (V 0 73).toInt - (V 0 65).toInt + 300 from by first | omega | ((try (have i_r0 := Imp.go r0 (by omega))); omega)), (show (V450 0 76).toInt - (V450 0 69).toInt - (V450 0 73).toInt ≤ (V 0 76).toInt - (V 0 69).toInt - (V 0 73).toInt + 3000 from by first | omega | ((try (have i_r0 := Imp.go r0 (by omega))); omega)), r0458⟩, by rw [ht]; exact hP, va_K.moved hW.alike hK, hD⟩, hS.F ht⟩) hS.2.2 dX12_call_109
            · skip
              have f459 : ((V 0 54)).toInt ≠ 0 := b_neq rfl (by decide) c445
              refine lv_aload_n hx hb dX12_call_67 rfl (lv_at hl 1 rfl) ?_
              refine lv_iload_n hx hb dX12_call_68 rfl (lv_at hl 2 rfl) ?_
              refine gA_int (gA_runV (As := [.int p0]) (rest := []) (ci := 12) (q0 := 0) hx hb hml hown hg hP hD hK hS hA hnw hgk (s_isScope l D ks H.size ad kk V20 L p0 hMV20 ) w2227 w2229 w126 w172 w2230 rfl rfl hdV_yX12_isScope ⟨Nat.le_of_ble_eq_true rfl, Nat.le_of_ble_eq_true rfl⟩ rfl hl.1 rfl (Nat.le_of_ble_eq_true rfl) dX12_call_69 ⟨Nat.le_of_ble_eq_true rfl, Nat.le_of_ble_eq_true rfl⟩) hP hD hK hS hA (fun z460 u461 H locs w462 hP hD hK hS => ?_)
              obtain ⟨rgz460, t463⟩ := w462
              have rgz460 : 0 ≤ z460.toInt ∧ z460.toInt ≤ 1 := rgz460
              have t463 : Imp (z460.toInt = 1) (0 ≤ p0.toInt ∧ p0.toInt < (V20 0 55).toInt) := t463
              have pq464 : (V20 0 55).toInt = ((V 0 55)).toInt := congrArg Int32.toInt ((up2_k hV20 (by decide)).trans ((ajV14 0 55 rfl).trans (up2_k hV6 (by decide))))
              have r465 : 1 ≤ ((V 0 55)).toInt ∧ ((V 0 55)).toInt ≤ 40 := hMV 0 55
              refine lv_if_eq (tgt := 80) hx hb dX12_call_72 (by decide) (fun c466 => ?_) (fun c466 => ?_)
              · skip
                have f467 : z460.toInt = 0 := b_eq rfl (by decide) c466
                refine lv_aload_n hx hb dX12_call_80 rfl (lv_at hl 1 rfl) ?_
                refine lv_aload_n hx hb dX12_call_81 rfl (lv_at hl 1 rfl) ?_
                refine va_get (D := D) (ci := 12) (v := .int (V20 0 54)) (C := RX12) (T := TX12) (N := 100) hx hb hg inX12 hown hK hP 0 rfl rfl 54 (by decide) (hg _ w1764) (fun _ h9 => h9) rfl dX12_call_82 ?_
                refine g_top (v := (V 0 54)) ((up2_k hV20 (by decide)).trans ((ajV14 0 54 rfl).trans (up2_k hV6 (by decide)))) ?_
                refine lv_if_ne (tgt := 92) hx hb dX12_call_85 (by decide) (fun c468 => ?_) (fun c468 => ?_)
                · skip
                  have f469 : ((V 0 54)).toInt ≠ 0 := b_neq rfl (by decide) c468
                  refine lv_aload_n hx hb dX12_call_92 rfl (lv_at hl 1 rfl) ?_
                  refine lv_iload_n hx hb dX12_call_93 rfl (lv_at hl 2 rfl) ?_
                  refine gA_int (gA_runV (As := [.int p0]) (rest := [.ref (ad 0)]) (ci := 12) (q0 := 0) hx hb hml hown hg hP hD hK hS hA hnw hgk (s_isScope l D ks H.size ad kk V20 L p0 hMV20 ) w2227 w2229 w126 w172 w2230 rfl rfl hdV_yX12_isScope ⟨Nat.le_of_ble_eq_true rfl, Nat.le_of_ble_eq_true rfl⟩ rfl hl.1 rfl (Nat.le_of_ble_eq_true rfl) dX12_call_94 ⟨Nat.le_of_ble_eq_true rfl, Nat.le_of_ble_eq_true rfl⟩) hP hD hK hS hA (fun z470 u471 H locs w472 hP hD hK hS => ?_)
                  obtain ⟨rgz470, t473⟩ := w472
                  have rgz470 : 0 ≤ z470.toInt ∧ z470.toInt ≤ 1 := rgz470
                  have t473 : Imp (z470.toInt = 1) (0 ≤ p0.toInt ∧ p0.toInt < (V20 0 55).toInt) := t473
                  refine lv_if_ne (tgt := 104) hx hb dX12_call_97 (by decide) (fun c474 => ?_) (fun c474 => ?_)
                  · skip
                    have f475 : z470.toInt ≠ 0 := b_neq rfl (by decide) c474
                    refine lv_iconst (v := 4) hx hb dX12_call_104 (by decide) ?_
                    refine va_put (D := D) (ci := 12) (v := .int 4) (ty := tyX12 70) (C := RX12) (T := TX12) (N := 100) hx hb hg inX12 tyX12 tyX12_ok nmX12 hown hK hP hD hS 0 rfl rfl 70 (by decide) (hg _ w1780) (fun _ h9 => h9) rfl (tyX12_ok 70 (by decide)) rfl rfl (Nat.le_of_ble_eq_true rfl) dX12_call_105 (fun H locs hP hD hS => ?_)
                    obtain ⟨V476, hV476⟩ : ∃ z, z = up2 V20 0 70 4 := ⟨_, rfl⟩
                    have hP : va_P D vwCl (mw ad kk ks.1 V476 L) H := by rw [hV476]; exact hP
                    have hD : va_D A (mw ad kk ks.1 V476 L) := by rw [hV476]; exact hD
                    have hMV476 : rgd bM V476 := hMV20.put hV476 (i_full _)
                    have agV476 : agr [(0, 0), (0, 60), (0, 65), (0, 68), (0, 69), (0, 70), (0, 71), (0, 72), (0, 73), (0, 76), (0, 90), (0, 91), (0, 92), (0, 93), (0, 95), (0, 96), (0, 98)] [59, 61, 62, 63, 64, 66, 67, 74, 75, 77, 78, 79, 80, 94, 97] V V476 := agV20.up hV476 rfl
                    refine lv_iconst (v := 0) hx hb dX12_call_108 (by decide) ?_
                    have pq477 : (V476 0 65).toInt = ((V 0 65)).toInt := congrArg Int32.toInt ((up2_k hV476 (by decide)).trans ((up2_k hV20 (by decide)).trans ((ajV14 0 65 rfl).trans (up2_k hV6 (by decide)))))
                    have pq478 : (V476 0 60).toInt = ((V 0 60)).toInt := congrArg Int32.toInt ((up2_k hV476 (by decide)).trans ((up2_k hV20 (by decide)).trans ((ajV14 0 60 rfl).trans (up2_k hV6 (by decide)))))
                    have pq479 : (V476 0 73).toInt = ((V 0 73)).toInt := congrArg Int32.toInt ((up2_k hV476 (by decide)).trans ((up2_k hV20 (by decide)).trans ((ajV14 0 73 rfl).trans (up2_k hV6 (by decide)))))
                    have pq480 : (V476 0 76).toInt = 0 := (congrArg Int32.toInt ((up2_k hV476 (by decide)).trans (up2_s hV20))).trans (by decide)
                    have pq481 : (V476 0 69).toInt = ((V14 0 69)).toInt := congrArg Int32.toInt ((up2_k hV476 (by decide)).trans (up2_k hV20 (by decide)))
                    have pq482 : (V476 0 95).toInt = ((V14 0 95)).toInt := congrArg Int32.toInt ((up2_k hV476 (by decide)).trans (up2_k hV20 (by decide)))
                    have fz483 : (V 0 95).toInt = 0 := r0.2.2.2.2
                    have r0484 : RT0 V476 := RT0.ag r0 hMV (show agr [(0, 0), (0, 69), (0, 70), (0, 71), (0, 72), (0, 76), (0, 93), (0, 95), (0, 98)] [] V V476 from (agr.up (agr.up (agr.tr (agr.up agr.rf hV6 rfl) ajV14 (by decide) (by decide)) hV20 rfl) hV476 rfl)) ⟨⟨rfl, fun _ => rfl, fun _ => rfl, fun _ => rfl, fun _ => rfl, fun _ => rfl, fun _ => rfl⟩, by decide, by decide, rfl, rfl, fun _ => rfl, fun _ => rfl, fun _ => rfl⟩ (c0k.ag (show agr [(0, 0), (0, 69), (0, 70), (0, 71), (0, 72), (0, 76), (0, 93), (0, 95), (0, 98)] [] V V476 from (agr.up (agr.up (agr.tr (agr.up agr.rf hV6 rfl) ajV14 (by decide) (by decide)) hV20 rfl) hV476 rfl)) rfl) (by omega)
                    exact W.iret (v := 0) hx hb hr (fun t ht hW => ⟨⟨0, (V476, L), rfl, ⟨hMV476, agV476, rfl, (show (V476 0 65).toInt ≤ (V476 0 60).toInt from by first | omega | ((try (have i_t473 := Imp.go t473 (by omega))); (try (have i_t463 := Imp.go t463 (by omega))); (try (have i_r0 := Imp.go r0 (by omega))); (try (have i_r0 := Imp.go r0 (by omega))); (try (have i_t463 := Imp.go t463 (by omega))); (try (have i_t473 := Imp.go t473 (by omega))); omega)), (show (V476 0 73).toInt - (V476 0 65).toInt ≤ (V 0 73).toInt - (V 0 65).toInt + 300 from by first | omega | ((try (have i_t473 := Imp.go t473 (by omega))); (try (have i_t463 := Imp.go t463 (by omega))); (try (have i_r0 := Imp.go r0 (by omega))); (try (have i_r0 := Imp.go r0 (by omega))); (try (have i_t463 := Imp.go t463 (by omega))); (try (have i_t473 := Imp.go t473 (by omega))); omega)), (show (V476 0 76).toInt - (V476 0 69).toInt - (V476 0 73).toInt ≤ (V 0 76).toInt - (V 0 69).toInt - (V 0 73).toInt + 3000 from by first | omega | ((try (have i_t473 := Imp.go t473 (by omega))); (try (have i_t463 := Imp.go t463 (by omega))); (try (have i_r0 := Imp.go r0 (by omega))); (try (have i_r0 := Imp.go r0 (by omega))); (try (have i_t463 := Imp.go t463 (by omega))); (try (have i_t473 := Imp.go t473 (by omega))); omega)), r0484⟩, by rw [ht]; exact hP, va_K.moved hW.alike hK, hD⟩, hS.F ht⟩) hS.2.2 dX12_call_109
                  · skip
                    have f485 : z470.toInt = 0 := b_eq rfl (by decide) c474
                    refine lv_iconst (v := 3) hx hb dX12_call_100 (by decide) ?_
                    refine lv_goto (tgt := 105) hx hb dX12_call_101 (by decide) ?_
                    refine va_put (D := D) (ci := 12) (v := .int 3) (ty := tyX12 70) (C := RX12) (T := TX12) (N := 100) hx hb hg inX12 tyX12 tyX12_ok nmX12 hown hK hP hD hS 0 rfl rfl 70 (by decide) (hg _ w1780) (fun _ h9 => h9) rfl (tyX12_ok 70 (by decide)) rfl rfl (Nat.le_of_ble_eq_true rfl) dX12_call_105 (fun H locs hP hD hS => ?_)
                    obtain ⟨V486, hV486⟩ : ∃ z, z = up2 V20 0 70 3 := ⟨_, rfl⟩
                    have hP : va_P D vwCl (mw ad kk ks.1 V486 L) H := by rw [hV486]; exact hP
                    have hD : va_D A (mw ad kk ks.1 V486 L) := by rw [hV486]; exact hD
                    have hMV486 : rgd bM V486 := hMV20.put hV486 (i_full _)
                    have agV486 : agr [(0, 0), (0, 60), (0, 65), (0, 68), (0, 69), (0, 70), (0, 71), (0, 72), (0, 73), (0, 76), (0, 90), (0, 91), (0, 92), (0, 93), (0, 95), (0, 96), (0, 98)] [59, 61, 62, 63, 64, 66, 67, 74, 75, 77, 78, 79, 80, 94, 97] V V486 := agV20.up hV486 rfl
                    refine lv_iconst (v := 0) hx hb dX12_call_108 (by decide) ?_
                    have pq487 : (V486 0 65).toInt = ((V 0 65)).toInt := congrArg Int32.toInt ((up2_k hV486 (by decide)).trans ((up2_k hV20 (by decide)).trans ((ajV14 0 65 rfl).trans (up2_k hV6 (by decide)))))
                    have pq488 : (V486 0 60).toInt = ((V 0 60)).toInt := congrArg Int32.toInt ((up2_k hV486 (by decide)).trans ((up2_k hV20 (by decide)).trans ((ajV14 0 60 rfl).trans (up2_k hV6 (by decide)))))
                    have pq489 : (V486 0 73).toInt = ((V 0 73)).toInt := congrArg Int32.toInt ((up2_k hV486 (by decide)).trans ((up2_k hV20 (by decide)).trans ((ajV14 0 73 rfl).trans (up2_k hV6 (by decide)))))
                    have pq490 : (V486 0 76).toInt = 0 := (congrArg Int32.toInt ((up2_k hV486 (by decide)).trans (up2_s hV20))).trans (by decide)
                    have pq491 : (V486 0 69).toInt = ((V14 0 69)).toInt := congrArg Int32.toInt ((up2_k hV486 (by decide)).trans (up2_k hV20 (by decide)))
                    have pq492 : (V486 0 95).toInt = ((V14 0 95)).toInt := congrArg Int32.toInt ((up2_k hV486 (by decide)).trans (up2_k hV20 (by decide)))
                    have fz493 : (V 0 95).toInt = 0 := r0.2.2.2.2
                    have r0494 : RT0 V486 := RT0.ag r0 hMV (show agr [(0, 0), (0, 69), (0, 70), (0, 71), (0, 72), (0, 76), (0, 93), (0, 95), (0, 98)] [] V V486 from (agr.up (agr.up (agr.tr (agr.up agr.rf hV6 rfl) ajV14 (by decide) (by decide)) hV20 rfl) hV486 rfl)) ⟨⟨rfl, fun _ => rfl, fun _ => rfl, fun _ => rfl, fun _ => rfl, fun _ => rfl, fun _ => rfl⟩, by decide, by decide, rfl, rfl, fun _ => rfl, fun _ => rfl, fun _ => rfl⟩ (c0k.ag (show agr [(0, 0), (0, 69), (0, 70), (0, 71), (0, 72), (0, 76), (0, 93), (0, 95), (0, 98)] [] V V486 from (agr.up (agr.up (agr.tr (agr.up agr.rf hV6 rfl) ajV14 (by decide) (by decide)) hV20 rfl) hV486 rfl)) rfl) (by omega)
                    exact W.iret (v := 0) hx hb hr (fun t ht hW => ⟨⟨0, (V486, L), rfl, ⟨hMV486, agV486, rfl, (show (V486 0 65).toInt ≤ (V486 0 60).toInt from by first | omega | ((try (have i_t473 := Imp.go t473 (by omega))); (try (have i_t463 := Imp.go t463 (by omega))); (try (have i_r0 := Imp.go r0 (by omega))); (try (have i_r0 := Imp.go r0 (by omega))); (try (have i_t463 := Imp.go t463 (by omega))); (try (have i_t473 := Imp.go t473 (by omega))); omega)), (show (V486 0 73).toInt - (V486 0 65).toInt ≤ (V 0 73).toInt - (V 0 65).toInt + 300 from by first | omega | ((try (have i_t473 := Imp.go t473 (by omega))); (try (have i_t463 := Imp.go t463 (by omega))); (try (have i_r0 := Imp.go r0 (by omega))); (try (have i_r0 := Imp.go r0 (by omega))); (try (have i_t463 := Imp.go t463 (by omega))); (try (have i_t473 := Imp.go t473 (by omega))); omega)), (show (V486 0 76).toInt - (V486 0 69).toInt - (V486 0 73).toInt ≤ (V 0 76).toInt - (V 0 69).toInt - (V 0 73).toInt + 3000 from by first | omega | ((try (have i_t473 := Imp.go t473 (by omega))); (try (have i_t463 := Imp.go t463 (by omega))); (try (have i_r0 := Imp.go r0 (by omega))); (try (have i_r0 := Imp.go r0 (by omega))); (try (have i_t463 := Imp.go t463 (by omega))); (try (have i_t473 := Imp.go t473 (by omega))); omega)), r0494⟩, by rw [ht]; exact hP, va_K.moved hW.alike hK, hD⟩, hS.F ht⟩) hS.2.2 dX12_call_109
                · skip
                  have f495 : ((V 0 54)).toInt = 0 := b_eq rfl (by decide) c468
                  exfalso; first | omega | ((try (have i_t463 := Imp.go t463 (by omega))); (try (have i_r0 := Imp.go r0 (by omega))); (try (have i_r0 := Imp.go r0 (by omega))); (try (have i_t463 := Imp.go t463 (by omega))); omega)
              · skip
                have f496 : z460.toInt ≠ 0 := b_neq rfl (by decide) c466
                refine lv_iload hx hb dX12_call_75 (lv_at hl 0 rfl) ?_
                refine lv_if_ne (tgt := 110) hx hb dX12_call_77 (by decide) (fun _ => ?_) (fun q => absurd q (by decide))
                have pq497 : (V20 0 95).toInt = ((V14 0 95)).toInt := congrArg Int32.toInt (up2_k hV20 (by decide))
                have fz498 : (V 0 95).toInt = 0 := r0.2.2.2.2
                have r0499 : RT0 V20 := RT0.ag r0 hMV (show agr [(0, 0), (0, 69), (0, 71), (0, 72), (0, 76), (0, 93), (0, 95), (0, 98)] [] V V20 from (agr.up (agr.tr (agr.up agr.rf hV6 rfl) ajV14 (by decide) (by decide)) hV20 rfl)) ⟨⟨rfl, fun _ => rfl, fun _ => rfl, fun _ => rfl, fun _ => rfl, fun _ => rfl, fun _ => rfl⟩, by decide, by decide, rfl, rfl, fun _ => rfl, fun _ => rfl, fun _ => rfl⟩ (c0k.ag (show agr [(0, 0), (0, 69), (0, 71), (0, 72), (0, 76), (0, 93), (0, 95), (0, 98)] [] V V20 from (agr.up (agr.tr (agr.up agr.rf hV6 rfl) ajV14 (by decide) (by decide)) hV20 rfl)) rfl) (by omega)
                have pq500 : (V20 0 54).toInt = ((V 0 54)).toInt := congrArg Int32.toInt ((up2_k hV20 (by decide)).trans ((ajV14 0 54 rfl).trans (up2_k hV6 (by decide))))
                have rt501 : RT V20 := RT0.rt r0499 (by first | omega | ((try (have i_t463 := Imp.go t463 (by omega))); (try (have i_r0 := Imp.go r0 (by omega))); (try (have i_r0 := Imp.go r0 (by omega))); (try (have i_t463 := Imp.go t463 (by omega))); omega))
                refine lv_aload_n hx hb dX12_call_110 rfl (lv_at hl 1 rfl) ?_
                refine lv_aload_n hx hb dX12_call_111 rfl (lv_at hl 1 rfl) ?_
                refine lv_iload_n hx hb dX12_call_112 rfl (lv_at hl 3 rfl) ?_
                refine lv_iload_n hx hb dX12_call_113 rfl (lv_at hl 4 rfl) ?_
                refine lv_iload_n hx hb dX12_call_114 rfl (lv_at hl 2 rfl) ?_
                refine lv_iload hx hb dX12_call_115 (lv_at hl 5 rfl) ?_
                have pq502 : (V20 0 65).toInt = ((V 0 65)).toInt := congrArg Int32.toInt ((up2_k hV20 (by decide)).trans ((ajV14 0 65 rfl).trans (up2_k hV6 (by decide))))
                have pq503 : (V20 0 60).toInt = ((V 0 60)).toInt := congrArg Int32.toInt ((up2_k hV20 (by decide)).trans ((ajV14 0 60 rfl).trans (up2_k hV6 (by decide))))
                have pq504 : (V20 0 73).toInt = ((V 0 73)).toInt := congrArg Int32.toInt ((up2_k hV20 (by decide)).trans ((ajV14 0 73 rfl).trans (up2_k hV6 (by decide))))
                have pq505 : (V20 0 76).toInt = 0 := (congrArg Int32.toInt (up2_s hV20)).trans (by decide)
                have pq506 : (V20 0 69).toInt = ((V14 0 69)).toInt := congrArg Int32.toInt (up2_k hV20 (by decide))
                have pq507 : (V20 0 98).toInt = ((V14 0 98)).toInt := congrArg Int32.toInt (up2_k hV20 (by decide))
                refine gA_int (gA_runV (As := [.int p1, .int p2, .int p0, .int p3]) (rest := [.ref (ad 0)]) (ci := 12) (q0 := 0) hx hb hml hown hg hP hD hK hS hA hnw hgk (s_callsT l D ks H.size ad kk V20 L p1 p2 p0 p3 hMV20 (by first | omega | ((try (have i_t463 := Imp.go t463 (by omega))); (try (have i_r0 := Imp.go r0 (by omega))); (try (have i_r0 := Imp.go r0 (by omega))); (try (have i_t463 := Imp.go t463 (by omega))); omega)) (by first | omega | ((try (have i_t463 := Imp.go t463 (by omega))); (try (have i_r0 := Imp.go r0 (by omega))); (try (have i_r0 := Imp.go r0 (by omega))); (try (have i_t463 := Imp.go t463 (by omega))); omega)) (by first | omega | ((try (have i_t463 := Imp.go t463 (by omega))); (try (have i_r0 := Imp.go r0 (by omega))); (try (have i_r0 := Imp.go r0 (by omega))); (try (have i_t463 := Imp.go t463 (by omega))); omega)) rt501 (show (V20 0 65).toInt ≤ (V20 0 60).toInt from by first | omega | ((try (have i_t463 := Imp.go t463 (by omega))); (try (have i_r0 := Imp.go r0 (by omega))); (try (have i_r0 := Imp.go r0 (by omega))); (try (have i_t463 := Imp.go t463 (by omega))); omega)) (show (V20 0 95).toInt ≤ (V20 0 65).toInt from by first | omega | ((try (have i_t463 := Imp.go t463 (by omega))); (try (have i_r0 := Imp.go r0 (by omega))); (try (have i_r0 := Imp.go r0 (by omega))); (try (have i_t463 := Imp.go t463 (by omega))); omega)) (show (V20 0 73).toInt + (V20 0 95).toInt - (V20 0 65).toInt ≤ 999000 from by first | omega | ((try (have i_t463 := Imp.go t463 (by omega))); (try (have i_r0 := Imp.go r0 (by omega))); (try (have i_r0 := Imp.go r0 (by omega))); (try (have i_t463 := Imp.go t463 (by omega))); omega)) (show (V20 0 76).toInt - (V20 0 69).toInt - (V20 0 73).toInt ≤ 1000000000 from by first | omega | ((try (have i_t463 := Imp.go t463 (by omega))); (try (have i_r0 := Imp.go r0 (by omega))); (try (have i_r0 := Imp.go r0 (by omega))); (try (have i_t463 := Imp.go t463 (by omega))); omega)) (show p1.toInt < (V20 0 60).toInt from by first | omega | ((try (have i_t463 := Imp.go t463 (by omega))); (try (have i_r0 := Imp.go r0 (by omega))); (try (have i_r0 := Imp.go r0 (by omega))); (try (have i_t463 := Imp.go t463 (by omega))); omega)) (show (V20 0 98).toInt + 400 * 10 ≤ 19000 from by first | omega | ((try (have i_t463 := Imp.go t463 (by omega))); (try (have i_r0 := Imp.go r0 (by omega))); (try (have i_r0 := Imp.go r0 (by omega))); (try (have i_t463 := Imp.go t463 (by omega))); omega))) w2320 w2322 w148 w172 w2323 rfl rfl hdV_yX12_calls ⟨Nat.le_of_ble_eq_true rfl, Nat.le_of_ble_eq_true rfl⟩ rfl hl.1 rfl (Nat.le_of_ble_eq_true rfl) dX12_call_117 ⟨Nat.le_of_ble_eq_true rfl, Nat.le_of_ble_eq_true rfl⟩) hP hD hK hS hA (fun z508 u509 H locs w510 hP hD hK hS => ?_)
                obtain ⟨V523, L524⟩ := u509
                obtain ⟨hMV523, ajV523, axL524, rgz508, t511, t512, t513, t514, t515, t516, t517, t518, t519, t520, t521, t522⟩ := w510
                have axL524 : L = L524 := Eq.symm axL524
                subst axL524
                have hP : va_P D vwCl (mw ad kk ks.1 V523 L) H := hP
                have hD : va_D A (mw ad kk ks.1 V523 L) := hD
                have hMV523 : rgd bM V523 := hMV523
                have ajV523 : agr [(0, 60), (0, 65), (0, 68), (0, 69), (0, 73), (0, 76), (0, 90), (0, 91), (0, 92), (0, 93), (0, 95), (0, 96), (0, 98)] [59, 61, 62, 63, 64, 66, 67, 74, 75, 77, 78, 79, 80, 94, 97] V20 V523 := ajV523
                have agV523 : agr [(0, 0), (0, 60), (0, 65), (0, 68), (0, 69), (0, 70), (0, 71), (0, 72), (0, 73), (0, 76), (0, 90), (0, 91), (0, 92), (0, 93), (0, 95), (0, 96), (0, 98)] [59, 61, 62, 63, 64, 66, 67, 74, 75, 77, 78, 79, 80, 94, 97] V V523 := agV20.tr ajV523 (by decide) (by decide)
                have rgz508 : 0 ≤ z508.toInt ∧ z508.toInt ≤ 2 := rgz508
                have t511 : (V523 0 93).toInt = (V20 0 93).toInt := t511
                have t512 : (V523 0 98).toInt = (V20 0 98).toInt := t512
                have t513 : (V20 0 60).toInt ≤ (V523 0 60).toInt := t513
                have t514 : (V20 0 65).toInt ≤ (V523 0 65).toInt := t514
                have t515 : (V523 0 65).toInt - (V20 0 65).toInt ≤ (V523 0 60).toInt - (V20 0 60).toInt := t515
                have t516 : (V523 0 73).toInt + (V523 0 95).toInt - (V523 0 65).toInt ≤ (V20 0 73).toInt + (V20 0 95).toInt - (V20 0 65).toInt := t516
                have t517 : (V20 0 73).toInt ≤ (V523 0 73).toInt := t517
                have t518 : (V20 0 69).toInt ≤ (V523 0 69).toInt := t518
                have t519 : (V523 0 95).toInt = (V20 0 95).toInt := t519
                have t520 : (V523 0 76).toInt - (V523 0 69).toInt - (V523 0 73).toInt ≤ (V20 0 76).toInt - (V20 0 69).toInt - (V20 0 73).toInt := t520
                have t521 : RT V523 := t521
                have t522 : FRM V20 V523 (-1) := t522
                have pq525 : (V20 0 93).toInt = ((V14 0 93)).toInt := congrArg Int32.toInt (up2_k hV20 (by decide))
                have r526 : 0 ≤ ((V523 0 93)).toInt ∧ ((V523 0 93)).toInt ≤ 10 := hMV523 0 93
                have r527 : 0 ≤ ((V523 0 98)).toInt ∧ ((V523 0 98)).toInt ≤ 20000 := hMV523 0 98
                have r528 : 0 ≤ ((V523 0 60)).toInt ∧ ((V523 0 60)).toInt ≤ 300 := hMV523 0 60
                have r529 : 0 ≤ ((V523 0 65)).toInt ∧ ((V523 0 65)).toInt ≤ 1000000 := hMV523 0 65
                have r530 : 0 ≤ ((V523 0 73)).toInt ∧ ((V523 0 73)).toInt ≤ 1000000 := hMV523 0 73
                have r531 : 0 ≤ ((V523 0 95)).toInt ∧ ((V523 0 95)).toInt ≤ 300 := hMV523 0 95
                have r532 : 0 ≤ ((V523 0 69)).toInt ∧ ((V523 0 69)).toInt ≤ 3000 := hMV523 0 69
                have r533 : 0 ≤ ((V523 0 76)).toInt ∧ ((V523 0 76)).toInt ≤ 2000000000 := hMV523 0 76
                have pq534 : (V523 0 54).toInt = ((V 0 54)).toInt := congrArg Int32.toInt ((ajV523 0 54 rfl).trans ((up2_k hV20 (by decide)).trans ((ajV14 0 54 rfl).trans (up2_k hV6 (by decide)))))
                have r0535 : RT0 V523 := RT.r0 t521 (by first | omega | ((try (have i_t463 := Imp.go t463 (by omega))); (try (have i_r0 := Imp.go r0 (by omega))); (try (have i_r0 := Imp.go r0 (by omega))); (try (have i_t463 := Imp.go t463 (by omega))); omega)) (by first | omega | ((try (have i_t463 := Imp.go t463 (by omega))); (try (have i_r0 := Imp.go r0 (by omega))); (try (have i_r0 := Imp.go r0 (by omega))); (try (have i_t463 := Imp.go t463 (by omega))); omega))
                refine gA_int (gA_runV (As := [.int z508]) (rest := []) (ci := 12) (q0 := 0) hx hb hml hown hg hP hD hK hS hA hnw hgk (s_ends l D ks H.size ad kk V523 L z508 hMV523 ) w2336 w2338 w152 w172 w2339 rfl rfl hdV_yX12_ends ⟨Nat.le_of_ble_eq_true rfl, Nat.le_of_ble_eq_true rfl⟩ rfl hl.1 rfl (Nat.le_of_ble_eq_true rfl) dX12_call_120 ⟨Nat.le_of_ble_eq_true rfl, Nat.le_of_ble_eq_true rfl⟩) hP hD hK hS hA (fun z536 u537 H locs w538 hP hD hK hS => ?_)
                obtain ⟨V539, L540⟩ := u537
                obtain ⟨hMV539, ajV539, axL540, rgz536⟩ := w538
                have axL540 : L = L540 := Eq.symm axL540
                subst axL540
                have hP : va_P D vwCl (mw ad kk ks.1 V539 L) H := hP
                have hD : va_D A (mw ad kk ks.1 V539 L) := hD
                have hMV539 : rgd bM V539 := hMV539
                have ajV539 : agr [(0, 70), (0, 71), (0, 72)] [] V523 V539 := ajV539
                have agV539 : agr [(0, 0), (0, 60), (0, 65), (0, 68), (0, 69), (0, 70), (0, 71), (0, 72), (0, 73), (0, 76), (0, 90), (0, 91), (0, 92), (0, 93), (0, 95), (0, 96), (0, 98)] [59, 61, 62, 63, 64, 66, 67, 74, 75, 77, 78, 79, 80, 94, 97] V V539 := agV523.tr ajV539 (by decide) (by decide)
                have rgz536 : 0 ≤ z536.toInt ∧ z536.toInt ≤ 1 := rgz536
                refine lv_if_eq (tgt := 133) hx hb dX12_call_123 (by decide) (fun c541 => ?_) (fun c541 => ?_)
                · skip
                  have f542 : z536.toInt = 0 := b_eq rfl (by decide) c541
                  refine lv_iconst (v := 0) hx hb dX12_call_133 (by decide) ?_
                  have pq543 : (V539 0 65).toInt = ((V523 0 65)).toInt := congrArg Int32.toInt (ajV539 0 65 rfl)
                  have pq544 : (V539 0 60).toInt = ((V523 0 60)).toInt := congrArg Int32.toInt (ajV539 0 60 rfl)
                  have pq545 : (V539 0 73).toInt = ((V523 0 73)).toInt := congrArg Int32.toInt (ajV539 0 73 rfl)
                  have pq546 : (V539 0 76).toInt = ((V523 0 76)).toInt := congrArg Int32.toInt (ajV539 0 76 rfl)
                  have pq547 : (V539 0 69).toInt = ((V523 0 69)).toInt := congrArg Int32.toInt (ajV539 0 69 rfl)
                  have pq548 : (V539 0 95).toInt = ((V523 0 95)).toInt := congrArg Int32.toInt (ajV539 0 95 rfl)
                  have fz549 : (V523 0 95).toInt = 0 := r0535.2.2.2.2
                  have r0550 : RT0 V539 := RT0.ag r0535 hMV523 (show agr [(0, 70), (0, 71), (0, 72)] [] V523 V539 from (agr.tr agr.rf ajV539 (by decide) (by decide))) ⟨⟨rfl, fun _ => rfl, fun _ => rfl, fun _ => rfl, fun _ => rfl, fun _ => rfl, fun _ => rfl⟩, by decide, by decide, rfl, rfl, fun _ => rfl, fun _ => rfl, fun _ => rfl⟩ (c0k.ag (show agr [(0, 70), (0, 71), (0, 72)] [] V523 V539 from (agr.tr agr.rf ajV539 (by decide) (by decide))) rfl) (by omega)
                  exact W.iret (v := 0) hx hb hr (fun t ht hW => ⟨⟨0, (V539, L), rfl, ⟨hMV539, agV539, rfl, (show (V539 0 65).toInt ≤ (V539 0 60).toInt from by first | omega | ((try (have i_t463 := Imp.go t463 (by omega))); (try (have i_r0 := Imp.go r0 (by omega))); (try (have i_r0 := Imp.go r0 (by omega))); (try (have i_t463 := Imp.go t463 (by omega))); omega)), (show (V539 0 73).toInt - (V539 0 65).toInt ≤ (V 0 73).toInt - (V 0 65).toInt + 300 from by first | omega | ((try (have i_t463 := Imp.go t463 (by omega))); (try (have i_r0 := Imp.go r0 (by omega))); (try (have i_r0 := Imp.go r0 (by omega))); (try (have i_t463 := Imp.go t463 (by omega))); omega)), (show (V539 0 76).toInt - (V539 0 69).toInt - (V539 0 73).toInt ≤ (V 0 76).toInt - (V 0 69).toInt - (V 0 73).toInt + 3000 from by first | omega | ((try (have i_t463 := Imp.go t463 (by omega))); (try (have i_r0 := Imp.go r0 (by omega))); (try (have i_r0 := Imp.go r0 (by omega))); (try (have i_t463 := Imp.go t463 (by omega))); omega)), r0550⟩, by rw [ht]; exact hP, va_K.moved hW.alike hK, hD⟩, hS.F ht⟩) hS.2.2 dX12_call_134
                · skip
                  have f551 : z536.toInt ≠ 0 := b_neq rfl (by decide) c541
                  refine lv_aload_n hx hb dX12_call_126 rfl (lv_at hl 1 rfl) ?_
                  refine va_get (D := D) (ci := 12) (v := .int (V539 0 96)) (C := RX12) (T := TX12) (N := 100) hx hb hg inX12 hown hK hP 0 rfl rfl 96 (by decide) (hg _ w1806) (fun _ h9 => h9) rfl dX12_call_127 ?_
                  refine g_top (v := (V523 0 96)) (ajV539 0 96 rfl) ?_
                  refine lv_goto (tgt := 134) hx hb dX12_call_130 (by decide) ?_
                  have pq552 : (V539 0 65).toInt = ((V523 0 65)).toInt := congrArg Int32.toInt (ajV539 0 65 rfl)
                  have pq553 : (V539 0 60).toInt = ((V523 0 60)).toInt := congrArg Int32.toInt (ajV539 0 60 rfl)
                  have pq554 : (V539 0 73).toInt = ((V523 0 73)).toInt := congrArg Int32.toInt (ajV539 0 73 rfl)
                  have pq555 : (V539 0 76).toInt = ((V523 0 76)).toInt := congrArg Int32.toInt (ajV539 0 76 rfl)
                  have pq556 : (V539 0 69).toInt = ((V523 0 69)).toInt := congrArg Int32.toInt (ajV539 0 69 rfl)
                  have pq557 : (V539 0 95).toInt = ((V523 0 95)).toInt := congrArg Int32.toInt (ajV539 0 95 rfl)
                  have fz558 : (V523 0 95).toInt = 0 := r0535.2.2.2.2
                  have r0559 : RT0 V539 := RT0.ag r0535 hMV523 (show agr [(0, 70), (0, 71), (0, 72)] [] V523 V539 from (agr.tr agr.rf ajV539 (by decide) (by decide))) ⟨⟨rfl, fun _ => rfl, fun _ => rfl, fun _ => rfl, fun _ => rfl, fun _ => rfl, fun _ => rfl⟩, by decide, by decide, rfl, rfl, fun _ => rfl, fun _ => rfl, fun _ => rfl⟩ (c0k.ag (show agr [(0, 70), (0, 71), (0, 72)] [] V523 V539 from (agr.tr agr.rf ajV539 (by decide) (by decide))) rfl) (by omega)
                  exact W.iret (v := (V523 0 96)) hx hb hr (fun t ht hW => ⟨⟨(V523 0 96), (V539, L), rfl, ⟨hMV539, agV539, rfl, (show (V539 0 65).toInt ≤ (V539 0 60).toInt from by first | omega | ((try (have i_t463 := Imp.go t463 (by omega))); (try (have i_r0 := Imp.go r0 (by omega))); (try (have i_r0 := Imp.go r0 (by omega))); (try (have i_t463 := Imp.go t463 (by omega))); omega)), (show (V539 0 73).toInt - (V539 0 65).toInt ≤ (V 0 73).toInt - (V 0 65).toInt + 300 from by first | omega | ((try (have i_t463 := Imp.go t463 (by omega))); (try (have i_r0 := Imp.go r0 (by omega))); (try (have i_r0 := Imp.go r0 (by omega))); (try (have i_t463 := Imp.go t463 (by omega))); omega)), (show (V539 0 76).toInt - (V539 0 69).toInt - (V539 0 73).toInt ≤ (V 0 76).toInt - (V 0 69).toInt - (V 0 73).toInt + 3000 from by first | omega | ((try (have i_t463 := Imp.go t463 (by omega))); (try (have i_r0 := Imp.go r0 (by omega))); (try (have i_r0 := Imp.go r0 (by omega))); (try (have i_t463 := Imp.go t463 (by omega))); omega)), r0559⟩, by rw [ht]; exact hP, va_K.moved hW.alike hK, hD⟩, hS.F ht⟩) hS.2.2 dX12_call_134
