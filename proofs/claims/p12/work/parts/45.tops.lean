theorem w2234 : Cond.code yX12_begins_ cX12_begins_ 1 none ∈ GW := gw_mem 2234 (by decide +kernel) rfl
theorem w2231 : Cond.methodLink RX12 577 yX12_begins_ ∈ GW := gw_mem 2231 (by decide +kernel) rfl
theorem w2233 : Cond.instanceMethod yX12_begins_ ∈ GW := gw_mem 2233 (by decide +kernel) rfl
theorem w127 : Cond.selects RX12 yX12_begins_ yX12_begins_ ∈ GW := gw_mem 127 (by decide +kernel) rfl
theorem hdV_yX12_begins_ : yX12_begins_.cls = RX12 ∧ yX12_begins_.cls ≠ "java/lang/invoke/MethodHandle" ∧ yX12_begins_.cls ≠ "java/lang/invoke/VarHandle" ∧ (parseMethodDescriptor yX12_begins_.desc).map (fun d => d.parameters.length) = some 0 := by decide +kernel
theorem w2335 : Cond.code yX12_ends cX12_ends 2 (some .boolean) ∈ GW := gw_mem 2335 (by decide +kernel) rfl
theorem w2332 : Cond.methodLink RX12 579 yX12_ends ∈ GW := gw_mem 2332 (by decide +kernel) rfl
theorem w2334 : Cond.instanceMethod yX12_ends ∈ GW := gw_mem 2334 (by decide +kernel) rfl
theorem w152 : Cond.selects RX12 yX12_ends yX12_ends ∈ GW := gw_mem 152 (by decide +kernel) rfl
theorem hdV_yX12_ends : yX12_ends.cls = RX12 ∧ yX12_ends.cls ≠ "java/lang/invoke/MethodHandle" ∧ yX12_ends.cls ≠ "java/lang/invoke/VarHandle" ∧ (parseMethodDescriptor yX12_ends.desc).map (fun d => d.parameters.length) = some 1 := by decide +kernel
theorem dX12_close_0 : decode cX12_close 0 = .ok (.aload_n 0, 1) := by decide +kernel
theorem dX12_close_1 : decode cX12_close 1 = .ok (.iconst 0, 1) := by decide +kernel
theorem dX12_close_2 : decode cX12_close 2 = .ok (.putfield 1, 3) := by decide +kernel
theorem dX12_close_5 : decode cX12_close 5 = .ok (.aload_n 0, 1) := by decide +kernel
theorem dX12_close_6 : decode cX12_close 6 = .ok (.getfield 426, 3) := by decide +kernel
theorem dX12_close_9 : decode cX12_close 9 = .ok (.istore_n 2, 1) := by decide +kernel
theorem dX12_close_10 : decode cX12_close 10 = .ok (.aload_n 0, 1) := by decide +kernel
theorem dX12_close_11 : decode cX12_close 11 = .ok (.getfield 429, 3) := by decide +kernel
theorem dX12_close_14 : decode cX12_close 14 = .ok (.istore_n 3, 1) := by decide +kernel
theorem dX12_close_15 : decode cX12_close 15 = .ok (.aload_n 0, 1) := by decide +kernel
theorem dX12_close_16 : decode cX12_close 16 = .ok (.invokevirtual 577, 3) := by decide +kernel
theorem dX12_close_19 : decode cX12_close 19 = .ok (.aload_n 0, 1) := by decide +kernel
theorem dX12_close_20 : decode cX12_close 20 = .ok (.iload_n 2, 1) := by decide +kernel
theorem dX12_close_21 : decode cX12_close 21 = .ok (.putfield 426, 3) := by decide +kernel
theorem dX12_close_24 : decode cX12_close 24 = .ok (.aload_n 0, 1) := by decide +kernel
theorem dX12_close_25 : decode cX12_close 25 = .ok (.iload_n 3, 1) := by decide +kernel
theorem dX12_close_26 : decode cX12_close 26 = .ok (.putfield 429, 3) := by decide +kernel
theorem dX12_close_29 : decode cX12_close 29 = .ok (.aload_n 0, 1) := by decide +kernel
theorem dX12_close_30 : decode cX12_close 30 = .ok (.iload_n 1, 1) := by decide +kernel
theorem dX12_close_31 : decode cX12_close 31 = .ok (.invokevirtual 574, 3) := by decide +kernel
theorem dX12_close_34 : decode cX12_close 34 = .ok (.ifCond .ne 10, 3) := by decide +kernel
theorem dX12_close_44 : decode cX12_close 44 = .ok (.aload_n 0, 1) := by decide +kernel
theorem dX12_close_45 : decode cX12_close 45 = .ok (.iconst 0, 1) := by decide +kernel
theorem dX12_close_46 : decode cX12_close 46 = .ok (.putfield 588, 3) := by decide +kernel
theorem dX12_close_49 : decode cX12_close 49 = .ok (.aload_n 0, 1) := by decide +kernel
theorem dX12_close_50 : decode cX12_close 50 = .ok (.iload_n 1, 1) := by decide +kernel
theorem dX12_close_51 : decode cX12_close 51 = .ok (.invokevirtual 582, 3) := by decide +kernel
theorem dX12_close_54 : decode cX12_close 54 = .ok (.istore 4, 2) := by decide +kernel
theorem dX12_close_56 : decode cX12_close 56 = .ok (.aload_n 0, 1) := by decide +kernel
theorem dX12_close_57 : decode cX12_close 57 = .ok (.aload_n 0, 1) := by decide +kernel
theorem dX12_close_58 : decode cX12_close 58 = .ok (.getfield 588, 3) := by decide +kernel
theorem dX12_close_61 : decode cX12_close 61 = .ok (.ifCond .eq 8, 3) := by decide +kernel
theorem dX12_close_69 : decode cX12_close 69 = .ok (.iconst 0, 1) := by decide +kernel
theorem dX12_close_70 : decode cX12_close 70 = .ok (.putfield 423, 3) := by decide +kernel
theorem dX12_close_73 : decode cX12_close 73 = .ok (.aload_n 0, 1) := by decide +kernel
theorem dX12_close_74 : decode cX12_close 74 = .ok (.getfield 588, 3) := by decide +kernel
theorem dX12_close_77 : decode cX12_close 77 = .ok (.ifCond .eq 7, 3) := by decide +kernel
theorem dX12_close_84 : decode cX12_close 84 = .ok (.iload 4, 2) := by decide +kernel
theorem dX12_close_86 : decode cX12_close 86 = .ok (.ireturn, 1) := by decide +kernel
theorem dX12_close_64 : decode cX12_close 64 = .ok (.bipush 6, 2) := by decide +kernel
theorem dX12_close_66 : decode cX12_close 66 = .ok (.goto 4, 3) := by decide +kernel
theorem dX12_close_80 : decode cX12_close 80 = .ok (.iconst (-1), 1) := by decide +kernel
theorem dX12_close_81 : decode cX12_close 81 = .ok (.goto 5, 3) := by decide +kernel
theorem dX12_close_37 : decode cX12_close 37 = .ok (.aload_n 0, 1) := by decide +kernel
theorem dX12_close_38 : decode cX12_close 38 = .ok (.iconst 3, 1) := by decide +kernel
theorem dX12_close_39 : decode cX12_close 39 = .ok (.putfield 423, 3) := by decide +kernel
theorem dX12_close_42 : decode cX12_close 42 = .ok (.iconst (-1), 1) := by decide +kernel
theorem dX12_close_43 : decode cX12_close 43 = .ok (.ireturn, 1) := by decide +kernel
theorem dX12_get_0 : decode cX12_get 0 = .ok (.aload_n 0, 1) := by decide +kernel
theorem dX12_get_1 : decode cX12_get 1 = .ok (.iconst 0, 1) := by decide +kernel
theorem dX12_get_2 : decode cX12_get 2 = .ok (.putfield 1, 3) := by decide +kernel
theorem dX12_get_5 : decode cX12_get 5 = .ok (.aload_n 0, 1) := by decide +kernel
theorem dX12_get_6 : decode cX12_get 6 = .ok (.invokevirtual 577, 3) := by decide +kernel
theorem dX12_get_9 : decode cX12_get 9 = .ok (.aload_n 0, 1) := by decide +kernel
theorem dX12_get_10 : decode cX12_get 10 = .ok (.getfield 408, 3) := by decide +kernel
theorem dX12_get_13 : decode cX12_get 13 = .ok (.ifCond .eq 19, 3) := by decide +kernel
theorem dX12_get_32 : decode cX12_get 32 = .ok (.aload_n 0, 1) := by decide +kernel
theorem dX12_get_33 : decode cX12_get 33 = .ok (.aload_n 0, 1) := by decide +kernel
theorem dX12_get_34 : decode cX12_get 34 = .ok (.getfield 408, 3) := by decide +kernel
theorem dX12_get_37 : decode cX12_get 37 = .ok (.ifCond .ne 7, 3) := by decide +kernel
theorem dX12_get_40 : decode cX12_get 40 = .ok (.iconst 4, 1) := by decide +kernel
theorem dX12_get_41 : decode cX12_get 41 = .ok (.goto 16, 3) := by decide +kernel
theorem dX12_get_57 : decode cX12_get 57 = .ok (.putfield 423, 3) := by decide +kernel
theorem dX12_get_60 : decode cX12_get 60 = .ok (.iconst (-1), 1) := by decide +kernel
theorem dX12_get_61 : decode cX12_get 61 = .ok (.ireturn, 1) := by decide +kernel
theorem dX12_get_16 : decode cX12_get 16 = .ok (.aload_n 0, 1) := by decide +kernel
theorem dX12_get_17 : decode cX12_get 17 = .ok (.iload_n 1, 1) := by decide +kernel
theorem dX12_get_18 : decode cX12_get 18 = .ok (.invokevirtual 574, 3) := by decide +kernel
theorem dX12_get_21 : decode cX12_get 21 = .ok (.ifCond .eq 11, 3) := by decide +kernel
theorem dX12_get_44 : decode cX12_get 44 = .ok (.aload_n 0, 1) := by decide +kernel
theorem dX12_get_45 : decode cX12_get 45 = .ok (.iload_n 1, 1) := by decide +kernel
theorem dX12_get_46 : decode cX12_get 46 = .ok (.invokevirtual 574, 3) := by decide +kernel
theorem dX12_get_49 : decode cX12_get 49 = .ok (.ifCond .ne 7, 3) := by decide +kernel
theorem dX12_get_56 : decode cX12_get 56 = .ok (.iconst 4, 1) := by decide +kernel
theorem dX12_get_52 : decode cX12_get 52 = .ok (.iconst 3, 1) := by decide +kernel
theorem dX12_get_53 : decode cX12_get 53 = .ok (.goto 4, 3) := by decide +kernel
theorem dX12_get_24 : decode cX12_get 24 = .ok (.aload_n 0, 1) := by decide +kernel
theorem dX12_get_25 : decode cX12_get 25 = .ok (.iload_n 2, 1) := by decide +kernel
theorem dX12_get_26 : decode cX12_get 26 = .ok (.invokevirtual 438, 3) := by decide +kernel
theorem dX12_get_29 : decode cX12_get 29 = .ok (.ifCond .ne 33, 3) := by decide +kernel
theorem dX12_get_62 : decode cX12_get 62 = .ok (.aload_n 0, 1) := by decide +kernel
theorem dX12_get_63 : decode cX12_get 63 = .ok (.aload_n 0, 1) := by decide +kernel
theorem dX12_get_64 : decode cX12_get 64 = .ok (.iload_n 2, 1) := by decide +kernel
theorem dX12_get_65 : decode cX12_get 65 = .ok (.iload_n 1, 1) := by decide +kernel
theorem dX12_get_66 : decode cX12_get 66 = .ok (.invokevirtual 568, 3) := by decide +kernel
theorem dX12_get_69 : decode cX12_get 69 = .ok (.invokevirtual 579, 3) := by decide +kernel
theorem dX12_get_72 : decode cX12_get 72 = .ok (.ifCond .eq 10, 3) := by decide +kernel
theorem dX12_get_82 : decode cX12_get 82 = .ok (.iconst (-1), 1) := by decide +kernel
theorem dX12_get_83 : decode cX12_get 83 = .ok (.ireturn, 1) := by decide +kernel
theorem dX12_get_75 : decode cX12_get 75 = .ok (.aload_n 0, 1) := by decide +kernel
theorem dX12_get_76 : decode cX12_get 76 = .ok (.getfield 490, 3) := by decide +kernel
theorem dX12_get_79 : decode cX12_get 79 = .ok (.goto 4, 3) := by decide +kernel
theorem dX12_call_0 : decode cX12_call 0 = .ok (.aload_n 0, 1) := by decide +kernel
theorem dX12_call_1 : decode cX12_call 1 = .ok (.iconst 0, 1) := by decide +kernel
theorem dX12_call_2 : decode cX12_call 2 = .ok (.putfield 1, 3) := by decide +kernel
theorem dX12_call_5 : decode cX12_call 5 = .ok (.aload_n 0, 1) := by decide +kernel
theorem dX12_call_6 : decode cX12_call 6 = .ok (.invokevirtual 577, 3) := by decide +kernel
theorem dX12_call_9 : decode cX12_call 9 = .ok (.aload_n 0, 1) := by decide +kernel
theorem dX12_call_10 : decode cX12_call 10 = .ok (.iconst 0, 1) := by decide +kernel
theorem dX12_call_11 : decode cX12_call 11 = .ok (.putfield 420, 3) := by decide +kernel
theorem dX12_call_14 : decode cX12_call 14 = .ok (.iload_n 2, 1) := by decide +kernel
theorem dX12_call_15 : decode cX12_call 15 = .ok (.ifCond .lt 42, 3) := by decide +kernel
theorem dX12_call_57 : decode cX12_call 57 = .ok (.iconst 0, 1) := by decide +kernel
theorem dX12_call_58 : decode cX12_call 58 = .ok (.istore 5, 2) := by decide +kernel
theorem dX12_call_60 : decode cX12_call 60 = .ok (.aload_n 0, 1) := by decide +kernel
theorem dX12_call_61 : decode cX12_call 61 = .ok (.getfield 408, 3) := by decide +kernel
theorem dX12_call_64 : decode cX12_call 64 = .ok (.ifCond .eq 16, 3) := by decide +kernel
theorem dX12_call_80 : decode cX12_call 80 = .ok (.aload_n 0, 1) := by decide +kernel
theorem dX12_call_81 : decode cX12_call 81 = .ok (.aload_n 0, 1) := by decide +kernel
theorem dX12_call_82 : decode cX12_call 82 = .ok (.getfield 408, 3) := by decide +kernel
theorem dX12_call_85 : decode cX12_call 85 = .ok (.ifCond .ne 7, 3) := by decide +kernel
theorem dX12_call_88 : decode cX12_call 88 = .ok (.iconst 4, 1) := by decide +kernel
theorem dX12_call_89 : decode cX12_call 89 = .ok (.goto 16, 3) := by decide +kernel
theorem dX12_call_105 : decode cX12_call 105 = .ok (.putfield 423, 3) := by decide +kernel
theorem dX12_call_108 : decode cX12_call 108 = .ok (.iconst 0, 1) := by decide +kernel
theorem dX12_call_109 : decode cX12_call 109 = .ok (.ireturn, 1) := by decide +kernel
theorem dX12_call_67 : decode cX12_call 67 = .ok (.aload_n 0, 1) := by decide +kernel
theorem dX12_call_68 : decode cX12_call 68 = .ok (.iload_n 1, 1) := by decide +kernel
theorem dX12_call_69 : decode cX12_call 69 = .ok (.invokevirtual 574, 3) := by decide +kernel
theorem dX12_call_72 : decode cX12_call 72 = .ok (.ifCond .eq 8, 3) := by decide +kernel
theorem dX12_call_92 : decode cX12_call 92 = .ok (.aload_n 0, 1) := by decide +kernel
theorem dX12_call_93 : decode cX12_call 93 = .ok (.iload_n 1, 1) := by decide +kernel
theorem dX12_call_94 : decode cX12_call 94 = .ok (.invokevirtual 574, 3) := by decide +kernel
theorem dX12_call_97 : decode cX12_call 97 = .ok (.ifCond .ne 7, 3) := by decide +kernel
theorem dX12_call_104 : decode cX12_call 104 = .ok (.iconst 4, 1) := by decide +kernel
theorem dX12_call_100 : decode cX12_call 100 = .ok (.iconst 3, 1) := by decide +kernel
theorem dX12_call_101 : decode cX12_call 101 = .ok (.goto 4, 3) := by decide +kernel
theorem dX12_call_75 : decode cX12_call 75 = .ok (.iload 5, 2) := by decide +kernel
theorem dX12_call_77 : decode cX12_call 77 = .ok (.ifCond .ne 33, 3) := by decide +kernel
theorem dX12_call_18 : decode cX12_call 18 = .ok (.iload_n 2, 1) := by decide +kernel
theorem dX12_call_19 : decode cX12_call 19 = .ok (.aload_n 0, 1) := by decide +kernel
theorem dX12_call_20 : decode cX12_call 20 = .ok (.getfield 411, 3) := by decide +kernel
theorem dX12_call_23 : decode cX12_call 23 = .ok (.if_icmp .ge 34, 3) := by decide +kernel
theorem dX12_call_26 : decode cX12_call 26 = .ok (.aload_n 0, 1) := by decide +kernel
theorem dX12_call_27 : decode cX12_call 27 = .ok (.getfield 170, 3) := by decide +kernel
theorem dX12_call_30 : decode cX12_call 30 = .ok (.iload_n 2, 1) := by decide +kernel
theorem dX12_call_31 : decode cX12_call 31 = .ok (.iaload, 1) := by decide +kernel
theorem dX12_call_32 : decode cX12_call 32 = .ok (.iconst 1, 1) := by decide +kernel
theorem dX12_call_33 : decode cX12_call 33 = .ok (.if_icmp .ne 24, 3) := by decide +kernel
theorem dX12_call_36 : decode cX12_call 36 = .ok (.iload_n 3, 1) := by decide +kernel
theorem dX12_call_37 : decode cX12_call 37 = .ok (.ifCond .lt 20, 3) := by decide +kernel
theorem dX12_call_40 : decode cX12_call 40 = .ok (.iload_n 3, 1) := by decide +kernel
theorem dX12_call_41 : decode cX12_call 41 = .ok (.aload_n 0, 1) := by decide +kernel
theorem dX12_call_42 : decode cX12_call 42 = .ok (.getfield 110, 3) := by decide +kernel
theorem dX12_call_45 : decode cX12_call 45 = .ok (.aload_n 0, 1) := by decide +kernel
theorem dX12_call_46 : decode cX12_call 46 = .ok (.getfield 286, 3) := by decide +kernel
theorem dX12_call_49 : decode cX12_call 49 = .ok (.iaload, 1) := by decide +kernel
theorem dX12_call_50 : decode cX12_call 50 = .ok (.if_icmp .ge 7, 3) := by decide +kernel
theorem dX12_call_53 : decode cX12_call 53 = .ok (.iconst 1, 1) := by decide +kernel
theorem dX12_call_54 : decode cX12_call 54 = .ok (.goto 4, 3) := by decide +kernel
theorem dX12_call_110 : decode cX12_call 110 = .ok (.aload_n 0, 1) := by decide +kernel
theorem dX12_call_111 : decode cX12_call 111 = .ok (.aload_n 0, 1) := by decide +kernel
theorem dX12_call_112 : decode cX12_call 112 = .ok (.iload_n 2, 1) := by decide +kernel
theorem dX12_call_113 : decode cX12_call 113 = .ok (.iload_n 3, 1) := by decide +kernel
theorem dX12_call_114 : decode cX12_call 114 = .ok (.iload_n 1, 1) := by decide +kernel
theorem dX12_call_115 : decode cX12_call 115 = .ok (.iload 4, 2) := by decide +kernel
theorem dX12_call_117 : decode cX12_call 117 = .ok (.invokevirtual 566, 3) := by decide +kernel
theorem dX12_call_120 : decode cX12_call 120 = .ok (.invokevirtual 579, 3) := by decide +kernel
theorem dX12_call_123 : decode cX12_call 123 = .ok (.ifCond .eq 10, 3) := by decide +kernel
theorem dX12_call_133 : decode cX12_call 133 = .ok (.iconst 0, 1) := by decide +kernel
theorem dX12_call_134 : decode cX12_call 134 = .ok (.ireturn, 1) := by decide +kernel
theorem dX12_call_126 : decode cX12_call 126 = .ok (.aload_n 0, 1) := by decide +kernel
theorem dX12_call_127 : decode cX12_call 127 = .ok (.getfield 545, 3) := by decide +kernel
theorem dX12_call_130 : decode cX12_call 130 = .ok (.goto 4, 3) := by decide +kernel
abbrev r_s_closeAllT : Room := { frames := 1620, cells := 0, slots := 0, locals := 40680 }
abbrev q_s_closeAllT (D : va_G) (ks : KS) (ad : Nat → Nat) (kk : Nat → ClassId) (V : Vf) (L : Lf) (p0 : Int32) (A : Nat → Prop) : Array Value → State → Outcome → State → Prop := q_s_closeAll D ks ad kk V L p0 A
abbrev r_s_close2 : Room := { frames := 1621, cells := 0, slots := 0, locals := 40704 }
abbrev q_s_close2 (D : va_G) (ks : KS) (ad : Nat → Nat) (kk : Nat → ClassId) (V : Vf) (L : Lf) (p0 : Int32) (A : Nat → Prop) : Array Value → State → Outcome → State → Prop := va_Qi (fun (r : Int32) (u : Vf × Lf) => rgd bM u.1 ∧ agr [(0, 0), (0, 60), (0, 65), (0, 68), (0, 69), (0, 70), (0, 71), (0, 72), (0, 73), (0, 76), (0, 90), (0, 91), (0, 92), (0, 93), (0, 95), (0, 96), (0, 98), (0, 99)] [56, 59, 61, 62, 63, 64, 66, 67, 74, 75, 77, 78, 79, 80, 94, 97] V u.1 ∧ u.2 = L ∧ ((u.1 0 65).toInt ≤ (u.1 0 60).toInt) ∧ ((u.1 0 73).toInt - (u.1 0 65).toInt ≤ (V 0 73).toInt - (V 0 65).toInt + 300) ∧ ((u.1 0 76).toInt - (u.1 0 69).toInt - (u.1 0 73).toInt ≤ (V 0 76).toInt - (V 0 69).toInt - (V 0 73).toInt + 3000) ∧ (RT0 u.1)) (fun u t => gq D A (mw ad kk ks.1 u.1 u.2) (mty kk) t) A
abbrev r_s_get2 : Room := { frames := 1617, cells := 0, slots := 0, locals := 40647 }
abbrev q_s_get2 (D : va_G) (ks : KS) (ad : Nat → Nat) (kk : Nat → ClassId) (V : Vf) (L : Lf) (p0 : Int32) (p1 : Int32) (A : Nat → Prop) : Array Value → State → Outcome → State → Prop := va_Qi (fun (r : Int32) (u : Vf × Lf) => rgd bM u.1 ∧ agr [(0, 0), (0, 60), (0, 65), (0, 68), (0, 69), (0, 70), (0, 71), (0, 72), (0, 73), (0, 76), (0, 90), (0, 91), (0, 92), (0, 93), (0, 95), (0, 96), (0, 98)] [59, 61, 62, 63, 64, 66, 67, 74, 75, 77, 78, 79, 80, 94, 97] V u.1 ∧ u.2 = L ∧ ((u.1 0 65).toInt ≤ (u.1 0 60).toInt) ∧ ((u.1 0 73).toInt - (u.1 0 65).toInt ≤ (V 0 73).toInt - (V 0 65).toInt + 300) ∧ ((u.1 0 76).toInt - (u.1 0 69).toInt - (u.1 0 73).toInt ≤ (V 0 76).toInt - (V 0 69).toInt - (V 0 73).toInt + 3000) ∧ (RT0 u.1)) (fun u t => gq D A (mw ad kk ks.1 u.1 u.2) (mty kk) t) A
abbrev r_s_call2 : Room := { frames := 1609, cells := 0, slots := 0, locals := 40345 }
abbrev q_s_call2 (D : va_G) (ks : KS) (ad : Nat → Nat) (kk : Nat → ClassId) (V : Vf) (L : Lf) (p0 : Int32) (p1 : Int32) (p2 : Int32) (p3 : Int32) (A : Nat → Prop) : Array Value → State → Outcome → State → Prop := va_Qi (fun (r : Int32) (u : Vf × Lf) => rgd bM u.1 ∧ agr [(0, 0), (0, 60), (0, 65), (0, 68), (0, 69), (0, 70), (0, 71), (0, 72), (0, 73), (0, 76), (0, 90), (0, 91), (0, 92), (0, 93), (0, 95), (0, 96), (0, 98)] [59, 61, 62, 63, 64, 66, 67, 74, 75, 77, 78, 79, 80, 94, 97] V u.1 ∧ u.2 = L ∧ ((u.1 0 65).toInt ≤ (u.1 0 60).toInt) ∧ ((u.1 0 73).toInt - (u.1 0 65).toInt ≤ (V 0 73).toInt - (V 0 65).toInt + 300) ∧ ((u.1 0 76).toInt - (u.1 0 69).toInt - (u.1 0 73).toInt ≤ (V 0 76).toInt - (V 0 69).toInt - (V 0 73).toInt + 3000) ∧ (RT0 u.1)) (fun u t => gq D A (mw ad kk ks.1 u.1 u.2) (mty kk) t) A