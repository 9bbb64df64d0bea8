theorem w2287 : Cond.code yX12_wrapAt cX12_wrapAt 8 (some .int) ∈ GW := gw_k tk9_9 212 (rfl) rfl
theorem w2284 : Cond.methodLink RX12 529 yX12_wrapAt ∈ GW := gw_k tk9_9 209 (by decide +kernel) rfl
theorem w2286 : Cond.instanceMethod yX12_wrapAt ∈ GW := gw_k tk9_9 211 (by decide +kernel) rfl
theorem w140 : Cond.selects RX12 yX12_wrapAt yX12_wrapAt ∈ GW := gw_mem 140 (by decide +kernel) rfl
theorem hdV_yX12_wrapAt : yX12_wrapAt.cls = RX12 ∧ yX12_wrapAt.cls ≠ "java/lang/invoke/MethodHandle" ∧ yX12_wrapAt.cls ≠ "java/lang/invoke/VarHandle" ∧ (parseMethodDescriptor yX12_wrapAt.desc).map (fun d => d.parameters.length) = some 4 := by decide +kernel
theorem w2303 : Cond.code yX12_notes cX12_notes 4 none ∈ GW := gw_k tk9_9 228 (rfl) rfl
theorem w2300 : Cond.methodLink RX12 535 yX12_notes ∈ GW := gw_k tk9_9 225 (by decide +kernel) rfl
theorem w2302 : Cond.instanceMethod yX12_notes ∈ GW := gw_k tk9_9 227 (by decide +kernel) rfl
theorem w144 : Cond.selects RX12 yX12_notes yX12_notes ∈ GW := gw_mem 144 (by decide +kernel) rfl
theorem hdV_yX12_notes : yX12_notes.cls = RX12 ∧ yX12_notes.cls ≠ "java/lang/invoke/MethodHandle" ∧ yX12_notes.cls ≠ "java/lang/invoke/VarHandle" ∧ (parseMethodDescriptor yX12_notes.desc).map (fun d => d.parameters.length) = some 3 := by decide +kernel
theorem w2295 : Cond.code yX12_inside cX12_inside 11 (some .int) ∈ GW := gw_k tk9_9 220 (rfl) rfl
theorem w2292 : Cond.methodLink RX12 532 yX12_inside ∈ GW := gw_k tk9_9 217 (by decide +kernel) rfl
theorem w2294 : Cond.instanceMethod yX12_inside ∈ GW := gw_k tk9_9 219 (by decide +kernel) rfl
theorem w142 : Cond.selects RX12 yX12_inside yX12_inside ∈ GW := gw_mem 142 (by decide +kernel) rfl
theorem hdV_yX12_inside : yX12_inside.cls = RX12 ∧ yX12_inside.cls ≠ "java/lang/invoke/MethodHandle" ∧ yX12_inside.cls ≠ "java/lang/invoke/VarHandle" ∧ (parseMethodDescriptor yX12_inside.desc).map (fun d => d.parameters.length) = some 4 := by decide +kernel
theorem dk9_dX12_arounds_0_0 : dOk cX12_arounds [(0, .aload_n 0, 1), (1, .iload_n 1, 1), (2, .iload_n 2, 1), (3, .iload_n 3, 1), (4, .iconst 1, 1), (5, .invokevirtual 529, 3), (8, .istore 6, 2), (10, .iload 6, 2), (12, .ifCond .ge 14, 3), (26, .aload_n 0, 1), (27, .iconst 1, 1), (28, .iload 6, 2), (30, .iload 5, 2), (32, .invokevirtual 535, 3), (35, .aload_n 0, 1), (36, .aload_n 0, 1), (37, .getfield 137, 3), (40, .bipush 12, 2), (42, .aload_n 0, 1), (43, .getfield 286, 3), (46, .imul, 1), (47, .iload 6, 2), (49, .iadd, 1), (50, .iaload, 1)] = true ∧ dOk cX12_arounds [(51, .iload_n 2, 1), (52, .iload_n 3, 1), (53, .iload 4, 2), (55, .iload 5, 2), (57, .iload_n 1, 1), (58, .iconst 1, 1), (59, .iadd, 1), (60, .invokevirtual 538, 3), (63, .ireturn, 1), (15, .aload_n 0, 1), (16, .iload_n 2, 1), (17, .iload_n 3, 1), (18, .iload 4, 2), (20, .iload 5, 2), (22, .invokevirtual 532, 3), (25, .ireturn, 1)] = true := by decide +kernel
theorem dX12_arounds_0 : decode cX12_arounds 0 = .ok (.aload_n 0, 1) := dr9 dk9_dX12_arounds_0_0.1 0 (0, .aload_n 0, 1) rfl
theorem dX12_arounds_1 : decode cX12_arounds 1 = .ok (.iload_n 1, 1) := dr9 dk9_dX12_arounds_0_0.1 1 (1, .iload_n 1, 1) rfl
theorem dX12_arounds_2 : decode cX12_arounds 2 = .ok (.iload_n 2, 1) := dr9 dk9_dX12_arounds_0_0.1 2 (2, .iload_n 2, 1) rfl
theorem dX12_arounds_3 : decode cX12_arounds 3 = .ok (.iload_n 3, 1) := dr9 dk9_dX12_arounds_0_0.1 3 (3, .iload_n 3, 1) rfl
theorem dX12_arounds_4 : decode cX12_arounds 4 = .ok (.iconst 1, 1) := dr9 dk9_dX12_arounds_0_0.1 4 (4, .iconst 1, 1) rfl
theorem dX12_arounds_5 : decode cX12_arounds 5 = .ok (.invokevirtual 529, 3) := dr9 dk9_dX12_arounds_0_0.1 5 (5, .invokevirtual 529, 3) rfl
theorem dX12_arounds_8 : decode cX12_arounds 8 = .ok (.istore 6, 2) := dr9 dk9_dX12_arounds_0_0.1 6 (8, .istore 6, 2) rfl
theorem dX12_arounds_10 : decode cX12_arounds 10 = .ok (.iload 6, 2) := dr9 dk9_dX12_arounds_0_0.1 7 (10, .iload 6, 2) rfl
theorem dX12_arounds_12 : decode cX12_arounds 12 = .ok (.ifCond .ge 14, 3) := dr9 dk9_dX12_arounds_0_0.1 8 (12, .ifCond .ge 14, 3) rfl
theorem dX12_arounds_26 : decode cX12_arounds 26 = .ok (.aload_n 0, 1) := dr9 dk9_dX12_arounds_0_0.1 9 (26, .aload_n 0, 1) rfl
theorem dX12_arounds_27 : decode cX12_arounds 27 = .ok (.iconst 1, 1) := dr9 dk9_dX12_arounds_0_0.1 10 (27, .iconst 1, 1) rfl
theorem dX12_arounds_28 : decode cX12_arounds 28 = .ok (.iload 6, 2) := dr9 dk9_dX12_arounds_0_0.1 11 (28, .iload 6, 2) rfl
theorem dX12_arounds_30 : decode cX12_arounds 30 = .ok (.iload 5, 2) := dr9 dk9_dX12_arounds_0_0.1 12 (30, .iload 5, 2) rfl
theorem dX12_arounds_32 : decode cX12_arounds 32 = .ok (.invokevirtual 535, 3) := dr9 dk9_dX12_arounds_0_0.1 13 (32, .invokevirtual 535, 3) rfl
theorem dX12_arounds_35 : decode cX12_arounds 35 = .ok (.aload_n 0, 1) := dr9 dk9_dX12_arounds_0_0.1 14 (35, .aload_n 0, 1) rfl
theorem dX12_arounds_36 : decode cX12_arounds 36 = .ok (.aload_n 0, 1) := dr9 dk9_dX12_arounds_0_0.1 15 (36, .aload_n 0, 1) rfl
theorem dX12_arounds_37 : decode cX12_arounds 37 = .ok (.getfield 137, 3) := dr9 dk9_dX12_arounds_0_0.1 16 (37, .getfield 137, 3) rfl
theorem dX12_arounds_40 : decode cX12_arounds 40 = .ok (.bipush 12, 2) := dr9 dk9_dX12_arounds_0_0.1 17 (40, .bipush 12, 2) rfl
theorem dX12_arounds_42 : decode cX12_arounds 42 = .ok (.aload_n 0, 1) := dr9 dk9_dX12_arounds_0_0.1 18 (42, .aload_n 0, 1) rfl
theorem dX12_arounds_43 : decode cX12_arounds 43 = .ok (.getfield 286, 3) := dr9 dk9_dX12_arounds_0_0.1 19 (43, .getfield 286, 3) rfl
theorem dX12_arounds_46 : decode cX12_arounds 46 = .ok (.imul, 1) := dr9 dk9_dX12_arounds_0_0.1 20 (46, .imul, 1) rfl
theorem dX12_arounds_47 : decode cX12_arounds 47 = .ok (.iload 6, 2) := dr9 dk9_dX12_arounds_0_0.1 21 (47, .iload 6, 2) rfl
theorem dX12_arounds_49 : decode cX12_arounds 49 = .ok (.iadd, 1) := dr9 dk9_dX12_arounds_0_0.1 22 (49, .iadd, 1) rfl
theorem dX12_arounds_50 : decode cX12_arounds 50 = .ok (.iaload, 1) := dr9 dk9_dX12_arounds_0_0.1 23 (50, .iaload, 1) rfl
theorem dX12_arounds_51 : decode cX12_arounds 51 = .ok (.iload_n 2, 1) := dr9 dk9_dX12_arounds_0_0.2 0 (51, .iload_n 2, 1) rfl
theorem dX12_arounds_52 : decode cX12_arounds 52 = .ok (.iload_n 3, 1) := dr9 dk9_dX12_arounds_0_0.2 1 (52, .iload_n 3, 1) rfl
theorem dX12_arounds_53 : decode cX12_arounds 53 = .ok (.iload 4, 2) := dr9 dk9_dX12_arounds_0_0.2 2 (53, .iload 4, 2) rfl
theorem dX12_arounds_55 : decode cX12_arounds 55 = .ok (.iload 5, 2) := dr9 dk9_dX12_arounds_0_0.2 3 (55, .iload 5, 2) rfl
theorem dX12_arounds_57 : decode cX12_arounds 57 = .ok (.iload_n 1, 1) := dr9 dk9_dX12_arounds_0_0.2 4 (57, .iload_n 1, 1) rfl
theorem dX12_arounds_58 : decode cX12_arounds 58 = .ok (.iconst 1, 1) := dr9 dk9_dX12_arounds_0_0.2 5 (58, .iconst 1, 1) rfl
theorem dX12_arounds_59 : decode cX12_arounds 59 = .ok (.iadd, 1) := dr9 dk9_dX12_arounds_0_0.2 6 (59, .iadd, 1) rfl
theorem dX12_arounds_60 : decode cX12_arounds 60 = .ok (.invokevirtual 538, 3) := dr9 dk9_dX12_arounds_0_0.2 7 (60, .invokevirtual 538, 3) rfl
theorem dX12_arounds_63 : decode cX12_arounds 63 = .ok (.ireturn, 1) := dr9 dk9_dX12_arounds_0_0.2 8 (63, .ireturn, 1) rfl
theorem dX12_arounds_15 : decode cX12_arounds 15 = .ok (.aload_n 0, 1) := dr9 dk9_dX12_arounds_0_0.2 9 (15, .aload_n 0, 1) rfl
theorem dX12_arounds_16 : decode cX12_arounds 16 = .ok (.iload_n 2, 1) := dr9 dk9_dX12_arounds_0_0.2 10 (16, .iload_n 2, 1) rfl
theorem dX12_arounds_17 : decode cX12_arounds 17 = .ok (.iload_n 3, 1) := dr9 dk9_dX12_arounds_0_0.2 11 (17, .iload_n 3, 1) rfl
theorem dX12_arounds_18 : decode cX12_arounds 18 = .ok (.iload 4, 2) := dr9 dk9_dX12_arounds_0_0.2 12 (18, .iload 4, 2) rfl
theorem dX12_arounds_20 : decode cX12_arounds 20 = .ok (.iload 5, 2) := dr9 dk9_dX12_arounds_0_0.2 13 (20, .iload 5, 2) rfl
theorem dX12_arounds_22 : decode cX12_arounds 22 = .ok (.invokevirtual 532, 3) := dr9 dk9_dX12_arounds_0_0.2 14 (22, .invokevirtual 532, 3) rfl
theorem dX12_arounds_25 : decode cX12_arounds 25 = .ok (.ireturn, 1) := dr9 dk9_dX12_arounds_0_0.2 15 (25, .ireturn, 1) rfl
abbrev q_s_inside (D : va_G) (ks : KS) (ad : Nat → Nat) (kk : Nat → ClassId) (V : Vf) (L : Lf) (p0 : Int32) (p1 : Int32) (p2 : Int32) (p3 : Int32) (A : Nat → Prop) : Array Value → State → Outcome → State → Prop := va_Qi (fun (r : Int32) (u : Vf × Lf) => rgd bM u.1 ∧ agr [(0, 60), (0, 65), (0, 68), (0, 69), (0, 73), (0, 76), (0, 90), (0, 91), (0, 92), (0, 93), (0, 95), (0, 96), (0, 98)] [59, 61, 62, 63, 64, 66, 67, 74, 75, 77, 78, 79, 80, 94, 97] V u.1 ∧ u.2 = L ∧ (0 ≤ r.toInt ∧ r.toInt ≤ 2) ∧ ((u.1 0 93).toInt = (V 0 93).toInt) ∧ ((u.1 0 98).toInt = (V 0 98).toInt) ∧ ((V 0 60).toInt ≤ (u.1 0 60).toInt) ∧ ((V 0 65).toInt ≤ (u.1 0 65).toInt) ∧ ((u.1 0 65).toInt - (V 0 65).toInt ≤ (u.1 0 60).toInt - (V 0 60).toInt) ∧ ((u.1 0 73).toInt + (u.1 0 95).toInt - (u.1 0 65).toInt ≤ (V 0 73).toInt + (V 0 95).toInt - (V 0 65).toInt) ∧ ((V 0 73).toInt ≤ (u.1 0 73).toInt) ∧ ((V 0 69).toInt ≤ (u.1 0 69).toInt) ∧ ((u.1 0 95).toInt = (V 0 95).toInt) ∧ ((u.1 0 76).toInt - (u.1 0 69).toInt - (u.1 0 73).toInt ≤ (V 0 76).toInt - (V 0 69).toInt - (V 0 73).toInt + 1) ∧ (Imp (r.toInt ≠ 2) ((u.1 0 76).toInt - (u.1 0 69).toInt - (u.1 0 73).toInt ≤ (V 0 76).toInt - (V 0 69).toInt - (V 0 73).toInt)) ∧ (RT u.1) ∧ (FRM V u.1 (-1))) (fun u t => gq D A (mw ad kk ks.1 u.1 u.2) (mty kk) t) A
def K_s_inside (l : Launch) (D : va_G) (ks : KS) (d1 d2 : Nat) : Prop := ∀ (sz : Nat) (ad : Nat → Nat) (kk : Nat → ClassId) (V : Vf) (L : Lf) (p0 : Int32) (p1 : Int32) (p2 : Int32) (p3 : Int32) (hMV : rgd bM V) (rg_p0 : 0 ≤ p0.toInt ∧ p0.toInt ≤ 299) (rg_p1 : 0 ≤ p1.toInt ∧ p1.toInt ≤ 19) (rg_p2 : 0 ≤ p2.toInt ∧ p2.toInt ≤ 39) (rt : RT V) (n1 : (V 0 65).toInt ≤ (V 0 60).toInt) (n2 : (V 0 95).toInt ≤ (V 0 65).toInt) (n3 : (V 0 73).toInt + (V 0 95).toInt - (V 0 65).toInt ≤ 999000) (n4 : (V 0 76).toInt - (V 0 69).toInt - (V 0 73).toInt ≤ 1000000000) (n5 : 300 - (V 0 60).toInt ≤ (d1 : Int)) (n6 : 10 - (V 0 93).toInt ≤ (d2 : Int)) (oq1 : p0.toInt < (V 0 60).toInt) (n7 : (V 0 98).toInt + 400 * (d2 : Int) + 30 ≤ 19000) , Met l yX12_inside (Cond.code yX12_inside cX12_inside 11 (some .int) :: GW) (rK2 (4 * d1 + 40 * d2 + 13) (100 * d1 + 1000 * d2 + 500)) (va_Pc [.ref (ad 0), .int p0, .int p1, .int p2, .int p3] (gp D ks (mw ad kk ks.1 V L) (mty kk) sz)) (q_s_inside D ks ad kk V L p0 p1 p2 p3 (va_A (mw ad kk ks.1 V L) sz)) 0 0 (va_A (mw ad kk ks.1 V L) sz)