theorem FRM.few {V W : Vf} {v : Int32} {x : Int} (e : W = up2 V 0 95 v) : FRM V W x := by
  have a : agr [(0, 95)] [] V W := agr.up agr.rf e rfl
  exact ⟨by rw [a 0 60 rfl]; exact Int.le_refl _, fun o _ => ⟨a 61 _ rfl, a 62 _ rfl, fun h => by rw [a 63 _ rfl]; exact h, fun h => by rw [a 63 _ rfl]; exact Int.le_refl _⟩, fun _ _ _ _ _ _ => a 66 _ rfl, fun _ _ => a 94 _ rfl⟩

theorem w2242 : Cond.code yX12_gets cX12_gets 6 (some .int) ∈ GW := gw_k tk9_9 167 (rfl) rfl
theorem w2239 : Cond.methodLink RX12 510 yX12_gets ∈ GW := gw_k tk9_9 164 (by decide +kernel) rfl
theorem w2241 : Cond.instanceMethod yX12_gets ∈ GW := gw_k tk9_9 166 (by decide +kernel) rfl
theorem w129 : Cond.selects RX12 yX12_gets yX12_gets ∈ GW := gw_mem 129 (by decide +kernel) rfl
theorem hdV_yX12_gets : yX12_gets.cls = RX12 ∧ yX12_gets.cls ≠ "java/lang/invoke/MethodHandle" ∧ yX12_gets.cls ≠ "java/lang/invoke/VarHandle" ∧ (parseMethodDescriptor yX12_gets.desc).map (fun d => d.parameters.length) = some 2 := by decide +kernel
theorem w1800 : Cond.fieldLink RX12 222 "WiringHouseModel" "fresh" "[I" ∈ GW := gw_k tk9_7 205 (by decide +kernel) rfl
theorem w2331 : Cond.code yX12_closes cX12_closes 4 (some .boolean) ∈ GW := gw_k tk9_10 16 (rfl) rfl
theorem w2328 : Cond.methodLink RX12 513 yX12_closes ∈ GW := gw_k tk9_10 13 (by decide +kernel) rfl
theorem w2330 : Cond.instanceMethod yX12_closes ∈ GW := gw_k tk9_10 15 (by decide +kernel) rfl
theorem w151 : Cond.selects RX12 yX12_closes yX12_closes ∈ GW := gw_mem 151 (by decide +kernel) rfl
theorem hdV_yX12_closes : yX12_closes.cls = RX12 ∧ yX12_closes.cls ≠ "java/lang/invoke/MethodHandle" ∧ yX12_closes.cls ≠ "java/lang/invoke/VarHandle" ∧ (parseMethodDescriptor yX12_closes.desc).map (fun d => d.parameters.length) = some 1 := by decide +kernel
theorem dk9_dX12_getsWhole_0_0 : dOk cX12_getsWhole [(0, .aload_n 0, 1), (1, .getfield 507, 3), (4, .istore_n 3, 1), (5, .aload_n 0, 1), (6, .iload_n 1, 1), (7, .iload_n 2, 1), (8, .invokevirtual 510, 3), (11, .istore 4, 2), (13, .iload 4, 2), (15, .iconst 1, 1), (16, .if_icmp .ne 80, 3), (96, .aload_n 0, 1), (97, .iload_n 3, 1), (98, .putfield 507, 3), (101, .iload 4, 2), (103, .ireturn, 1), (19, .aload_n 0, 1), (20, .getfield 471, 3), (23, .istore 5, 2), (25, .aload_n 0, 1), (26, .getfield 474, 3), (29, .istore 6, 2), (31, .iload 4, 2), (33, .istore 7, 2)] = true ∧ dOk cX12_getsWhole [(35, .aload_n 0, 1), (36, .getfield 507, 3), (39, .iload_n 3, 1), (40, .if_icmp .le 40, 3), (80, .iload 7, 2), (82, .istore 4, 2), (84, .aload_n 0, 1), (85, .iload 5, 2), (87, .putfield 471, 3), (90, .aload_n 0, 1), (91, .iload 6, 2), (93, .putfield 474, 3), (43, .aload_n 0, 1), (44, .dup, 1), (45, .getfield 507, 3), (48, .iconst 1, 1), (49, .isub, 1), (50, .putfield 507, 3), (53, .aload_n 0, 1), (54, .aload_n 0, 1), (55, .getfield 222, 3), (58, .aload_n 0, 1), (59, .getfield 507, 3), (62, .iaload, 1)] = true ∧ dOk cX12_getsWhole [(63, .invokevirtual 513, 3), (66, .ifCond .eq 7, 3), (73, .iload 7, 2), (75, .istore 7, 2), (77, .goto (-42), 3), (69, .iconst 2, 1), (70, .goto 5, 3)] = true := by decide +kernel
theorem dX12_getsWhole_0 : decode cX12_getsWhole 0 = .ok (.aload_n 0, 1) := dr9 dk9_dX12_getsWhole_0_0.1 0 (0, .aload_n 0, 1) rfl
theorem dX12_getsWhole_1 : decode cX12_getsWhole 1 = .ok (.getfield 507, 3) := dr9 dk9_dX12_getsWhole_0_0.1 1 (1, .getfield 507, 3) rfl
theorem dX12_getsWhole_4 : decode cX12_getsWhole 4 = .ok (.istore_n 3, 1) := dr9 dk9_dX12_getsWhole_0_0.1 2 (4, .istore_n 3, 1) rfl
theorem dX12_getsWhole_5 : decode cX12_getsWhole 5 = .ok (.aload_n 0, 1) := dr9 dk9_dX12_getsWhole_0_0.1 3 (5, .aload_n 0, 1) rfl
theorem dX12_getsWhole_6 : decode cX12_getsWhole 6 = .ok (.iload_n 1, 1) := dr9 dk9_dX12_getsWhole_0_0.1 4 (6, .iload_n 1, 1) rfl
theorem dX12_getsWhole_7 : decode cX12_getsWhole 7 = .ok (.iload_n 2, 1) := dr9 dk9_dX12_getsWhole_0_0.1 5 (7, .iload_n 2, 1) rfl
theorem dX12_getsWhole_8 : decode cX12_getsWhole 8 = .ok (.invokevirtual 510, 3) := dr9 dk9_dX12_getsWhole_0_0.1 6 (8, .invokevirtual 510, 3) rfl
theorem dX12_getsWhole_11 : decode cX12_getsWhole 11 = .ok (.istore 4, 2) := dr9 dk9_dX12_getsWhole_0_0.1 7 (11, .istore 4, 2) rfl
theorem dX12_getsWhole_13 : decode cX12_getsWhole 13 = .ok (.iload 4, 2) := dr9 dk9_dX12_getsWhole_0_0.1 8 (13, .iload 4, 2) rfl
theorem dX12_getsWhole_15 : decode cX12_getsWhole 15 = .ok (.iconst 1, 1) := dr9 dk9_dX12_getsWhole_0_0.1 9 (15, .iconst 1, 1) rfl
theorem dX12_getsWhole_16 : decode cX12_getsWhole 16 = .ok (.if_icmp .ne 80, 3) := dr9 dk9_dX12_getsWhole_0_0.1 10 (16, .if_icmp .ne 80, 3) rfl
theorem dX12_getsWhole_96 : decode cX12_getsWhole 96 = .ok (.aload_n 0, 1) := dr9 dk9_dX12_getsWhole_0_0.1 11 (96, .aload_n 0, 1) rfl
theorem dX12_getsWhole_97 : decode cX12_getsWhole 97 = .ok (.iload_n 3, 1) := dr9 dk9_dX12_getsWhole_0_0.1 12 (97, .iload_n 3, 1) rfl
theorem dX12_getsWhole_98 : decode cX12_getsWhole 98 = .ok (.putfield 507, 3) := dr9 dk9_dX12_getsWhole_0_0.1 13 (98, .putfield 507, 3) rfl
theorem dX12_getsWhole_101 : decode cX12_getsWhole 101 = .ok (.iload 4, 2) := dr9 dk9_dX12_getsWhole_0_0.1 14 (101, .iload 4, 2) rfl
theorem dX12_getsWhole_103 : decode cX12_getsWhole 103 = .ok (.ireturn, 1) := dr9 dk9_dX12_getsWhole_0_0.1 15 (103, .ireturn, 1) rfl
theorem dX12_getsWhole_19 : decode cX12_getsWhole 19 = .ok (.aload_n 0, 1) := dr9 dk9_dX12_getsWhole_0_0.1 16 (19, .aload_n 0, 1) rfl
theorem dX12_getsWhole_20 : decode cX12_getsWhole 20 = .ok (.getfield 471, 3) := dr9 dk9_dX12_getsWhole_0_0.1 17 (20, .getfield 471, 3) rfl
theorem dX12_getsWhole_23 : decode cX12_getsWhole 23 = .ok (.istore 5, 2) := dr9 dk9_dX12_getsWhole_0_0.1 18 (23, .istore 5, 2) rfl
theorem dX12_getsWhole_25 : decode cX12_getsWhole 25 = .ok (.aload_n 0, 1) := dr9 dk9_dX12_getsWhole_0_0.1 19 (25, .aload_n 0, 1) rfl
theorem dX12_getsWhole_26 : decode cX12_getsWhole 26 = .ok (.getfield 474, 3) := dr9 dk9_dX12_getsWhole_0_0.1 20 (26, .getfield 474, 3) rfl
theorem dX12_getsWhole_29 : decode cX12_getsWhole 29 = .ok (.istore 6, 2) := dr9 dk9_dX12_getsWhole_0_0.1 21 (29, .istore 6, 2) rfl
theorem dX12_getsWhole_31 : decode cX12_getsWhole 31 = .ok (.iload 4, 2) := dr9 dk9_dX12_getsWhole_0_0.1 22 (31, .iload 4, 2) rfl
theorem dX12_getsWhole_33 : decode cX12_getsWhole 33 = .ok (.istore 7, 2) := dr9 dk9_dX12_getsWhole_0_0.1 23 (33, .istore 7, 2) rfl
theorem dX12_getsWhole_35 : decode cX12_getsWhole 35 = .ok (.aload_n 0, 1) := dr9 dk9_dX12_getsWhole_0_0.2.1 0 (35, .aload_n 0, 1) rfl
theorem dX12_getsWhole_36 : decode cX12_getsWhole 36 = .ok (.getfield 507, 3) := dr9 dk9_dX12_getsWhole_0_0.2.1 1 (36, .getfield 507, 3) rfl
theorem dX12_getsWhole_39 : decode cX12_getsWhole 39 = .ok (.iload_n 3, 1) := dr9 dk9_dX12_getsWhole_0_0.2.1 2 (39, .iload_n 3, 1) rfl
theorem dX12_getsWhole_40 : decode cX12_getsWhole 40 = .ok (.if_icmp .le 40, 3) := dr9 dk9_dX12_getsWhole_0_0.2.1 3 (40, .if_icmp .le 40, 3) rfl
theorem dX12_getsWhole_80 : decode cX12_getsWhole 80 = .ok (.iload 7, 2) := dr9 dk9_dX12_getsWhole_0_0.2.1 4 (80, .iload 7, 2) rfl
theorem dX12_getsWhole_82 : decode cX12_getsWhole 82 = .ok (.istore 4, 2) := dr9 dk9_dX12_getsWhole_0_0.2.1 5 (82, .istore 4, 2) rfl
theorem dX12_getsWhole_84 : decode cX12_getsWhole 84 = .ok (.aload_n 0, 1) := dr9 dk9_dX12_getsWhole_0_0.2.1 6 (84, .aload_n 0, 1) rfl
theorem dX12_getsWhole_85 : decode cX12_getsWhole 85 = .ok (.iload 5, 2) := dr9 dk9_dX12_getsWhole_0_0.2.1 7 (85, .iload 5, 2) rfl
theorem dX12_getsWhole_87 : decode cX12_getsWhole 87 = .ok (.putfield 471, 3) := dr9 dk9_dX12_getsWhole_0_0.2.1 8 (87, .putfield 471, 3) rfl
theorem dX12_getsWhole_90 : decode cX12_getsWhole 90 = .ok (.aload_n 0, 1) := dr9 dk9_dX12_getsWhole_0_0.2.1 9 (90, .aload_n 0, 1) rfl
theorem dX12_getsWhole_91 : decode cX12_getsWhole 91 = .ok (.iload 6, 2) := dr9 dk9_dX12_getsWhole_0_0.2.1 10 (91, .iload 6, 2) rfl
theorem dX12_getsWhole_93 : decode cX12_getsWhole 93 = .ok (.putfield 474, 3) := dr9 dk9_dX12_getsWhole_0_0.2.1 11 (93, .putfield 474, 3) rfl
theorem dX12_getsWhole_43 : decode cX12_getsWhole 43 = .ok (.aload_n 0, 1) := dr9 dk9_dX12_getsWhole_0_0.2.1 12 (43, .aload_n 0, 1) rfl
theorem dX12_getsWhole_44 : decode cX12_getsWhole 44 = .ok (.dup, 1) := dr9 dk9_dX12_getsWhole_0_0.2.1 13 (44, .dup, 1) rfl
theorem dX12_getsWhole_45 : decode cX12_getsWhole 45 = .ok (.getfield 507, 3) := dr9 dk9_dX12_getsWhole_0_0.2.1 14 (45, .getfield 507, 3) rfl
theorem dX12_getsWhole_48 : decode cX12_getsWhole 48 = .ok (.iconst 1, 1) := dr9 dk9_dX12_getsWhole_0_0.2.1 15 (48, .iconst 1, 1) rfl
theorem dX12_getsWhole_49 : decode cX12_getsWhole 49 = .ok (.isub, 1) := dr9 dk9_dX12_getsWhole_0_0.2.1 16 (49, .isub, 1) rfl
theorem dX12_getsWhole_50 : decode cX12_getsWhole 50 = .ok (.putfield 507, 3) := dr9 dk9_dX12_getsWhole_0_0.2.1 17 (50, .putfield 507, 3) rfl
theorem dX12_getsWhole_53 : decode cX12_getsWhole 53 = .ok (.aload_n 0, 1) := dr9 dk9_dX12_getsWhole_0_0.2.1 18 (53, .aload_n 0, 1) rfl
theorem dX12_getsWhole_54 : decode cX12_getsWhole 54 = .ok (.aload_n 0, 1) := dr9 dk9_dX12_getsWhole_0_0.2.1 19 (54, .aload_n 0, 1) rfl
theorem dX12_getsWhole_55 : decode cX12_getsWhole 55 = .ok (.getfield 222, 3) := dr9 dk9_dX12_getsWhole_0_0.2.1 20 (55, .getfield 222, 3) rfl
theorem dX12_getsWhole_58 : decode cX12_getsWhole 58 = .ok (.aload_n 0, 1) := dr9 dk9_dX12_getsWhole_0_0.2.1 21 (58, .aload_n 0, 1) rfl
theorem dX12_getsWhole_59 : decode cX12_getsWhole 59 = .ok (.getfield 507, 3) := dr9 dk9_dX12_getsWhole_0_0.2.1 22 (59, .getfield 507, 3) rfl
theorem dX12_getsWhole_62 : decode cX12_getsWhole 62 = .ok (.iaload, 1) := dr9 dk9_dX12_getsWhole_0_0.2.1 23 (62, .iaload, 1) rfl
theorem dX12_getsWhole_63 : decode cX12_getsWhole 63 = .ok (.invokevirtual 513, 3) := dr9 dk9_dX12_getsWhole_0_0.2.2 0 (63, .invokevirtual 513, 3) rfl
theorem dX12_getsWhole_66 : decode cX12_getsWhole 66 = .ok (.ifCond .eq 7, 3) := dr9 dk9_dX12_getsWhole_0_0.2.2 1 (66, .ifCond .eq 7, 3) rfl
theorem dX12_getsWhole_73 : decode cX12_getsWhole 73 = .ok (.iload 7, 2) := dr9 dk9_dX12_getsWhole_0_0.2.2 2 (73, .iload 7, 2) rfl
theorem dX12_getsWhole_75 : decode cX12_getsWhole 75 = .ok (.istore 7, 2) := dr9 dk9_dX12_getsWhole_0_0.2.2 3 (75, .istore 7, 2) rfl
theorem dX12_getsWhole_77 : decode cX12_getsWhole 77 = .ok (.goto (-42), 3) := dr9 dk9_dX12_getsWhole_0_0.2.2 4 (77, .goto (-42), 3) rfl
theorem dX12_getsWhole_69 : decode cX12_getsWhole 69 = .ok (.iconst 2, 1) := dr9 dk9_dX12_getsWhole_0_0.2.2 5 (69, .iconst 2, 1) rfl
theorem dX12_getsWhole_70 : decode cX12_getsWhole 70 = .ok (.goto 5, 3) := dr9 dk9_dX12_getsWhole_0_0.2.2 6 (70, .goto 5, 3) rfl
abbrev q_s_getsWhole (D : va_G) (ks : KS) (ad : Nat → Nat) (kk : Nat → ClassId) (V : Vf) (L : Lf) (p0 : Int32) (p1 : Int32) (A : Nat → Prop) : Array Value → State → Outcome → State → Prop := va_Qi (fun (r : Int32) (u : Vf × Lf) => rgd bM u.1 ∧ agr [(0, 60), (0, 65), (0, 68), (0, 69), (0, 73), (0, 76), (0, 90), (0, 91), (0, 92), (0, 93), (0, 95), (0, 96), (0, 98)] [59, 61, 62, 63, 64, 66, 67, 74, 75, 77, 78, 79, 80, 94, 97] V u.1 ∧ u.2 = L ∧ (0 ≤ r.toInt ∧ r.toInt ≤ 2) ∧ ((u.1 0 93).toInt = (V 0 93).toInt) ∧ ((u.1 0 98).toInt = (V 0 98).toInt) ∧ ((V 0 60).toInt ≤ (u.1 0 60).toInt) ∧ ((V 0 65).toInt ≤ (u.1 0 65).toInt) ∧ ((u.1 0 65).toInt - (V 0 65).toInt ≤ (u.1 0 60).toInt - (V 0 60).toInt) ∧ ((u.1 0 73).toInt + (u.1 0 95).toInt - (u.1 0 65).toInt ≤ (V 0 73).toInt + (V 0 95).toInt - (V 0 65).toInt) ∧ ((V 0 73).toInt ≤ (u.1 0 73).toInt) ∧ ((V 0 69).toInt ≤ (u.1 0 69).toInt) ∧ ((u.1 0 95).toInt = (V 0 95).toInt) ∧ ((u.1 0 76).toInt - (u.1 0 69).toInt - (u.1 0 73).toInt ≤ (V 0 76).toInt - (V 0 69).toInt - (V 0 73).toInt) ∧ (Imp (r.toInt = 0) (0 ≤ (u.1 0 92).toInt ∧ (u.1 0 92).toInt < (u.1 0 60).toInt)) ∧ (RT u.1) ∧ (FRM V u.1 (-1))) (fun u t => gq D A (mw ad kk ks.1 u.1 u.2) (mty kk) t) A
def K_s_getsWhole (l : Launch) (D : va_G) (ks : KS) (d1 d2 : Nat) : Prop := ∀ (sz : Nat) (ad : Nat → Nat) (kk : Nat → ClassId) (V : Vf) (L : Lf) (p0 : Int32) (p1 : Int32) (hMV : rgd bM V) (rg_p0 : 0 ≤ p0.toInt ∧ p0.toInt ≤ 23) (rg_p1 : 0 ≤ p1.toInt ∧ p1.toInt ≤ 39) (rt : RT V) (n1 : (V 0 65).toInt ≤ (V 0 60).toInt) (n2 : (V 0 95).toInt ≤ (V 0 65).toInt) (n3 : (V 0 73).toInt + (V 0 95).toInt - (V 0 65).toInt ≤ 999000) (n4 : (V 0 76).toInt - (V 0 69).toInt - (V 0 73).toInt ≤ 1000000000) (n5 : 300 - (V 0 60).toInt ≤ (d1 : Int)) (n6 : 10 - (V 0 93).toInt ≤ (d2 : Int)) (n7 : (V 0 98).toInt + 400 * (d2 : Int) + 30 ≤ 19000) (tq : th V (Int32.toNatClampNeg p0)) , Met l yX12_getsWhole (Cond.code yX12_getsWhole cX12_getsWhole 8 (some .int) :: GW) (rK2 (4 * d1 + 40 * d2 + 16) (100 * d1 + 1000 * d2 + 620)) (va_Pc [.ref (ad 0), .int p0, .int p1] (gp D ks (mw ad kk ks.1 V L) (mty kk) sz)) (q_s_getsWhole D ks ad kk V L p0 p1 (va_A (mw ad kk ks.1 V L) sz)) 0 0 (va_A (mw ad kk ks.1 V L) sz)