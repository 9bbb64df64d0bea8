/-! a new object in the stock -/
theorem SL.new {fs : List (Nat × Nat)} {cs : List Nat} {V W : Vf} {Z : XZ} {o : Nat} (h : SL V Z) (a : agr fs cs V W) (q15 : wrL fs cs 3 15 = false) (q32 : ∀ k, wrL fs cs 32 k = false) (ho : (o : Int) = (V 3 13).toInt) (h13 : (W 3 13).toInt = (V 3 13).toInt + 1) (n30 : ∀ q : Nat, 8 * o ≤ q → q < 8 * o + 8 → (W 30 q).toInt = -1) (e30 : ∀ q : Nat, ¬ (8 * o ≤ q ∧ q < 8 * o + 8) → W 30 q = V 30 q) (h0 : 0 ≤ (V 3 15).toInt) : SL W Z := by
  unfold SL
  rw [a _ _ q15]
  refine ⟨h.1, h.2.1, fun x k hx hk => ?_, fun i hi => by rw [a _ _ (q32 i)]; exact h.2.2.2 i hi⟩
  by_cases e : x = o
  · rw [e, n30 (8 * o + k) (by omega) (by omega)]
    omega
  · rw [e30 _ (by omega)]
    exact h.2.2.1 x k (by omega) hk

theorem w1292 : Cond.code yJ7_fill_fda19 cJ7_fill_fda19 5 none ∈ GW := gw_k tk9_5 177 (rfl) rfl
theorem w1290 : Cond.methodLink RX8 80 yJ7_fill_fda19 ∈ GW := gw_k tk9_5 175 (by decide +kernel) rfl
theorem w1291 : Cond.static yJ7_fill_fda19 ∈ GW := gw_k tk9_5 176 (by decide +kernel) rfl
theorem hdS_yJ7_fill_fda19 : yJ7_fill_fda19.cls ≠ "java/lang/invoke/MethodHandle" ∧ yJ7_fill_fda19.cls ≠ "java/lang/invoke/VarHandle" ∧ (parseMethodDescriptor yJ7_fill_fda19.desc).map (fun d => d.parameters.length) = some 4 := by decide +kernel
theorem dk9_dX8_beginObject_0_0 : dOk cX8_beginObject [(0, .aload_n 0, 1), (1, .getfield 63, 3), (4, .sipush 300, 3), (7, .if_icmp .lt 5, 3), (12, .aload_n 0, 1), (13, .dup, 1), (14, .getfield 63, 3), (17, .dup_x1, 1), (18, .iconst 1, 1), (19, .iadd, 1), (20, .putfield 63, 3), (23, .istore 4, 2), (25, .aload_n 0, 1), (26, .getfield 28, 3), (29, .iload 4, 2), (31, .iload_n 1, 1), (32, .iastore, 1), (33, .aload_n 0, 1), (34, .getfield 31, 3), (37, .iload 4, 2), (39, .iload_n 2, 1), (40, .iastore, 1), (41, .aload_n 0, 1), (42, .getfield 34, 3)] = true ∧ dOk cX8_beginObject [(45, .iload 4, 2), (47, .iconst 0, 1), (48, .iastore, 1), (49, .aload_n 0, 1), (50, .getfield 40, 3), (53, .iload 4, 2), (55, .bipush 8, 2), (57, .imul, 1), (58, .iload 4, 2), (60, .bipush 8, 2), (62, .imul, 1), (63, .bipush 8, 2), (65, .iadd, 1), (66, .iconst (-1), 1), (67, .invokestatic 80, 3), (70, .iload_n 3, 1), (71, .ifCond .eq 16, 3), (87, .iload 4, 2), (89, .ireturn, 1), (74, .aload_n 0, 1), (75, .getfield 25, 3), (78, .iload_n 2, 1), (79, .bipush 24, 2), (81, .imul, 1)] = true ∧ dOk cX8_beginObject [(82, .iload_n 1, 1), (83, .iadd, 1), (84, .iload 4, 2), (86, .iastore, 1), (10, .iconst (-1), 1), (11, .ireturn, 1)] = true := by decide +kernel
theorem dX8_beginObject_0 : decode cX8_beginObject 0 = .ok (.aload_n 0, 1) := dr9 dk9_dX8_beginObject_0_0.1 0 (0, .aload_n 0, 1) rfl
theorem dX8_beginObject_1 : decode cX8_beginObject 1 = .ok (.getfield 63, 3) := dr9 dk9_dX8_beginObject_0_0.1 1 (1, .getfield 63, 3) rfl
theorem dX8_beginObject_4 : decode cX8_beginObject 4 = .ok (.sipush 300, 3) := dr9 dk9_dX8_beginObject_0_0.1 2 (4, .sipush 300, 3) rfl
theorem dX8_beginObject_7 : decode cX8_beginObject 7 = .ok (.if_icmp .lt 5, 3) := dr9 dk9_dX8_beginObject_0_0.1 3 (7, .if_icmp .lt 5, 3) rfl
theorem dX8_beginObject_12 : decode cX8_beginObject 12 = .ok (.aload_n 0, 1) := dr9 dk9_dX8_beginObject_0_0.1 4 (12, .aload_n 0, 1) rfl
theorem dX8_beginObject_13 : decode cX8_beginObject 13 = .ok (.dup, 1) := dr9 dk9_dX8_beginObject_0_0.1 5 (13, .dup, 1) rfl
theorem dX8_beginObject_14 : decode cX8_beginObject 14 = .ok (.getfield 63, 3) := dr9 dk9_dX8_beginObject_0_0.1 6 (14, .getfield 63, 3) rfl
theorem dX8_beginObject_17 : decode cX8_beginObject 17 = .ok (.dup_x1, 1) := dr9 dk9_dX8_beginObject_0_0.1 7 (17, .dup_x1, 1) rfl
theorem dX8_beginObject_18 : decode cX8_beginObject 18 = .ok (.iconst 1, 1) := dr9 dk9_dX8_beginObject_0_0.1 8 (18, .iconst 1, 1) rfl
theorem dX8_beginObject_19 : decode cX8_beginObject 19 = .ok (.iadd, 1) := dr9 dk9_dX8_beginObject_0_0.1 9 (19, .iadd, 1) rfl
theorem dX8_beginObject_20 : decode cX8_beginObject 20 = .ok (.putfield 63, 3) := dr9 dk9_dX8_beginObject_0_0.1 10 (20, .putfield 63, 3) rfl
theorem dX8_beginObject_23 : decode cX8_beginObject 23 = .ok (.istore 4, 2) := dr9 dk9_dX8_beginObject_0_0.1 11 (23, .istore 4, 2) rfl
theorem dX8_beginObject_25 : decode cX8_beginObject 25 = .ok (.aload_n 0, 1) := dr9 dk9_dX8_beginObject_0_0.1 12 (25, .aload_n 0, 1) rfl
theorem dX8_beginObject_26 : decode cX8_beginObject 26 = .ok (.getfield 28, 3) := dr9 dk9_dX8_beginObject_0_0.1 13 (26, .getfield 28, 3) rfl
theorem dX8_beginObject_29 : decode cX8_beginObject 29 = .ok (.iload 4, 2) := dr9 dk9_dX8_beginObject_0_0.1 14 (29, .iload 4, 2) rfl
theorem dX8_beginObject_31 : decode cX8_beginObject 31 = .ok (.iload_n 1, 1) := dr9 dk9_dX8_beginObject_0_0.1 15 (31, .iload_n 1, 1) rfl
theorem dX8_beginObject_32 : decode cX8_beginObject 32 = .ok (.iastore, 1) := dr9 dk9_dX8_beginObject_0_0.1 16 (32, .iastore, 1) rfl
theorem dX8_beginObject_33 : decode cX8_beginObject 33 = .ok (.aload_n 0, 1) := dr9 dk9_dX8_beginObject_0_0.1 17 (33, .aload_n 0, 1) rfl
theorem dX8_beginObject_34 : decode cX8_beginObject 34 = .ok (.getfield 31, 3) := dr9 dk9_dX8_beginObject_0_0.1 18 (34, .getfield 31, 3) rfl
theorem dX8_beginObject_37 : decode cX8_beginObject 37 = .ok (.iload 4, 2) := dr9 dk9_dX8_beginObject_0_0.1 19 (37, .iload 4, 2) rfl
theorem dX8_beginObject_39 : decode cX8_beginObject 39 = .ok (.iload_n 2, 1) := dr9 dk9_dX8_beginObject_0_0.1 20 (39, .iload_n 2, 1) rfl
theorem dX8_beginObject_40 : decode cX8_beginObject 40 = .ok (.iastore, 1) := dr9 dk9_dX8_beginObject_0_0.1 21 (40, .iastore, 1) rfl
theorem dX8_beginObject_41 : decode cX8_beginObject 41 = .ok (.aload_n 0, 1) := dr9 dk9_dX8_beginObject_0_0.1 22 (41, .aload_n 0, 1) rfl
theorem dX8_beginObject_42 : decode cX8_beginObject 42 = .ok (.getfield 34, 3) := dr9 dk9_dX8_beginObject_0_0.1 23 (42, .getfield 34, 3) rfl
theorem dX8_beginObject_45 : decode cX8_beginObject 45 = .ok (.iload 4, 2) := dr9 dk9_dX8_beginObject_0_0.2.1 0 (45, .iload 4, 2) rfl
theorem dX8_beginObject_47 : decode cX8_beginObject 47 = .ok (.iconst 0, 1) := dr9 dk9_dX8_beginObject_0_0.2.1 1 (47, .iconst 0, 1) rfl
theorem dX8_beginObject_48 : decode cX8_beginObject 48 = .ok (.iastore, 1) := dr9 dk9_dX8_beginObject_0_0.2.1 2 (48, .iastore, 1) rfl
theorem dX8_beginObject_49 : decode cX8_beginObject 49 = .ok (.aload_n 0, 1) := dr9 dk9_dX8_beginObject_0_0.2.1 3 (49, .aload_n 0, 1) rfl
theorem dX8_beginObject_50 : decode cX8_beginObject 50 = .ok (.getfield 40, 3) := dr9 dk9_dX8_beginObject_0_0.2.1 4 (50, .getfield 40, 3) rfl
theorem dX8_beginObject_53 : decode cX8_beginObject 53 = .ok (.iload 4, 2) := dr9 dk9_dX8_beginObject_0_0.2.1 5 (53, .iload 4, 2) rfl
theorem dX8_beginObject_55 : decode cX8_beginObject 55 = .ok (.bipush 8, 2) := dr9 dk9_dX8_beginObject_0_0.2.1 6 (55, .bipush 8, 2) rfl
theorem dX8_beginObject_57 : decode cX8_beginObject 57 = .ok (.imul, 1) := dr9 dk9_dX8_beginObject_0_0.2.1 7 (57, .imul, 1) rfl
theorem dX8_beginObject_58 : decode cX8_beginObject 58 = .ok (.iload 4, 2) := dr9 dk9_dX8_beginObject_0_0.2.1 8 (58, .iload 4, 2) rfl
theorem dX8_beginObject_60 : decode cX8_beginObject 60 = .ok (.bipush 8, 2) := dr9 dk9_dX8_beginObject_0_0.2.1 9 (60, .bipush 8, 2) rfl
theorem dX8_beginObject_62 : decode cX8_beginObject 62 = .ok (.imul, 1) := dr9 dk9_dX8_beginObject_0_0.2.1 10 (62, .imul, 1) rfl
theorem dX8_beginObject_63 : decode cX8_beginObject 63 = .ok (.bipush 8, 2) := dr9 dk9_dX8_beginObject_0_0.2.1 11 (63, .bipush 8, 2) rfl
theorem dX8_beginObject_65 : decode cX8_beginObject 65 = .ok (.iadd, 1) := dr9 dk9_dX8_beginObject_0_0.2.1 12 (65, .iadd, 1) rfl
theorem dX8_beginObject_66 : decode cX8_beginObject 66 = .ok (.iconst (-1), 1) := dr9 dk9_dX8_beginObject_0_0.2.1 13 (66, .iconst (-1), 1) rfl
theorem dX8_beginObject_67 : decode cX8_beginObject 67 = .ok (.invokestatic 80, 3) := dr9 dk9_dX8_beginObject_0_0.2.1 14 (67, .invokestatic 80, 3) rfl
theorem dX8_beginObject_70 : decode cX8_beginObject 70 = .ok (.iload_n 3, 1) := dr9 dk9_dX8_beginObject_0_0.2.1 15 (70, .iload_n 3, 1) rfl
theorem dX8_beginObject_71 : decode cX8_beginObject 71 = .ok (.ifCond .eq 16, 3) := dr9 dk9_dX8_beginObject_0_0.2.1 16 (71, .ifCond .eq 16, 3) rfl
theorem dX8_beginObject_87 : decode cX8_beginObject 87 = .ok (.iload 4, 2) := dr9 dk9_dX8_beginObject_0_0.2.1 17 (87, .iload 4, 2) rfl
theorem dX8_beginObject_89 : decode cX8_beginObject 89 = .ok (.ireturn, 1) := dr9 dk9_dX8_beginObject_0_0.2.1 18 (89, .ireturn, 1) rfl
theorem dX8_beginObject_74 : decode cX8_beginObject 74 = .ok (.aload_n 0, 1) := dr9 dk9_dX8_beginObject_0_0.2.1 19 (74, .aload_n 0, 1) rfl
theorem dX8_beginObject_75 : decode cX8_beginObject 75 = .ok (.getfield 25, 3) := dr9 dk9_dX8_beginObject_0_0.2.1 20 (75, .getfield 25, 3) rfl
theorem dX8_beginObject_78 : decode cX8_beginObject 78 = .ok (.iload_n 2, 1) := dr9 dk9_dX8_beginObject_0_0.2.1 21 (78, .iload_n 2, 1) rfl
theorem dX8_beginObject_79 : decode cX8_beginObject 79 = .ok (.bipush 24, 2) := dr9 dk9_dX8_beginObject_0_0.2.1 22 (79, .bipush 24, 2) rfl
theorem dX8_beginObject_81 : decode cX8_beginObject 81 = .ok (.imul, 1) := dr9 dk9_dX8_beginObject_0_0.2.1 23 (81, .imul, 1) rfl
theorem dX8_beginObject_82 : decode cX8_beginObject 82 = .ok (.iload_n 1, 1) := dr9 dk9_dX8_beginObject_0_0.2.2 0 (82, .iload_n 1, 1) rfl
theorem dX8_beginObject_83 : decode cX8_beginObject 83 = .ok (.iadd, 1) := dr9 dk9_dX8_beginObject_0_0.2.2 1 (83, .iadd, 1) rfl
theorem dX8_beginObject_84 : decode cX8_beginObject 84 = .ok (.iload 4, 2) := dr9 dk9_dX8_beginObject_0_0.2.2 2 (84, .iload 4, 2) rfl
theorem dX8_beginObject_86 : decode cX8_beginObject 86 = .ok (.iastore, 1) := dr9 dk9_dX8_beginObject_0_0.2.2 3 (86, .iastore, 1) rfl
theorem dX8_beginObject_10 : decode cX8_beginObject 10 = .ok (.iconst (-1), 1) := dr9 dk9_dX8_beginObject_0_0.2.2 4 (10, .iconst (-1), 1) rfl
theorem dX8_beginObject_11 : decode cX8_beginObject 11 = .ok (.ireturn, 1) := dr9 dk9_dX8_beginObject_0_0.2.2 5 (11, .ireturn, 1) rfl
abbrev r_x_beginObject : Room := { frames := 2, cells := 0, slots := 0, locals := 46 }
abbrev q_x_beginObject (D : va_G) (ks : KS) (ad : Nat → Nat) (kk : Nat → ClassId) (V : Vf) (L : Lf) (Z : XZ) (p0 : Int32) (p1 : Int32) (p2 : Int32) (A : Nat → Prop) : Array Value → State → Outcome → State → Prop := va_Qi (fun (r : Int32) (u : Vf × Lf) => rgd bX u.1 ∧ agr [(3, 13)] [25, 26, 27, 28, 30] V u.1 ∧ u.2 = L ∧ ((-1) ≤ r.toInt ∧ r.toInt ≤ 299) ∧ (SL u.1 Z) ∧ (Imp (0 ≤ r.toInt) (∀ q : Nat, 8 * Int32.toNatClampNeg (V 3 13) ≤ q → q < 8 * Int32.toNatClampNeg (V 3 13) + 8 → (u.1 30 q).toInt = -1)) ∧ (Imp (0 ≤ r.toInt) (∀ q : Nat, ¬ (8 * Int32.toNatClampNeg (V 3 13) ≤ q ∧ q < 8 * Int32.toNatClampNeg (V 3 13) + 8) → u.1 30 q = V 30 q)) ∧ (Imp (0 ≤ r.toInt) (∀ q : Nat, ¬ q = Int32.toNatClampNeg (V 3 13) → u.1 26 q = V 26 q)) ∧ (Imp (0 ≤ r.toInt) (r.toInt = (V 3 13).toInt ∧ (u.1 3 13).toInt = (V 3 13).toInt + 1)) ∧ (Imp (r.toInt = -1) ((u.1 3 13).toInt = (V 3 13).toInt))) (fun u t => gq D A (xw ad kk u.1 u.2 Z) (xty kk Z) t) A