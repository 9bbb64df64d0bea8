/-! the calls' group: all of it, for every depth -/
def KG (l : Launch) (D : va_G) (ks : KS) (d1 d2 : Nat) : Prop := K_s_calls l D ks d1 d2 ∧ (∀ d3, K_s_arounds l D ks d1 d2 d3) ∧ K_s_failings l D ks d1 d2 ∧ K_s_getsWhole l D ks d1 d2 ∧ K_s_joinsAll l D ks d1 d2 ∧ K_s_closes l D ks d1 d2
/-! between the calls: RT0; how many objects may still be closed: mu -/
def RTt (V : Vf) : Prop := (∀ o : Nat, (o : Int) < (V 0 60).toInt → th V (Int32.toNatClampNeg (V 61 o))) ∧ (∀ o k i : Nat, (o : Int) < (V 0 60).toInt → k < 8 → (i : Int) < (V 66 (8 * o + k)).toInt → (V 67 (24 * (8 * o + k) + i)).toInt < (V 0 60).toInt) ∧ (∀ i : Nat, (i : Int) < (V 0 95).toInt → (V 94 i).toInt < (V 0 60).toInt ∧ 1 ≤ (V 63 (Int32.toNatClampNeg (V 94 i))).toInt)
def RT0 (V : Vf) : Prop := TB V ∧ RD V ∧ ((V 0 54).toInt = 1 ∨ (V 0 60).toInt = 0) ∧ RTt V ∧ (V 0 95).toInt = 0
theorem RT0.rt {V : Vf} (h : RT0 V) (r : (V 0 54).toInt = 1) : RT V := ⟨h.1, h.2.1 r, h.2.2.2.1⟩
theorem RT.r0 {V : Vf} (h : RT V) (r : (V 0 54).toInt = 1) (f : (V 0 95).toInt = 0) : RT0 V := ⟨h.1, fun _ => h.2.1, Or.inl r, h.2.2, f⟩
theorem RTt.z {V : Vf} (h0 : (V 0 60).toInt = 0) (f : (V 0 95).toInt = 0) : RTt V := ⟨fun o ho => absurd ho (by omega), fun o _ _ ho => absurd ho (by omega), fun i hi => absurd hi (by omega)⟩
/-- as rtC, but fresh and how many they are may have been written -/
def r0C (fs : List (Nat × Nat)) (cs : List Nat) : Prop := thC fs cs ∧ (∀ y ∈ fs, y.1 = 0) ∧ (∀ y ∈ cs, trk y = false) ∧ wrL fs cs 0 60 = false ∧ wrL fs cs 0 54 = false ∧ (∀ k, wrL fs cs 61 k = false) ∧ (∀ k, wrL fs cs 66 k = false) ∧ (∀ k, wrL fs cs 67 k = false)
theorem RT0.ag {fs : List (Nat × Nat)} {cs : List Nat} {V W : Vf} (h : RT0 V) (hM : rgd bM V) (a : agr fs cs V W) (q : r0C fs cs) (c0 : c0k V W) (f : (W 0 95).toInt = 0) : RT0 W := by
  obtain ⟨q1, q2, q3, q60, q54, q61, q66, q67⟩ := q
  refine ⟨TB.ag h.1 hM a q1.1 q2 q3, fun r => RD_st (h.2.1 (by rw [a 0 54 q54] at r; exact r)) a q1 c0, ?_, ⟨?_, ?_, ?_⟩, f⟩
  · rw [a 0 54 q54, a 0 60 q60]
    exact h.2.2.1
  · intro o ho
    rw [a 0 60 q60] at ho
    rw [a _ _ (q61 o)]
    exact (h.2.2.2.1.1 o ho).ag a q1
  · intro o k i ho hk hi
    rw [a 0 60 q60] at ho ⊢
    rw [a _ _ (q66 _)] at hi
    rw [a _ _ (q67 _)]
    exact h.2.2.2.1.2.1 o k i ho hk hi
  · intro i hi
    omega
def alv (V : Vf) : Nat → Nat
  | 0 => 0
  | n + 1 => alv V n + (if (V 63 n).toInt = 1 then 1 else 0)
theorem alv_le (V : Vf) (n : Nat) : ∀ k, alv V (n + k) ≤ alv V n + k
  | 0 => Nat.le_refl _
  | k + 1 => by
    have ih := alv_le V n k
    show alv V (n + k) + (if (V 63 (n + k)).toInt = 1 then 1 else 0) ≤ alv V n + (k + 1)
    split <;> omega
theorem alv_mono {V W : Vf} : ∀ n, (∀ o, o < n → (W 63 o).toInt = 1 → (V 63 o).toInt = 1) → alv W n ≤ alv V n
  | 0, _ => Nat.le_refl _
  | n + 1, h => by
    have ih := alv_mono (V := V) (W := W) n (fun o ho => h o (by omega))
    show alv W n + (if (W 63 n).toInt = 1 then 1 else 0) ≤ alv V n + (if (V 63 n).toInt = 1 then 1 else 0)
    by_cases e : (W 63 n).toInt = 1
    · rw [if_pos e, if_pos (h n (by omega) e)]
      omega
    · rw [if_neg e]
      omega
theorem alv_drop {V W : Vf} {x : Nat} (hv : (V 63 x).toInt = 1) (hw : (W 63 x).toInt ≠ 1) : ∀ n, (∀ o, o < n → (W 63 o).toInt = 1 → (V 63 o).toInt = 1) → x < n → alv W n + 1 ≤ alv V n
  | 0, _, hx => absurd hx (by omega)
  | n + 1, h, hx => by
    show alv W n + (if (W 63 n).toInt = 1 then 1 else 0) + 1 ≤ alv V n + (if (V 63 n).toInt = 1 then 1 else 0)
    by_cases e : x = n
    · subst e
      have ih := alv_mono (V := V) (W := W) x (fun o ho => h o (by omega))
      rw [if_neg hw, if_pos hv]
      omega
    · have ih := alv_drop hv hw n (fun o ho => h o (by omega)) (by omega)
      by_cases e : (W 63 n).toInt = 1
      · rw [if_pos e, if_pos (h n (by omega) e)]
        omega
      · rw [if_neg e]
        omega
theorem alv_self (V : Vf) : ∀ n, alv V n ≤ n
  | 0 => Nat.le_refl _
  | n + 1 => by
    have ih := alv_self V n
    show alv V n + (if (V 63 n).toInt = 1 then 1 else 0) ≤ n + 1
    split <;> omega
def mu (V : Vf) : Nat := 300 - (V 0 60).toInt.toNat + alv V (V 0 60).toInt.toNat
theorem mu_le {V : Vf} (h : (V 0 60).toInt ≤ 300) : mu V ≤ 300 := by
  unfold mu
  have := alv_self V (V 0 60).toInt.toNat
  omega
theorem mu_drop {V W : Vf} {x : Nat} (f : FRM V W (-1)) (h0 : 0 ≤ (V 0 60).toInt) (hx : (x : Int) < (V 0 60).toInt) (hv : (V 63 x).toInt = 1) (hw : (W 63 x).toInt = 2) (h3 : (W 0 60).toInt ≤ 300) (hM : ∀ o, 0 ≤ (V 63 o).toInt) : mu W + 1 ≤ mu V := by
  unfold mu
  have hf := f.1
  have e : (W 0 60).toInt.toNat = (V 0 60).toInt.toNat + ((W 0 60).toInt.toNat - (V 0 60).toInt.toNat) := by omega
  have a1 := alv_le W (V 0 60).toInt.toNat ((W 0 60).toInt.toNat - (V 0 60).toInt.toNat)
  rw [← e] at a1
  have a2 := alv_drop (V := V) (W := W) (x := x) hv (by omega) (V 0 60).toInt.toNat (fun o ho h1 => by
    have b := (f.2.1 o (by omega)).2.2
    have c := hM o
    rcases Decidable.em ((V 63 o).toInt = 0) with z | z
    · have := b.1 z
      omega
    · have := b.2 (by omega)
      omega) (by omega)
  omega
theorem mu_ag {fs : List (Nat × Nat)} {cs : List Nat} {V W : Vf} (a : agr fs cs V W) (q60 : wrL fs cs 0 60 = false) (q63 : ∀ k, wrL fs cs 63 k = false) : mu W = mu V := by
  unfold mu
  rw [a 0 60 q60]
  have h : ∀ n, alv W n = alv V n := fun n => by
    induction n with
    | zero => rfl
    | succ n ih =>
      show alv W n + (if (W 63 n).toInt = 1 then 1 else 0) = alv V n + (if (V 63 n).toInt = 1 then 1 else 0)
      rw [ih, a _ _ (q63 n)]
  rw [h]

theorem w2351 : Cond.code yX12_latestIn cX12_latestIn 4 (some .int) ∈ GW := gw_k tk9_10 36 (rfl) rfl
theorem w2348 : Cond.methodLink RX12 585 yX12_latestIn ∈ GW := gw_k tk9_10 33 (by decide +kernel) rfl
theorem w2350 : Cond.instanceMethod yX12_latestIn ∈ GW := gw_k tk9_10 35 (by decide +kernel) rfl
theorem w154 : Cond.selects RX12 yX12_latestIn yX12_latestIn ∈ GW := gw_mem 154 (by decide +kernel) rfl
theorem hdV_yX12_latestIn : yX12_latestIn.cls = RX12 ∧ yX12_latestIn.cls ≠ "java/lang/invoke/MethodHandle" ∧ yX12_latestIn.cls ≠ "java/lang/invoke/VarHandle" ∧ (parseMethodDescriptor yX12_latestIn.desc).map (fun d => d.parameters.length) = some 1 := by decide +kernel
theorem w1805 : Cond.fieldLink RX12 588 "WiringHouseModel" "isSpent" "Z" ∈ GW := gw_k tk9_7 210 (by decide +kernel) rfl
theorem w2347 : Cond.code yX12_closeAll cX12_closeAll 5 (some .int) ∈ GW := gw_k tk9_10 32 (rfl) rfl
theorem w2344 : Cond.methodLink RX12 582 yX12_closeAll ∈ GW := gw_k tk9_10 29 (by decide +kernel) rfl
theorem w2346 : Cond.instanceMethod yX12_closeAll ∈ GW := gw_k tk9_10 31 (by decide +kernel) rfl
theorem w153 : Cond.selects RX12 yX12_closeAll yX12_closeAll ∈ GW := gw_mem 153 (by decide +kernel) rfl
theorem hdV_yX12_closeAll : yX12_closeAll.cls = RX12 ∧ yX12_closeAll.cls ≠ "java/lang/invoke/MethodHandle" ∧ yX12_closeAll.cls ≠ "java/lang/invoke/VarHandle" ∧ (parseMethodDescriptor yX12_closeAll.desc).map (fun d => d.parameters.length) = some 1 := by decide +kernel
theorem dk9_dX12_closeAll_0_0 : dOk cX12_closeAll [(0, .iconst 0, 1), (1, .istore_n 2, 1), (2, .aload_n 0, 1), (3, .getfield 244, 3), (6, .iconst 1, 1), (7, .isub, 1), (8, .istore_n 3, 1), (9, .iload_n 3, 1), (10, .ifCond .le 94, 3), (104, .aload_n 0, 1), (105, .iload_n 1, 1), (106, .invokevirtual 585, 3), (109, .istore_n 3, 1), (110, .iload_n 3, 1), (111, .ifCond .lt 43, 3), (154, .aload_n 0, 1), (155, .getfield 152, 3), (158, .iload_n 1, 1), (159, .iload_n 1, 1), (160, .ifCond .ne 7, 3), (167, .iconst 0, 1), (168, .bastore, 1), (169, .iconst 0, 1), (170, .istore 4, 2)] = true ∧ dOk cX12_closeAll [(172, .iload 4, 2), (174, .bipush 24, 2), (176, .if_icmp .ge 22, 3), (198, .iload_n 2, 1), (199, .ireturn, 1), (179, .aload_n 0, 1), (180, .getfield 161, 3), (183, .bipush 24, 2), (185, .iload_n 1, 1), (186, .imul, 1), (187, .iload 4, 2), (189, .iadd, 1), (190, .iconst 0, 1), (191, .bastore, 1), (192, .iinc 4 1, 3), (195, .goto (-23), 3), (163, .iconst 1, 1), (164, .goto 4, 3), (114, .aload_n 0, 1), (115, .iload_n 3, 1), (116, .invokevirtual 513, 3), (119, .istore 4, 2), (121, .aload_n 0, 1), (122, .aload_n 0, 1)] = true ∧ dOk cX12_closeAll [(123, .getfield 588, 3), (126, .ifCond .ne 8, 3), (134, .iconst 1, 1), (135, .goto 4, 3), (139, .putfield 588, 3), (142, .iinc 2 1, 3), (145, .aload_n 0, 1), (146, .iload_n 1, 1), (147, .invokevirtual 585, 3), (150, .istore_n 3, 1), (151, .goto (-41), 3), (129, .iload 4, 2), (131, .ifCond .eq 7, 3), (138, .iconst 0, 1), (13, .aload_n 0, 1), (14, .getfield 152, 3), (17, .iload_n 3, 1), (18, .baload, 1), (19, .ifCond .eq 59, 3), (78, .iconst 0, 1), (79, .istore 4, 2), (81, .iload_n 2, 1), (82, .iload 4, 2), (84, .ifCond .eq 11, 3)] = true ∧ dOk cX12_closeAll [(95, .iconst 0, 1), (96, .iadd, 1), (97, .istore_n 2, 1), (98, .iinc 3 (-1), 3), (101, .goto (-92), 3), (22, .aload_n 0, 1), (23, .getfield 155, 3), (26, .iload_n 1, 1), (27, .iaload, 1), (28, .ifCond .ne 16, 3), (44, .aload_n 0, 1), (45, .getfield 155, 3), (48, .iload_n 1, 1), (49, .iaload, 1), (50, .iconst 1, 1), (51, .if_icmp .ne 27, 3), (54, .aload_n 0, 1), (55, .getfield 155, 3), (58, .iload_n 3, 1), (59, .iaload, 1), (60, .iconst 2, 1), (61, .if_icmp .ne 17, 3), (64, .aload_n 0, 1), (65, .getfield 158, 3)] = true ∧ dOk cX12_closeAll [(68, .iload_n 3, 1), (69, .iaload, 1), (70, .iload_n 1, 1), (71, .if_icmp .ne 7, 3), (74, .iconst 1, 1), (75, .goto 4, 3), (87, .aload_n 0, 1), (88, .iload_n 3, 1), (89, .invokevirtual 582, 3), (92, .goto 4, 3), (31, .aload_n 0, 1), (32, .getfield 155, 3), (35, .iload_n 3, 1), (36, .iaload, 1), (37, .iconst 1, 1), (38, .if_icmp .ne 40, 3), (41, .goto 33, 3)] = true := by decide +kernel
theorem dX12_closeAll_0 : decode cX12_closeAll 0 = .ok (.iconst 0, 1) := dr9 dk9_dX12_closeAll_0_0.1 0 (0, .iconst 0, 1) rfl
theorem dX12_closeAll_1 : decode cX12_closeAll 1 = .ok (.istore_n 2, 1) := dr9 dk9_dX12_closeAll_0_0.1 1 (1, .istore_n 2, 1) rfl
theorem dX12_closeAll_2 : decode cX12_closeAll 2 = .ok (.aload_n 0, 1) := dr9 dk9_dX12_closeAll_0_0.1 2 (2, .aload_n 0, 1) rfl
theorem dX12_closeAll_3 : decode cX12_closeAll 3 = .ok (.getfield 244, 3) := dr9 dk9_dX12_closeAll_0_0.1 3 (3, .getfield 244, 3) rfl
theorem dX12_closeAll_6 : decode cX12_closeAll 6 = .ok (.iconst 1, 1) := dr9 dk9_dX12_closeAll_0_0.1 4 (6, .iconst 1, 1) rfl
theorem dX12_closeAll_7 : decode cX12_closeAll 7 = .ok (.isub, 1) := dr9 dk9_dX12_closeAll_0_0.1 5 (7, .isub, 1) rfl
theorem dX12_closeAll_8 : decode cX12_closeAll 8 = .ok (.istore_n 3, 1) := dr9 dk9_dX12_closeAll_0_0.1 6 (8, .istore_n 3, 1) rfl
theorem dX12_closeAll_9 : decode cX12_closeAll 9 = .ok (.iload_n 3, 1) := dr9 dk9_dX12_closeAll_0_0.1 7 (9, .iload_n 3, 1) rfl
theorem dX12_closeAll_10 : decode cX12_closeAll 10 = .ok (.ifCond .le 94, 3) := dr9 dk9_dX12_closeAll_0_0.1 8 (10, .ifCond .le 94, 3) rfl
theorem dX12_closeAll_104 : decode cX12_closeAll 104 = .ok (.aload_n 0, 1) := dr9 dk9_dX12_closeAll_0_0.1 9 (104, .aload_n 0, 1) rfl
theorem dX12_closeAll_105 : decode cX12_closeAll 105 = .ok (.iload_n 1, 1) := dr9 dk9_dX12_closeAll_0_0.1 10 (105, .iload_n 1, 1) rfl
theorem dX12_closeAll_106 : decode cX12_closeAll 106 = .ok (.invokevirtual 585, 3) := dr9 dk9_dX12_closeAll_0_0.1 11 (106, .invokevirtual 585, 3) rfl
theorem dX12_closeAll_109 : decode cX12_closeAll 109 = .ok (.istore_n 3, 1) := dr9 dk9_dX12_closeAll_0_0.1 12 (109, .istore_n 3, 1) rfl
theorem dX12_closeAll_110 : decode cX12_closeAll 110 = .ok (.iload_n 3, 1) := dr9 dk9_dX12_closeAll_0_0.1 13 (110, .iload_n 3, 1) rfl
theorem dX12_closeAll_111 : decode cX12_closeAll 111 = .ok (.ifCond .lt 43, 3) := dr9 dk9_dX12_closeAll_0_0.1 14 (111, .ifCond .lt 43, 3) rfl
theorem dX12_closeAll_154 : decode cX12_closeAll 154 = .ok (.aload_n 0, 1) := dr9 dk9_dX12_closeAll_0_0.1 15 (154, .aload_n 0, 1) rfl
theorem dX12_closeAll_155 : decode cX12_closeAll 155 = .ok (.getfield 152, 3) := dr9 dk9_dX12_closeAll_0_0.1 16 (155, .getfield 152, 3) rfl
theorem dX12_closeAll_158 : decode cX12_closeAll 158 = .ok (.iload_n 1, 1) := dr9 dk9_dX12_closeAll_0_0.1 17 (158, .iload_n 1, 1) rfl
theorem dX12_closeAll_159 : decode cX12_closeAll 159 = .ok (.iload_n 1, 1) := dr9 dk9_dX12_closeAll_0_0.1 18 (159, .iload_n 1, 1) rfl
theorem dX12_closeAll_160 : decode cX12_closeAll 160 = .ok (.ifCond .ne 7, 3) := dr9 dk9_dX12_closeAll_0_0.1 19 (160, .ifCond .ne 7, 3) rfl
theorem dX12_closeAll_167 : decode cX12_closeAll 167 = .ok (.iconst 0, 1) := dr9 dk9_dX12_closeAll_0_0.1 20 (167, .iconst 0, 1) rfl
theorem dX12_closeAll_168 : decode cX12_closeAll 168 = .ok (.bastore, 1) := dr9 dk9_dX12_closeAll_0_0.1 21 (168, .bastore, 1) rfl
theorem dX12_closeAll_169 : decode cX12_closeAll 169 = .ok (.iconst 0, 1) := dr9 dk9_dX12_closeAll_0_0.1 22 (169, .iconst 0, 1) rfl
theorem dX12_closeAll_170 : decode cX12_closeAll 170 = .ok (.istore 4, 2) := dr9 dk9_dX12_closeAll_0_0.1 23 (170, .istore 4, 2) rfl
theorem dX12_closeAll_172 : decode cX12_closeAll 172 = .ok (.iload 4, 2) := dr9 dk9_dX12_closeAll_0_0.2.1 0 (172, .iload 4, 2) rfl
theorem dX12_closeAll_174 : decode cX12_closeAll 174 = .ok (.bipush 24, 2) := dr9 dk9_dX12_closeAll_0_0.2.1 1 (174, .bipush 24, 2) rfl
theorem dX12_closeAll_176 : decode cX12_closeAll 176 = .ok (.if_icmp .ge 22, 3) := dr9 dk9_dX12_closeAll_0_0.2.1 2 (176, .if_icmp .ge 22, 3) rfl
theorem dX12_closeAll_198 : decode cX12_closeAll 198 = .ok (.iload_n 2, 1) := dr9 dk9_dX12_closeAll_0_0.2.1 3 (198, .iload_n 2, 1) rfl
theorem dX12_closeAll_199 : decode cX12_closeAll 199 = .ok (.ireturn, 1) := dr9 dk9_dX12_closeAll_0_0.2.1 4 (199, .ireturn, 1) rfl
theorem dX12_closeAll_179 : decode cX12_closeAll 179 = .ok (.aload_n 0, 1) := dr9 dk9_dX12_closeAll_0_0.2.1 5 (179, .aload_n 0, 1) rfl
theorem dX12_closeAll_180 : decode cX12_closeAll 180 = .ok (.getfield 161, 3) := dr9 dk9_dX12_closeAll_0_0.2.1 6 (180, .getfield 161, 3) rfl
theorem dX12_closeAll_183 : decode cX12_closeAll 183 = .ok (.bipush 24, 2) := dr9 dk9_dX12_closeAll_0_0.2.1 7 (183, .bipush 24, 2) rfl
theorem dX12_closeAll_185 : decode cX12_closeAll 185 = .ok (.iload_n 1, 1) := dr9 dk9_dX12_closeAll_0_0.2.1 8 (185, .iload_n 1, 1) rfl
theorem dX12_closeAll_186 : decode cX12_closeAll 186 = .ok (.imul, 1) := dr9 dk9_dX12_closeAll_0_0.2.1 9 (186, .imul, 1) rfl
theorem dX12_closeAll_187 : decode cX12_closeAll 187 = .ok (.iload 4, 2) := dr9 dk9_dX12_closeAll_0_0.2.1 10 (187, .iload 4, 2) rfl
theorem dX12_closeAll_189 : decode cX12_closeAll 189 = .ok (.iadd, 1) := dr9 dk9_dX12_closeAll_0_0.2.1 11 (189, .iadd, 1) rfl
theorem dX12_closeAll_190 : decode cX12_closeAll 190 = .ok (.iconst 0, 1) := dr9 dk9_dX12_closeAll_0_0.2.1 12 (190, .iconst 0, 1) rfl
theorem dX12_closeAll_191 : decode cX12_closeAll 191 = .ok (.bastore, 1) := dr9 dk9_dX12_closeAll_0_0.2.1 13 (191, .bastore, 1) rfl
theorem dX12_closeAll_192 : decode cX12_closeAll 192 = .ok (.iinc 4 1, 3) := dr9 dk9_dX12_closeAll_0_0.2.1 14 (192, .iinc 4 1, 3) rfl
theorem dX12_closeAll_195 : decode cX12_closeAll 195 = .ok (.goto (-23), 3) := dr9 dk9_dX12_closeAll_0_0.2.1 15 (195, .goto (-23), 3) rfl
theorem dX12_closeAll_163 : decode cX12_closeAll 163 = .ok (.iconst 1, 1) := dr9 dk9_dX12_closeAll_0_0.2.1 16 (163, .iconst 1, 1) rfl
theorem dX12_closeAll_164 : decode cX12_closeAll 164 = .ok (.goto 4, 3) := dr9 dk9_dX12_closeAll_0_0.2.1 17 (164, .goto 4, 3) rfl
theorem dX12_closeAll_114 : decode cX12_closeAll 114 = .ok (.aload_n 0, 1) := dr9 dk9_dX12_closeAll_0_0.2.1 18 (114, .aload_n 0, 1) rfl
theorem dX12_closeAll_115 : decode cX12_closeAll 115 = .ok (.iload_n 3, 1) := dr9 dk9_dX12_closeAll_0_0.2.1 19 (115, .iload_n 3, 1) rfl
theorem dX12_closeAll_116 : decode cX12_closeAll 116 = .ok (.invokevirtual 513, 3) := dr9 dk9_dX12_closeAll_0_0.2.1 20 (116, .invokevirtual 513, 3) rfl
theorem dX12_closeAll_119 : decode cX12_closeAll 119 = .ok (.istore 4, 2) := dr9 dk9_dX12_closeAll_0_0.2.1 21 (119, .istore 4, 2) rfl
theorem dX12_closeAll_121 : decode cX12_closeAll 121 = .ok (.aload_n 0, 1) := dr9 dk9_dX12_closeAll_0_0.2.1 22 (121, .aload_n 0, 1) rfl
theorem dX12_closeAll_122 : decode cX12_closeAll 122 = .ok (.aload_n 0, 1) := dr9 dk9_dX12_closeAll_0_0.2.1 23 (122, .aload_n 0, 1) rfl
theorem dX12_closeAll_123 : decode cX12_closeAll 123 = .ok (.getfield 588, 3) := dr9 dk9_dX12_closeAll_0_0.2.2.1 0 (123, .getfield 588, 3) rfl
theorem dX12_closeAll_126 : decode cX12_closeAll 126 = .ok (.ifCond .ne 8, 3) := dr9 dk9_dX12_closeAll_0_0.2.2.1 1 (126, .ifCond .ne 8, 3) rfl
theorem dX12_closeAll_134 : decode cX12_closeAll 134 = .ok (.iconst 1, 1) := dr9 dk9_dX12_closeAll_0_0.2.2.1 2 (134, .iconst 1, 1) rfl
theorem dX12_closeAll_135 : decode cX12_closeAll 135 = .ok (.goto 4, 3) := dr9 dk9_dX12_closeAll_0_0.2.2.1 3 (135, .goto 4, 3) rfl
theorem dX12_closeAll_139 : decode cX12_closeAll 139 = .ok (.putfield 588, 3) := dr9 dk9_dX12_closeAll_0_0.2.2.1 4 (139, .putfield 588, 3) rfl
theorem dX12_closeAll_142 : decode cX12_closeAll 142 = .ok (.iinc 2 1, 3) := dr9 dk9_dX12_closeAll_0_0.2.2.1 5 (142, .iinc 2 1, 3) rfl
theorem dX12_closeAll_145 : decode cX12_closeAll 145 = .ok (.aload_n 0, 1) := dr9 dk9_dX12_closeAll_0_0.2.2.1 6 (145, .aload_n 0, 1) rfl
theorem dX12_closeAll_146 : decode cX12_closeAll 146 = .ok (.iload_n 1, 1) := dr9 dk9_dX12_closeAll_0_0.2.2.1 7 (146, .iload_n 1, 1) rfl
theorem dX12_closeAll_147 : decode cX12_closeAll 147 = .ok (.invokevirtual 585, 3) := dr9 dk9_dX12_closeAll_0_0.2.2.1 8 (147, .invokevirtual 585, 3) rfl
theorem dX12_closeAll_150 : decode cX12_closeAll 150 = .ok (.istore_n 3, 1) := dr9 dk9_dX12_closeAll_0_0.2.2.1 9 (150, .istore_n 3, 1) rfl
theorem dX12_closeAll_151 : decode cX12_closeAll 151 = .ok (.goto (-41), 3) := dr9 dk9_dX12_closeAll_0_0.2.2.1 10 (151, .goto (-41), 3) rfl
theorem dX12_closeAll_129 : decode cX12_closeAll 129 = .ok (.iload 4, 2) := dr9 dk9_dX12_closeAll_0_0.2.2.1 11 (129, .iload 4, 2) rfl
theorem dX12_closeAll_131 : decode cX12_closeAll 131 = .ok (.ifCond .eq 7, 3) := dr9 dk9_dX12_closeAll_0_0.2.2.1 12 (131, .ifCond .eq 7, 3) rfl
theorem dX12_closeAll_138 : decode cX12_closeAll 138 = .ok (.iconst 0, 1) := dr9 dk9_dX12_closeAll_0_0.2.2.1 13 (138, .iconst 0, 1) rfl
theorem dX12_closeAll_13 : decode cX12_closeAll 13 = .ok (.aload_n 0, 1) := dr9 dk9_dX12_closeAll_0_0.2.2.1 14 (13, .aload_n 0, 1) rfl
theorem dX12_closeAll_14 : decode cX12_closeAll 14 = .ok (.getfield 152, 3) := dr9 dk9_dX12_closeAll_0_0.2.2.1 15 (14, .getfield 152, 3) rfl
theorem dX12_closeAll_17 : decode cX12_closeAll 17 = .ok (.iload_n 3, 1) := dr9 dk9_dX12_closeAll_0_0.2.2.1 16 (17, .iload_n 3, 1) rfl
theorem dX12_closeAll_18 : decode cX12_closeAll 18 = .ok (.baload, 1) := dr9 dk9_dX12_closeAll_0_0.2.2.1 17 (18, .baload, 1) rfl
theorem dX12_closeAll_19 : decode cX12_closeAll 19 = .ok (.ifCond .eq 59, 3) := dr9 dk9_dX12_closeAll_0_0.2.2.1 18 (19, .ifCond .eq 59, 3) rfl
theorem dX12_closeAll_78 : decode cX12_closeAll 78 = .ok (.iconst 0, 1) := dr9 dk9_dX12_closeAll_0_0.2.2.1 19 (78, .iconst 0, 1) rfl
theorem dX12_closeAll_79 : decode cX12_closeAll 79 = .ok (.istore 4, 2) := dr9 dk9_dX12_closeAll_0_0.2.2.1 20 (79, .istore 4, 2) rfl
theorem dX12_closeAll_81 : decode cX12_closeAll 81 = .ok (.iload_n 2, 1) := dr9 dk9_dX12_closeAll_0_0.2.2.1 21 (81, .iload_n 2, 1) rfl
theorem dX12_closeAll_82 : decode cX12_closeAll 82 = .ok (.iload 4, 2) := dr9 dk9_dX12_closeAll_0_0.2.2.1 22 (82, .iload 4, 2) rfl
theorem dX12_closeAll_84 : decode cX12_closeAll 84 = .ok (.ifCond .eq 11, 3) := dr9 dk9_dX12_closeAll_0_0.2.2.1 23 (84, .ifCond .eq 11, 3) rfl
theorem dX12_closeAll_95 : decode cX12_closeAll 95 = .ok (.iconst 0, 1) := dr9 dk9_dX12_closeAll_0_0.2.2.2.1 0 (95, .iconst 0, 1) rfl
theorem dX12_closeAll_96 : decode cX12_closeAll 96 = .ok (.iadd, 1) := dr9 dk9_dX12_closeAll_0_0.2.2.2.1 1 (96, .iadd, 1) rfl
theorem dX12_closeAll_97 : decode cX12_closeAll 97 = .ok (.istore_n 2, 1) := dr9 dk9_dX12_closeAll_0_0.2.2.2.1 2 (97, .istore_n 2, 1) rfl
theorem dX12_closeAll_98 : decode cX12_closeAll 98 = .ok (.iinc 3 (-1), 3) := dr9 dk9_dX12_closeAll_0_0.2.2.2.1 3 (98, .iinc 3 (-1), 3) rfl
theorem dX12_closeAll_101 : decode cX12_closeAll 101 = .ok (.goto (-92), 3) := dr9 dk9_dX12_closeAll_0_0.2.2.2.1 4 (101, .goto (-92), 3) rfl
theorem dX12_closeAll_22 : decode cX12_closeAll 22 = .ok (.aload_n 0, 1) := dr9 dk9_dX12_closeAll_0_0.2.2.2.1 5 (22, .aload_n 0, 1) rfl
theorem dX12_closeAll_23 : decode cX12_closeAll 23 = .ok (.getfield 155, 3) := dr9 dk9_dX12_closeAll_0_0.2.2.2.1 6 (23, .getfield 155, 3) rfl
theorem dX12_closeAll_26 : decode cX12_closeAll 26 = .ok (.iload_n 1, 1) := dr9 dk9_dX12_closeAll_0_0.2.2.2.1 7 (26, .iload_n 1, 1) rfl
theorem dX12_closeAll_27 : decode cX12_closeAll 27 = .ok (.iaload, 1) := dr9 dk9_dX12_closeAll_0_0.2.2.2.1 8 (27, .iaload, 1) rfl
theorem dX12_closeAll_28 : decode cX12_closeAll 28 = .ok (.ifCond .ne 16, 3) := dr9 dk9_dX12_closeAll_0_0.2.2.2.1 9 (28, .ifCond .ne 16, 3) rfl
theorem dX12_closeAll_44 : decode cX12_closeAll 44 = .ok (.aload_n 0, 1) := dr9 dk9_dX12_closeAll_0_0.2.2.2.1 10 (44, .aload_n 0, 1) rfl
theorem dX12_closeAll_45 : decode cX12_closeAll 45 = .ok (.getfield 155, 3) := dr9 dk9_dX12_closeAll_0_0.2.2.2.1 11 (45, .getfield 155, 3) rfl
theorem dX12_closeAll_48 : decode cX12_closeAll 48 = .ok (.iload_n 1, 1) := dr9 dk9_dX12_closeAll_0_0.2.2.2.1 12 (48, .iload_n 1, 1) rfl
theorem dX12_closeAll_49 : decode cX12_closeAll 49 = .ok (.iaload, 1) := dr9 dk9_dX12_closeAll_0_0.2.2.2.1 13 (49, .iaload, 1) rfl
theorem dX12_closeAll_50 : decode cX12_closeAll 50 = .ok (.iconst 1, 1) := dr9 dk9_dX12_closeAll_0_0.2.2.2.1 14 (50, .iconst 1, 1) rfl
theorem dX12_closeAll_51 : decode cX12_closeAll 51 = .ok (.if_icmp .ne 27, 3) := dr9 dk9_dX12_closeAll_0_0.2.2.2.1 15 (51, .if_icmp .ne 27, 3) rfl
theorem dX12_closeAll_54 : decode cX12_closeAll 54 = .ok (.aload_n 0, 1) := dr9 dk9_dX12_closeAll_0_0.2.2.2.1 16 (54, .aload_n 0, 1) rfl
theorem dX12_closeAll_55 : decode cX12_closeAll 55 = .ok (.getfield 155, 3) := dr9 dk9_dX12_closeAll_0_0.2.2.2.1 17 (55, .getfield 155, 3) rfl
theorem dX12_closeAll_58 : decode cX12_closeAll 58 = .ok (.iload_n 3, 1) := dr9 dk9_dX12_closeAll_0_0.2.2.2.1 18 (58, .iload_n 3, 1) rfl
theorem dX12_closeAll_59 : decode cX12_closeAll 59 = .ok (.iaload, 1) := dr9 dk9_dX12_closeAll_0_0.2.2.2.1 19 (59, .iaload, 1) rfl
theorem dX12_closeAll_60 : decode cX12_closeAll 60 = .ok (.iconst 2, 1) := dr9 dk9_dX12_closeAll_0_0.2.2.2.1 20 (60, .iconst 2, 1) rfl
theorem dX12_closeAll_61 : decode cX12_closeAll 61 = .ok (.if_icmp .ne 17, 3) := dr9 dk9_dX12_closeAll_0_0.2.2.2.1 21 (61, .if_icmp .ne 17, 3) rfl
theorem dX12_closeAll_64 : decode cX12_closeAll 64 = .ok (.aload_n 0, 1) := dr9 dk9_dX12_closeAll_0_0.2.2.2.1 22 (64, .aload_n 0, 1) rfl
theorem dX12_closeAll_65 : decode cX12_closeAll 65 = .ok (.getfield 158, 3) := dr9 dk9_dX12_closeAll_0_0.2.2.2.1 23 (65, .getfield 158, 3) rfl
theorem dX12_closeAll_68 : decode cX12_closeAll 68 = .ok (.iload_n 3, 1) := dr9 dk9_dX12_closeAll_0_0.2.2.2.2 0 (68, .iload_n 3, 1) rfl
theorem dX12_closeAll_69 : decode cX12_closeAll 69 = .ok (.iaload, 1) := dr9 dk9_dX12_closeAll_0_0.2.2.2.2 1 (69, .iaload, 1) rfl
theorem dX12_closeAll_70 : decode cX12_closeAll 70 = .ok (.iload_n 1, 1) := dr9 dk9_dX12_closeAll_0_0.2.2.2.2 2 (70, .iload_n 1, 1) rfl
theorem dX12_closeAll_71 : decode cX12_closeAll 71 = .ok (.if_icmp .ne 7, 3) := dr9 dk9_dX12_closeAll_0_0.2.2.2.2 3 (71, .if_icmp .ne 7, 3) rfl
theorem dX12_closeAll_74 : decode cX12_closeAll 74 = .ok (.iconst 1, 1) := dr9 dk9_dX12_closeAll_0_0.2.2.2.2 4 (74, .iconst 1, 1) rfl
theorem dX12_closeAll_75 : decode cX12_closeAll 75 = .ok (.goto 4, 3) := dr9 dk9_dX12_closeAll_0_0.2.2.2.2 5 (75, .goto 4, 3) rfl
theorem dX12_closeAll_87 : decode cX12_closeAll 87 = .ok (.aload_n 0, 1) := dr9 dk9_dX12_closeAll_0_0.2.2.2.2 6 (87, .aload_n 0, 1) rfl
theorem dX12_closeAll_88 : decode cX12_closeAll 88 = .ok (.iload_n 3, 1) := dr9 dk9_dX12_closeAll_0_0.2.2.2.2 7 (88, .iload_n 3, 1) rfl
theorem dX12_closeAll_89 : decode cX12_closeAll 89 = .ok (.invokevirtual 582, 3) := dr9 dk9_dX12_closeAll_0_0.2.2.2.2 8 (89, .invokevirtual 582, 3) rfl
theorem dX12_closeAll_92 : decode cX12_closeAll 92 = .ok (.goto 4, 3) := dr9 dk9_dX12_closeAll_0_0.2.2.2.2 9 (92, .goto 4, 3) rfl
theorem dX12_closeAll_31 : decode cX12_closeAll 31 = .ok (.aload_n 0, 1) := dr9 dk9_dX12_closeAll_0_0.2.2.2.2 10 (31, .aload_n 0, 1) rfl
theorem dX12_closeAll_32 : decode cX12_closeAll 32 = .ok (.getfield 155, 3) := dr9 dk9_dX12_closeAll_0_0.2.2.2.2 11 (32, .getfield 155, 3) rfl
theorem dX12_closeAll_35 : decode cX12_closeAll 35 = .ok (.iload_n 3, 1) := dr9 dk9_dX12_closeAll_0_0.2.2.2.2 12 (35, .iload_n 3, 1) rfl
theorem dX12_closeAll_36 : decode cX12_closeAll 36 = .ok (.iaload, 1) := dr9 dk9_dX12_closeAll_0_0.2.2.2.2 13 (36, .iaload, 1) rfl
theorem dX12_closeAll_37 : decode cX12_closeAll 37 = .ok (.iconst 1, 1) := dr9 dk9_dX12_closeAll_0_0.2.2.2.2 14 (37, .iconst 1, 1) rfl
theorem dX12_closeAll_38 : decode cX12_closeAll 38 = .ok (.if_icmp .ne 40, 3) := dr9 dk9_dX12_closeAll_0_0.2.2.2.2 15 (38, .if_icmp .ne 40, 3) rfl
theorem dX12_closeAll_41 : decode cX12_closeAll 41 = .ok (.goto 33, 3) := dr9 dk9_dX12_closeAll_0_0.2.2.2.2 16 (41, .goto 33, 3) rfl
abbrev r_s_callsT : Room := { frames := 1608, cells := 0, slots := 0, locals := 40320 }
abbrev q_s_callsT (D : va_G) (ks : KS) (ad : Nat → Nat) (kk : Nat → ClassId) (V : Vf) (L : Lf) (p0 : Int32) (p1 : Int32) (p2 : Int32) (p3 : Int32) (A : Nat → Prop) : Array Value → State → Outcome → State → Prop := q_s_calls D ks ad kk V L p0 p1 p2 p3 A
abbrev r_s_getsWholeT : Room := { frames := 1616, cells := 0, slots := 0, locals := 40620 }
abbrev q_s_getsWholeT (D : va_G) (ks : KS) (ad : Nat → Nat) (kk : Nat → ClassId) (V : Vf) (L : Lf) (p0 : Int32) (p1 : Int32) (A : Nat → Prop) : Array Value → State → Outcome → State → Prop := q_s_getsWhole D ks ad kk V L p0 p1 A
abbrev r_s_closesT : Room := { frames := 1613, cells := 0, slots := 0, locals := 40500 }
abbrev q_s_closesT (D : va_G) (ks : KS) (ad : Nat → Nat) (kk : Nat → ClassId) (V : Vf) (L : Lf) (p0 : Int32) (A : Nat → Prop) : Array Value → State → Outcome → State → Prop := q_s_closes D ks ad kk V L p0 A
abbrev r_s_begins2 : Room := { frames := 0, cells := 0, slots := 0, locals := 0 }
abbrev q_s_begins2 (D : va_G) (ks : KS) (ad : Nat → Nat) (kk : Nat → ClassId) (V : Vf) (L : Lf) (A : Nat → Prop) : Array Value → State → Outcome → State → Prop := va_Qv (fun (u : Vf × Lf) => rgd bM u.1 ∧ agr [(0, 69), (0, 71), (0, 72), (0, 93), (0, 95), (0, 98)] [] V u.1 ∧ u.2 = L ∧ ((u.1 0 69).toInt = 0) ∧ ((u.1 0 93).toInt = 0) ∧ ((u.1 0 98).toInt = 0) ∧ ((u.1 0 95).toInt = 0)) (fun u t => gq D A (mw ad kk ks.1 u.1 u.2) (mty kk) t) A
abbrev r_s_latestIn2 : Room := { frames := 0, cells := 0, slots := 0, locals := 0 }
abbrev q_s_latestIn2 (D : va_G) (ks : KS) (ad : Nat → Nat) (kk : Nat → ClassId) (V : Vf) (L : Lf) (p0 : Int32) (A : Nat → Prop) : Array Value → State → Outcome → State → Prop := va_Qi (fun (r : Int32) (_ : Unit) => ((-1) ≤ r.toInt ∧ r.toInt ≤ 299) ∧ (r.toInt < (V 0 60).toInt) ∧ (Imp (0 ≤ r.toInt) ((V 63 (Int32.toNatClampNeg r)).toInt = 1))) (fun _ t => gq D A (mw ad kk ks.1 V L) (mty kk) t) A
abbrev q_s_closeAll (D : va_G) (ks : KS) (ad : Nat → Nat) (kk : Nat → ClassId) (V : Vf) (L : Lf) (p0 : Int32) (A : Nat → Prop) : Array Value → State → Outcome → State → Prop := va_Qi (fun (r : Int32) (u : Vf × Lf) => rgd bM u.1 ∧ agr [(0, 60), (0, 65), (0, 68), (0, 69), (0, 73), (0, 76), (0, 90), (0, 91), (0, 92), (0, 93), (0, 95), (0, 96), (0, 98), (0, 99)] [56, 59, 61, 62, 63, 64, 66, 67, 74, 75, 77, 78, 79, 80, 94, 97] V u.1 ∧ u.2 = L ∧ ((u.1 0 93).toInt = (V 0 93).toInt) ∧ ((u.1 0 98).toInt = (V 0 98).toInt) ∧ ((u.1 0 65).toInt ≤ (u.1 0 60).toInt) ∧ ((u.1 0 73).toInt - (u.1 0 65).toInt + (mu u.1 : Int) ≤ (V 0 73).toInt - (V 0 65).toInt + (mu V : Int)) ∧ ((u.1 0 76).toInt - (u.1 0 69).toInt - (u.1 0 73).toInt ≤ (V 0 76).toInt - (V 0 69).toInt - (V 0 73).toInt) ∧ (RT0 u.1)) (fun u t => gq D A (mw ad kk ks.1 u.1 u.2) (mty kk) t) A
def K_s_closeAll (l : Launch) (D : va_G) (ks : KS) (d3 : Nat) : Prop := ∀ (sz : Nat) (ad : Nat → Nat) (kk : Nat → ClassId) (V : Vf) (L : Lf) (p0 : Int32) (hMV : rgd bM V) (rg_p0 : 0 ≤ p0.toInt ∧ p0.toInt ≤ 39) (r0 : RT0 V) (n1 : (V 0 65).toInt ≤ (V 0 60).toInt) (n3 : (V 0 73).toInt - (V 0 65).toInt + (mu V : Int) ≤ 998000) (n4 : (V 0 76).toInt - (V 0 69).toInt - (V 0 73).toInt ≤ 1000000000) (m5 : (V 0 98).toInt = 0) (m6 : (V 0 93).toInt = 0) (c1 : 2 ≤ (d3 : Int) ∨ ((V 57 (Int32.toNatClampNeg p0)).toInt ≠ 0 ∧ (1 ≤ (d3 : Int) ∨ (V 57 (Int32.toNatClampNeg p0)).toInt ≠ 1))) , Met l yX12_closeAll (Cond.code yX12_closeAll cX12_closeAll 5 (some .int) :: GW) (rK2 (2 * d3 + 1616) (40 * d3 + 40600)) (va_Pc [.ref (ad 0), .int p0] (gp D ks (mw ad kk ks.1 V L) (mty kk) sz)) (q_s_closeAll D ks ad kk V L p0 (va_A (mw ad kk ks.1 V L) sz)) 0 0 (va_A (mw ad kk ks.1 V L) sz)