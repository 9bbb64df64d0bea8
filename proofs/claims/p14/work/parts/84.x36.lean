/-! another BOOK -/
theorem BE.tr {V W X : Vf} (h : BE V W) (k : BE W X) : BE V X := fun c i a1 a2 => (k c i a1 a2).trans (h c i a1 a2)
theorem BE.rf {V : Vf} : BE V V := fun _ _ _ _ => rfl
theorem BE.ag {fs : List (Nat × Nat)} {cs : List Nat} {V W : Vf} (a : agr fs cs V W) (h1 : ∀ y ∈ fs, y.1 ≤ 40) (h2 : ∀ y ∈ cs, ¬ (41 ≤ y ∧ y ≤ 66)) : BE V W := fun c k q1 q2 => frX.ag (R := fun _ => (0, 0)) a h1 h2 c k ⟨q1, q2⟩ (Or.inr (Nat.zero_le _))
theorem CD.p0 {V W : Vf} {b : Nat} (h : CD V b) (p : p0x V W b) (e42 : W 42 b = V 42 b) (h0 : 0 ≤ (V 42 b).toInt) : CD W b := by
  refine ⟨⟨fun q => ?_, fun q g1 g2 => ?_⟩, fun q g1 g2 => ?_⟩
  · rw [e42] at q ⊢
    rw [p.bd (by omega)]
    exact h.1.1 q
  · rw [e42] at g1
    rw [p.bd (by omega)] at g2
    rw [p.2 q (by omega), p.2 (q + 1) (by omega)]
    exact (h.1.2 q g1 g2).up p
  · rw [e42] at g1
    rw [p.bd (by omega)] at g2
    rw [p.2 q g1]
    exact h.2 q g1 g2
theorem HI.fr {V W : Vf} {Z : XZ} {b b1 : Nat} (h : HI V Z b) (hbb : b + b1 = 1) (hM : rgd bX V) (f : frX (xR b1) V W) (e13 : W 3 13 = V 3 13) (e15 : W 3 15 = V 3 15) (e5 : W 5 5 = V 5 5) (e26 : ∀ k, W 26 k = V 26 k) (e30 : ∀ k, W 30 k = V 30 k) (e32 : ∀ k, W 32 k = V 32 k) (e25 : ∀ k, W 25 k = V 25 k) : HI W Z b := by
  have b43 : (V 43 (5 * b + 2)).toInt ≤ 24 := by
    have q : (V 43 (5 * b + 2)).toInt ≤ ((xcap (5 * b + 2) : Nat) : Int) := (hM 43 (5 * b + 2)).2
    rw [xcap_2] at q
    exact q
  have b41 : (V 41 b).toInt ≤ 12 := (hM 41 b).2
  have b42 : 0 ≤ (V 42 b).toInt ∧ (V 42 b).toInt ≤ 8200 := hM 42 b
  have e41 : W 41 b = V 41 b := f 41 b ⟨by decide, by decide⟩ (by show b < b1 ∨ b1 + 1 ≤ b; omega)
  have e42 : W 42 b = V 42 b := f 42 b ⟨by decide, by decide⟩ (by show b < b1 ∨ b1 + 1 ≤ b; omega)
  have e43 : W 43 (5 * b + 2) = V 43 (5 * b + 2) := f 43 _ ⟨by decide, by decide⟩ (by show 5 * b + 2 < 5 * b1 ∨ 5 * b1 + 5 ≤ 5 * b + 2; omega)
  have e44 : W 44 0 = V 44 0 := f 44 0 ⟨by decide, by decide⟩ (Or.inr (Nat.le_refl 0))
  have e47 : ∀ k, k < 12 → W 47 (12 * b + k) = V 47 (12 * b + k) := fun k hk => f 47 _ ⟨by decide, by decide⟩ (by show 12 * b + k < 12 * b1 ∨ 12 * b1 + 12 ≤ 12 * b + k; omega)
  have e48 : ∀ k, k < 8200 → W 48 (8200 * b + k) = V 48 (8200 * b + k) := fun k hk => f 48 _ ⟨by decide, by decide⟩ (by show 8200 * b + k < 8200 * b1 ∨ 8200 * b1 + 8200 ≤ 8200 * b + k; omega)
  have e56 : ∀ k, k < 24 → W 56 (24 * b + k) = V 56 (24 * b + k) := fun k hk => f 56 _ ⟨by decide, by decide⟩ (by show 24 * b + k < 24 * b1 ∨ 24 * b1 + 24 ≤ 24 * b + k; omega)
  have e57 : ∀ k, k < 24 → W 57 (24 * b + k) = V 57 (24 * b + k) := fun k hk => f 57 _ ⟨by decide, by decide⟩ (by show 24 * b + k < 24 * b1 ∨ 24 * b1 + 24 ≤ 24 * b + k; omega)
  have e61 : ∀ k m, k < 24 → m < 20 → W 61 (20 * (24 * b + k) + m) = V 61 (20 * (24 * b + k) + m) := fun k m hk hm => f 61 _ ⟨by decide, by decide⟩ (by show 20 * (24 * b + k) + m < 480 * b1 ∨ 480 * b1 + 480 ≤ 20 * (24 * b + k) + m; omega)
  have e66 : ∀ k, k < 12 → W 66 (12 * b + k) = V 66 (12 * b + k) := fun k hk => f 66 _ ⟨by decide, by decide⟩ (by show 12 * b + k < 12 * b1 ∨ 12 * b1 + 12 ≤ 12 * b + k; omega)
  have p : p0x V W b := ⟨by rw [e42]; exact Int.le_refl _, fun k hk => e48 k (by omega)⟩
  have ht := h.2.2.2.2.2.1
  refine ⟨?_, h.2.1, ?_, by rw [e13, e15]; exact h.2.2.2.1, by rw [e13, e15, e44]; exact h.2.2.2.2.1, ⟨fun c hc => ?_, fun w hw => ?_, fun x hx => ?_⟩, h.2.2.2.2.2.2.1.p0 p e42 b42.1, by rw [e5]; exact h.2.2.2.2.2.2.2.1, h.2.2.2.2.2.2.2.2.1, ?_⟩
  · unfold SL
    rw [e15, e13]
    exact ⟨h.1.1, h.1.2.1, fun o k a1 a2 => by rw [e30]; exact h.1.2.2.1 o k a1 a2, fun i a1 => by rw [e32]; exact h.1.2.2.2 i a1⟩
  · intro o ho
    rw [e13] at ho
    rw [e26, e43]
    exact h.2.2.1 o ho
  · rw [e43] at hc
    have z := ht.1 c hc
    rw [e56 c (by omega), e57 c (by omega)]
    refine ⟨z.1.up p, z.2.1.up p, fun m hm => ?_⟩
    rw [e61 c m (by omega) hm]
    exact (z.2.2 m hm).up p
  · rw [e41] at hw
    rw [e66 w (by omega)]
    exact (ht.2.1 w hw).up p
  · rw [e41] at hx ⊢
    rw [e47 x (by omega)]
    exact ht.2.2 x hx
  · intro k hk
    rw [e25, e13]
    refine ⟨(h.2.2.2.2.2.2.2.2.2 k hk).1, fun o h1 => ?_⟩
    rw [e26]
    exact (h.2.2.2.2.2.2.2.2.2 k hk).2 o h1
theorem HI.new {V W : Vf} {Z : XZ} {b b1 : Nat} (h : HI V Z b) (hT : TX W b1) (hC : CD W b1) (h13 : (W 3 13).toInt = 0) (h15 : (W 3 15).toInt = 0) (h44 : 60900 ≤ (W 44 0).toInt ∧ (W 44 0).toInt ≤ 250000) (h5 : (W 5 5).toInt = (b1 : Int)) (hp : ∀ q : Nat, q < 960 → (W 25 q).toInt = -1) : HI W Z b1 := by
  refine ⟨⟨by omega, h.1.2.1, fun o k a1 _ => absurd a1 (by omega), fun i a1 => absurd a1 (by omega)⟩, h.2.1, fun o ho => absurd ho (by omega), by omega, by omega, hT, hC, h5, h.2.2.2.2.2.2.2.2.1, fun k hk => ?_⟩
  rw [hp k hk, h13]
  exact ⟨by decide, fun o h1 => absurd h1 (by omega)⟩

theorem w716 : Cond.fieldLink RX11 21 "WiringHouse" "reader" "LWiringHouse$BookReader;" ∈ GW := gw_k tk9_3 81 (by decide +kernel) rfl
theorem w722 : Cond.fieldLink RX11 53 "WiringHouse" "spare" "LWiringHouse$Book;" ∈ GW := gw_k tk9_3 87 (by decide +kernel) rfl
theorem w761 : Cond.code yX1_read cX1_read 4 (some .int) ∈ GW := gw_k tk9_3 126 (rfl) rfl
theorem w758 : Cond.methodLink RX11 73 yX1_read ∈ GW := gw_k tk9_3 123 (by decide +kernel) rfl
theorem w759 : Cond.instanceMethod yX1_read ∈ GW := gw_k tk9_3 124 (by decide +kernel) rfl
theorem w760 : Cond.selects RX1 yX1_read yX1_read ∈ GW := gw_k tk9_3 125 (by decide +kernel) rfl
theorem hdV_yX1_read : yX1_read.cls = RX1 ∧ yX1_read.cls ≠ "java/lang/invoke/MethodHandle" ∧ yX1_read.cls ≠ "java/lang/invoke/VarHandle" ∧ (parseMethodDescriptor yX1_read.desc).map (fun d => d.parameters.length) = some 1 := by decide +kernel
theorem w1026 : Cond.code yX8_clear cX8_clear 2 none ∈ GW := gw_k tk9_4 151 (rfl) rfl
theorem w1023 : Cond.methodLink RX11 80 yX8_clear ∈ GW := gw_k tk9_4 148 (by decide +kernel) rfl
theorem w1024 : Cond.instanceMethod yX8_clear ∈ GW := gw_k tk9_4 149 (by decide +kernel) rfl
theorem w1025 : Cond.selects RX8 yX8_clear yX8_clear ∈ GW := gw_k tk9_4 150 (by decide +kernel) rfl
theorem hdV_yX8_clear : yX8_clear.cls = RX8 ∧ yX8_clear.cls ≠ "java/lang/invoke/MethodHandle" ∧ yX8_clear.cls ≠ "java/lang/invoke/VarHandle" ∧ (parseMethodDescriptor yX8_clear.desc).map (fun d => d.parameters.length) = some 0 := by decide +kernel
theorem w1034 : Cond.code yX7_clear cX7_clear 1 none ∈ GW := gw_k tk9_4 159 (rfl) rfl
theorem w1031 : Cond.methodLink RX11 83 yX7_clear ∈ GW := gw_k tk9_4 156 (by decide +kernel) rfl
theorem w1032 : Cond.instanceMethod yX7_clear ∈ GW := gw_k tk9_4 157 (by decide +kernel) rfl
theorem w1033 : Cond.selects RX7 yX7_clear yX7_clear ∈ GW := gw_k tk9_4 158 (by decide +kernel) rfl
theorem hdV_yX7_clear : yX7_clear.cls = RX7 ∧ yX7_clear.cls ≠ "java/lang/invoke/MethodHandle" ∧ yX7_clear.cls ≠ "java/lang/invoke/VarHandle" ∧ (parseMethodDescriptor yX7_clear.desc).map (fun d => d.parameters.length) = some 0 := by decide +kernel
theorem w1038 : Cond.code yX2_clear cX2_clear 1 none ∈ GW := gw_k tk9_4 163 (rfl) rfl
theorem w1035 : Cond.methodLink RX11 84 yX2_clear ∈ GW := gw_k tk9_4 160 (by decide +kernel) rfl
theorem w1036 : Cond.instanceMethod yX2_clear ∈ GW := gw_k tk9_4 161 (by decide +kernel) rfl
theorem w1037 : Cond.selects RX2 yX2_clear yX2_clear ∈ GW := gw_k tk9_4 162 (by decide +kernel) rfl
theorem hdV_yX2_clear : yX2_clear.cls = RX2 ∧ yX2_clear.cls ≠ "java/lang/invoke/MethodHandle" ∧ yX2_clear.cls ≠ "java/lang/invoke/VarHandle" ∧ (parseMethodDescriptor yX2_clear.desc).map (fun d => d.parameters.length) = some 0 := by decide +kernel
theorem w1042 : Cond.code yX5_takeBook cX5_takeBook 2 none ∈ GW := gw_k tk9_4 167 (rfl) rfl
theorem w1039 : Cond.methodLink RX11 85 yX5_takeBook ∈ GW := gw_k tk9_4 164 (by decide +kernel) rfl
theorem w1040 : Cond.instanceMethod yX5_takeBook ∈ GW := gw_k tk9_4 165 (by decide +kernel) rfl
theorem w1041 : Cond.selects RX5 yX5_takeBook yX5_takeBook ∈ GW := gw_k tk9_4 166 (by decide +kernel) rfl
theorem hdV_yX5_takeBook : yX5_takeBook.cls = RX5 ∧ yX5_takeBook.cls ≠ "java/lang/invoke/MethodHandle" ∧ yX5_takeBook.cls ≠ "java/lang/invoke/VarHandle" ∧ (parseMethodDescriptor yX5_takeBook.desc).map (fun d => d.parameters.length) = some 1 := by decide +kernel
theorem dk9_dX11_book_0_0 : dOk cX11_book [(0, .aload_n 0, 1), (1, .getfield 21, 3), (4, .aload_n 0, 1), (5, .getfield 53, 3), (8, .invokevirtual 73, 3), (11, .istore_n 1, 1), (12, .aload_n 0, 1), (13, .getfield 10, 3), (16, .invokevirtual 77, 3), (19, .iload_n 1, 1), (20, .ifCond .eq 5, 3), (25, .aload_n 0, 1), (26, .getfield 49, 3), (29, .astore_n 2, 1), (30, .aload_n 0, 1), (31, .aload_n 0, 1), (32, .getfield 53, 3), (35, .putfield 49, 3), (38, .aload_n 0, 1), (39, .aload_n 2, 1), (40, .putfield 53, 3), (43, .aload_n 0, 1), (44, .getfield 35, 3), (47, .invokevirtual 80, 3)] = true ∧ dOk cX11_book [(50, .aload_n 0, 1), (51, .getfield 42, 3), (54, .invokevirtual 83, 3), (57, .aload_n 0, 1), (58, .getfield 28, 3), (61, .invokevirtual 84, 3), (64, .aload_n 0, 1), (65, .getfield 61, 3), (68, .aload_n 0, 1), (69, .getfield 49, 3), (72, .invokevirtual 85, 3), (75, .aload_n 0, 1), (76, .iconst 0, 1), (77, .putfield 89, 3), (80, .aload_n 0, 1), (81, .iconst 0, 1), (82, .putfield 93, 3), (85, .iconst 0, 1), (86, .ireturn, 1), (23, .iload_n 1, 1), (24, .ireturn, 1)] = true := by decide +kernel
theorem dX11_book_0 : decode cX11_book 0 = .ok (.aload_n 0, 1) := dr9 dk9_dX11_book_0_0.1 0 (0, .aload_n 0, 1) rfl
theorem dX11_book_1 : decode cX11_book 1 = .ok (.getfield 21, 3) := dr9 dk9_dX11_book_0_0.1 1 (1, .getfield 21, 3) rfl
theorem dX11_book_4 : decode cX11_book 4 = .ok (.aload_n 0, 1) := dr9 dk9_dX11_book_0_0.1 2 (4, .aload_n 0, 1) rfl
theorem dX11_book_5 : decode cX11_book 5 = .ok (.getfield 53, 3) := dr9 dk9_dX11_book_0_0.1 3 (5, .getfield 53, 3) rfl
theorem dX11_book_8 : decode cX11_book 8 = .ok (.invokevirtual 73, 3) := dr9 dk9_dX11_book_0_0.1 4 (8, .invokevirtual 73, 3) rfl
theorem dX11_book_11 : decode cX11_book 11 = .ok (.istore_n 1, 1) := dr9 dk9_dX11_book_0_0.1 5 (11, .istore_n 1, 1) rfl
theorem dX11_book_12 : decode cX11_book 12 = .ok (.aload_n 0, 1) := dr9 dk9_dX11_book_0_0.1 6 (12, .aload_n 0, 1) rfl
theorem dX11_book_13 : decode cX11_book 13 = .ok (.getfield 10, 3) := dr9 dk9_dX11_book_0_0.1 7 (13, .getfield 10, 3) rfl
theorem dX11_book_16 : decode cX11_book 16 = .ok (.invokevirtual 77, 3) := dr9 dk9_dX11_book_0_0.1 8 (16, .invokevirtual 77, 3) rfl
theorem dX11_book_19 : decode cX11_book 19 = .ok (.iload_n 1, 1) := dr9 dk9_dX11_book_0_0.1 9 (19, .iload_n 1, 1) rfl
theorem dX11_book_20 : decode cX11_book 20 = .ok (.ifCond .eq 5, 3) := dr9 dk9_dX11_book_0_0.1 10 (20, .ifCond .eq 5, 3) rfl
theorem dX11_book_25 : decode cX11_book 25 = .ok (.aload_n 0, 1) := dr9 dk9_dX11_book_0_0.1 11 (25, .aload_n 0, 1) rfl
theorem dX11_book_26 : decode cX11_book 26 = .ok (.getfield 49, 3) := dr9 dk9_dX11_book_0_0.1 12 (26, .getfield 49, 3) rfl
theorem dX11_book_29 : decode cX11_book 29 = .ok (.astore_n 2, 1) := dr9 dk9_dX11_book_0_0.1 13 (29, .astore_n 2, 1) rfl
theorem dX11_book_30 : decode cX11_book 30 = .ok (.aload_n 0, 1) := dr9 dk9_dX11_book_0_0.1 14 (30, .aload_n 0, 1) rfl
theorem dX11_book_31 : decode cX11_book 31 = .ok (.aload_n 0, 1) := dr9 dk9_dX11_book_0_0.1 15 (31, .aload_n 0, 1) rfl
theorem dX11_book_32 : decode cX11_book 32 = .ok (.getfield 53, 3) := dr9 dk9_dX11_book_0_0.1 16 (32, .getfield 53, 3) rfl
theorem dX11_book_35 : decode cX11_book 35 = .ok (.putfield 49, 3) := dr9 dk9_dX11_book_0_0.1 17 (35, .putfield 49, 3) rfl
theorem dX11_book_38 : decode cX11_book 38 = .ok (.aload_n 0, 1) := dr9 dk9_dX11_book_0_0.1 18 (38, .aload_n 0, 1) rfl
theorem dX11_book_39 : decode cX11_book 39 = .ok (.aload_n 2, 1) := dr9 dk9_dX11_book_0_0.1 19 (39, .aload_n 2, 1) rfl
theorem dX11_book_40 : decode cX11_book 40 = .ok (.putfield 53, 3) := dr9 dk9_dX11_book_0_0.1 20 (40, .putfield 53, 3) rfl
theorem dX11_book_43 : decode cX11_book 43 = .ok (.aload_n 0, 1) := dr9 dk9_dX11_book_0_0.1 21 (43, .aload_n 0, 1) rfl
theorem dX11_book_44 : decode cX11_book 44 = .ok (.getfield 35, 3) := dr9 dk9_dX11_book_0_0.1 22 (44, .getfield 35, 3) rfl
theorem dX11_book_47 : decode cX11_book 47 = .ok (.invokevirtual 80, 3) := dr9 dk9_dX11_book_0_0.1 23 (47, .invokevirtual 80, 3) rfl
theorem dX11_book_50 : decode cX11_book 50 = .ok (.aload_n 0, 1) := dr9 dk9_dX11_book_0_0.2 0 (50, .aload_n 0, 1) rfl
theorem dX11_book_51 : decode cX11_book 51 = .ok (.getfield 42, 3) := dr9 dk9_dX11_book_0_0.2 1 (51, .getfield 42, 3) rfl
theorem dX11_book_54 : decode cX11_book 54 = .ok (.invokevirtual 83, 3) := dr9 dk9_dX11_book_0_0.2 2 (54, .invokevirtual 83, 3) rfl
theorem dX11_book_57 : decode cX11_book 57 = .ok (.aload_n 0, 1) := dr9 dk9_dX11_book_0_0.2 3 (57, .aload_n 0, 1) rfl
theorem dX11_book_58 : decode cX11_book 58 = .ok (.getfield 28, 3) := dr9 dk9_dX11_book_0_0.2 4 (58, .getfield 28, 3) rfl
theorem dX11_book_61 : decode cX11_book 61 = .ok (.invokevirtual 84, 3) := dr9 dk9_dX11_book_0_0.2 5 (61, .invokevirtual 84, 3) rfl
theorem dX11_book_64 : decode cX11_book 64 = .ok (.aload_n 0, 1) := dr9 dk9_dX11_book_0_0.2 6 (64, .aload_n 0, 1) rfl
theorem dX11_book_65 : decode cX11_book 65 = .ok (.getfield 61, 3) := dr9 dk9_dX11_book_0_0.2 7 (65, .getfield 61, 3) rfl
theorem dX11_book_68 : decode cX11_book 68 = .ok (.aload_n 0, 1) := dr9 dk9_dX11_book_0_0.2 8 (68, .aload_n 0, 1) rfl
theorem dX11_book_69 : decode cX11_book 69 = .ok (.getfield 49, 3) := dr9 dk9_dX11_book_0_0.2 9 (69, .getfield 49, 3) rfl
theorem dX11_book_72 : decode cX11_book 72 = .ok (.invokevirtual 85, 3) := dr9 dk9_dX11_book_0_0.2 10 (72, .invokevirtual 85, 3) rfl
theorem dX11_book_75 : decode cX11_book 75 = .ok (.aload_n 0, 1) := dr9 dk9_dX11_book_0_0.2 11 (75, .aload_n 0, 1) rfl
theorem dX11_book_76 : decode cX11_book 76 = .ok (.iconst 0, 1) := dr9 dk9_dX11_book_0_0.2 12 (76, .iconst 0, 1) rfl
theorem dX11_book_77 : decode cX11_book 77 = .ok (.putfield 89, 3) := dr9 dk9_dX11_book_0_0.2 13 (77, .putfield 89, 3) rfl
theorem dX11_book_80 : decode cX11_book 80 = .ok (.aload_n 0, 1) := dr9 dk9_dX11_book_0_0.2 14 (80, .aload_n 0, 1) rfl
theorem dX11_book_81 : decode cX11_book 81 = .ok (.iconst 0, 1) := dr9 dk9_dX11_book_0_0.2 15 (81, .iconst 0, 1) rfl
theorem dX11_book_82 : decode cX11_book 82 = .ok (.putfield 93, 3) := dr9 dk9_dX11_book_0_0.2 16 (82, .putfield 93, 3) rfl
theorem dX11_book_85 : decode cX11_book 85 = .ok (.iconst 0, 1) := dr9 dk9_dX11_book_0_0.2 17 (85, .iconst 0, 1) rfl
theorem dX11_book_86 : decode cX11_book 86 = .ok (.ireturn, 1) := dr9 dk9_dX11_book_0_0.2 18 (86, .ireturn, 1) rfl
theorem dX11_book_23 : decode cX11_book 23 = .ok (.iload_n 1, 1) := dr9 dk9_dX11_book_0_0.2 19 (23, .iload_n 1, 1) rfl
theorem dX11_book_24 : decode cX11_book 24 = .ok (.ireturn, 1) := dr9 dk9_dX11_book_0_0.2 20 (24, .ireturn, 1) rfl
abbrev r_x_h_book : Room := { frames := 94, cells := 0, slots := 0, locals := 2751 }
abbrev q_x_h_book (D : va_G) (ks : KS) (ad : Nat → Nat) (kk : Nat → ClassId) (V : Vf) (L : Lf) (Z : XZ) (b : Nat) (b1 : Nat) (A : Nat → Prop) : Array Value → State → Outcome → State → Prop := va_Qi (fun (r : Int32) (u : Vf × Lf) => rgd bX u.1 ∧ agr [(0, 6), (0, 7), (0, 8), (0, 9), (1, 1), (1, 2), (1, 3), (1, 4), (1, 6), (1, 7), (1, 8), (2, 7), (3, 12), (3, 13), (3, 14), (3, 15), (4, 5), (4, 6), (4, 7), (4, 8), (5, 5), (5, 6), (5, 7), (5, 8), (5, 9), (5, 13), (6, 5), (6, 6), (6, 7), (6, 8), (6, 9), (6, 10)] [12, 13, 14, 23, 24, 25, 41, 42, 43, 44, 45, 46, 47, 48, 49, 50, 51, 52, 53, 54, 55, 56, 57, 58, 59, 60, 61, 62, 63, 64, 65, 66] V u.1 ∧ agL [1, 6, 14, 44] L u.2 ∧ (Imp (r.toInt = 0) (HI u.1 Z b1)) ∧ (Imp (¬ r.toInt = 0) (HI u.1 Z b)) ∧ (Imp (r.toInt = 0) ((u.1 0 6).toInt = (b1 : Int) ∧ (u.1 0 7).toInt = (b : Int))) ∧ (Imp (¬ r.toInt = 0) ((u.1 0 6).toInt = (b : Int) ∧ (u.1 0 7).toInt = (b1 : Int))) ∧ ((u.1 44 0).toInt = (V 44 0).toInt) ∧ ((u.1 6 5).toInt = 0)) (fun u t => gq D A (xw ad kk u.1 u.2 Z) (xty kk Z) t) A
set_option maxHeartbeats 4000000 in
set_option maxRecDepth 100000 in
theorem x_h_book (l : Launch) (D : va_G) (ks : KS) (sz : Nat) (ad : Nat → Nat) (kk : Nat → ClassId) (V : Vf) (L : Lf) (Z : XZ) (b : Nat) (b1 : Nat) (hMV : rgd bX V) (hb2 : b < 2) (hb1 : b1 < 2) (hbb : b + b1 = 1) (shk : (V 0 6).toInt = (b : Int)) (spk : (V 0 7).toInt = (b1 : Int)) (hi : HI V Z b) (h44 : 60900 ≤ (V 44 0).toInt ∧ (V 44 0).toInt ≤ 250000)  : Met l yX11_book (Cond.code yX11_book cX11_book 3 (some .int) :: GW) r_x_h_book (va_Pc [.ref (ad 0)] (gp D ks (xw ad kk V L Z) (xty kk Z) sz)) (q_x_h_book D ks ad kk V L Z  b b1 (va_A (xw ad kk V L Z) sz)) 0 0 (va_A (xw ad kk V L Z) sz) := by
  refine g_met (q_x_h_book D ks ad kk V L Z  b b1) (by decide) (Nat.le_of_ble_eq_true rfl) ?_
  intro p e s m below meth c A ls H locs hx hb hr hml hown hg hlocks hin hnw hgk hP hK hD hS hA hl
  have hown : s.vm.findClass RX11 = some m.cls := hown
  have hl : lv_has ls 3 [(0, .ref (ad 0))] := hl
  have hP : va_P D vwCl (xw ad kk V L Z) H := hP
  have hD : va_D A (xw ad kk V L Z) := hD
  have hK : va_K D vwCl (xty kk Z) s := hK
  have agV : agr [(0, 6), (0, 7), (0, 8), (0, 9), (1, 1), (1, 2), (1, 3), (1, 4), (1, 6), (1, 7), (1, 8), (2, 7), (3, 12), (3, 13), (3, 14), (3, 15), (4, 5), (4, 6), (4, 7), (4, 8), (5, 5), (5, 6), (5, 7), (5, 8), (5, 9), (5, 13), (6, 5), (6, 6), (6, 7), (6, 8), (6, 9), (6, 10)] [12, 13, 14, 23, 24, 25, 41, 42, 43, 44, 45, 46, 47, 48, 49, 50, 51, 52, 53, 54, 55, 56, 57, 58, 59, 60, 61, 62, 63, 64, 65, 66] V V := agr.rf
  have alL : agL [1, 6, 14, 44] L L := agL.rf
  have r1 : 0 ≤ ((V 0 6)).toInt ∧ ((V 0 6)).toInt ≤ 1 := hMV 0 6
  have r2 : 0 ≤ ((V 0 7)).toInt ∧ ((V 0 7)).toInt ≤ 1 := hMV 0 7
  refine lv_aload_n hx hb dX11_book_0 rfl (lv_at hl 0 rfl) ?_
  refine va_get (D := D) (ci := 11) (v := .ref (ad 1)) (fs := (xfHouse ad V L Z)) (C := RX11) (T := TX11) (N := 10) hx hb hg inX11 hown hK hP 0 xgHouse rfl 1 (by decide) (hg _ w716) (fun _ h9 => h9) rfl dX11_book_1 ?_
  refine lv_aload_n hx hb dX11_book_4 rfl (lv_at hl 0 rfl) ?_
  refine va_get (D := D) (ci := 11) (v := .ref (ad (38 + Int32.toNatClampNeg (V 0 7)))) (fs := (xfHouse ad V L Z)) (C := RX11) (T := TX11) (N := 10) hx hb hg inX11 hown hK hP 0 xgHouse rfl 7 (by decide) (hg _ w722) (fun _ h9 => h9) rfl dX11_book_5 ?_
  refine g_topv (v := .ref (ad (38 + b1))) (rfP (by first | omega | ((try (have i_hi := Imp.go hi (by omega))); omega))) ?_
  refine gA_int (gA_runV (As := [.ref (ad (38 + b1))]) (rest := []) (ci := 1) (q0 := 1) hx hb hml hown hg hP hD hK hS hA hnw hgk (x_read l D ks H.size ad kk V L Z (b1) hMV (show b1 < 2 from by first | exact om_f940a4667dd6 hb1 | first | omega | ((try (have i_hi := Imp.go hi (by omega))); omega))) w758 w759 w760 w162 w761 rfl xgReader hdV_yX1_read ⟨Nat.le_of_ble_eq_true rfl, Nat.le_of_ble_eq_true rfl⟩ rfl hl.1 rfl (Nat.le_of_ble_eq_true rfl) dX11_book_8 ⟨Nat.le_of_ble_eq_true rfl, Nat.le_of_ble_eq_true rfl⟩) hP hD hK hS hA (fun z3 u4 H locs w5 hP hD hK hS => ?_)
  obtain ⟨V7, L8⟩ := u4
  obtain ⟨hMV7, ajV7, axL8, fyV7, t6⟩ := w5
  have alL8 : agL [1, 6, 14, 44] L L8 := agL.tr alL axL8 (by decide)
  have hP : va_P D vwCl (xw ad kk V7 L8 Z) H := hP
  have hD : va_D A (xw ad kk V7 L8 Z) := hD
  have hMV7 : rgd bX V7 := hMV7
  have ajV7 : agr [(1, 1), (1, 2), (1, 3), (1, 4), (1, 6), (1, 7), (1, 8), (6, 6), (6, 7), (6, 8), (6, 9), (6, 10)] [12, 13, 14, 41, 42, 43, 44, 45, 46, 47, 48, 49, 50, 51, 52, 53, 54, 55, 56, 57, 58, 59, 60, 61, 62, 63, 64, 65, 66] V V7 := ajV7
  have agV7 : agr [(0, 6), (0, 7), (0, 8), (0, 9), (1, 1), (1, 2), (1, 3), (1, 4), (1, 6), (1, 7), (1, 8), (2, 7), (3, 12), (3, 13), (3, 14), (3, 15), (4, 5), (4, 6), (4, 7), (4, 8), (5, 5), (5, 6), (5, 7), (5, 8), (5, 9), (5, 13), (6, 5), (6, 6), (6, 7), (6, 8), (6, 9), (6, 10)] [12, 13, 14, 23, 24, 25, 41, 42, 43, 44, 45, 46, 47, 48, 49, 50, 51, 52, 53, 54, 55, 56, 57, 58, 59, 60, 61, 62, 63, 64, 65, 66] V V7 := agV.tr ajV7 (by decide) (by decide)
  have t6 : Imp (z3.toInt = 0) (CD V7 b1 ∧ TX V7 b1) := t6
  have e44r : (V7 44 0).toInt = (V 44 0).toInt := congrArg Int32.toInt (fyV7 44 0 ⟨by decide, by decide⟩ (Or.inr (Nat.le_refl 0)))
  refine lv_istore_n (lv' := [(1, .int z3), (0, .ref (ad 0))]) hx hb dX11_book_11 rfl hl (by decide) rfl (fun ls hl => ?_)
  refine lv_aload_n hx hb dX11_book_12 rfl (lv_at hl 1 rfl) ?_
  refine va_get (D := D) (ci := 11) (v := .ref (ad 6)) (fs := (xfHouse ad V7 L8 Z)) (C := RX11) (T := TX11) (N := 10) hx hb hg inX11 hown hK hP 0 xgHouse rfl 0 (by decide) (hg _ w715) (fun _ h9 => h9) rfl dX11_book_13 ?_
  refine gA_void (gA_runV (As := []) (rest := []) (ci := 9) (q0 := 6) hx hb hml hown hg hP hD hK hS hA hnw hgk (x_empty l D ks H.size ad kk V7 L8 Z  hMV7 ) w1019 w1020 w1021 w157 w1022 rfl xgTape hdV_yX9_empty ⟨Nat.le_of_ble_eq_true rfl, Nat.le_of_ble_eq_true rfl⟩ rfl hl.1 rfl (Nat.le_of_ble_eq_true rfl) dX11_book_16 ⟨Nat.le_of_ble_eq_true rfl, Nat.le_of_ble_eq_true rfl⟩) hP hD hK hS hA (fun u10 H locs w11 hP hD hK hS => ?_)
  obtain ⟨V13, L14⟩ := u10
  obtain ⟨hMV13, ajV13, axL14, t12⟩ := w11
  have axL14 : L8 = L14 := Eq.symm axL14
  subst axL14
  have hP : va_P D vwCl (xw ad kk V13 L8 Z) H := hP
  have hD : va_D A (xw ad kk V13 L8 Z) := hD
  have hMV13 : rgd bX V13 := hMV13
  have ajV13 : agr [(6, 5)] [] V7 V13 := ajV13
  have agV13 : agr [(0, 6), (0, 7), (0, 8), (0, 9), (1, 1), (1, 2), (1, 3), (1, 4), (1, 6), (1, 7), (1, 8), (2, 7), (3, 12), (3, 13), (3, 14), (3, 15), (4, 5), (4, 6), (4, 7), (4, 8), (5, 5), (5, 6), (5, 7), (5, 8), (5, 9), (5, 13), (6, 5), (6, 6), (6, 7), (6, 8), (6, 9), (6, 10)] [12, 13, 14, 23, 24, 25, 41, 42, 43, 44, 45, 46, 47, 48, 49, 50, 51, 52, 53, 54, 55, 56, 57, 58, 59, 60, 61, 62, 63, 64, 65, 66] V V13 := agV7.tr ajV13 (by decide) (by decide)
  have t12 : (V13 6 5).toInt = 0 := t12
  have r15 : 0 ≤ ((V13 6 5)).toInt ∧ ((V13 6 5)).toInt ≤ 4000 := hMV13 6 5
  refine lv_iload_n hx hb dX11_book_19 rfl (lv_at hl 0 rfl) ?_
  refine lv_if_eq (tgt := 25) hx hb dX11_book_20 (by decide) (fun c16 => ?_) (fun c16 => ?_)
  · skip
    have f17 : z3.toInt = 0 := b_eq rfl (by decide) c16
    refine lv_aload_n hx hb dX11_book_25 rfl (lv_at hl 1 rfl) ?_
    refine va_get (D := D) (ci := 11) (v := .ref (ad (38 + Int32.toNatClampNeg (V13 0 6)))) (fs := (xfHouse ad V13 L8 Z)) (C := RX11) (T := TX11) (N := 10) hx hb hg inX11 hown hK hP 0 xgHouse rfl 6 (by decide) (hg _ w721) (fun _ h9 => h9) rfl dX11_book_26 ?_
    have pq18 : (V13 0 6).toInt = ((V 0 6)).toInt := congrArg Int32.toInt ((ajV13 0 6 rfl).trans (ajV7 0 6 rfl))
    refine g_topv (v := .ref (ad (38 + b))) (rfP (by first | omega | ((try (have i_hi := Imp.go hi (by omega))); omega))) ?_
    refine lv_astore_n (lv' := [(2, .ref (ad (38 + b))), (1, .int z3), (0, .ref (ad 0))]) hx hb dX11_book_29 rfl hl (by decide) rfl (fun ls hl => ?_)
    refine lv_aload_n hx hb dX11_book_30 rfl (lv_at hl 2 rfl) ?_
    refine lv_aload_n hx hb dX11_book_31 rfl (lv_at hl 2 rfl) ?_
    refine va_get (D := D) (ci := 11) (v := .ref (ad (38 + Int32.toNatClampNeg (V13 0 7)))) (fs := (xfHouse ad V13 L8 Z)) (C := RX11) (T := TX11) (N := 10) hx hb hg inX11 hown hK hP 0 xgHouse rfl 7 (by decide) (hg _ w722) (fun _ h9 => h9) rfl dX11_book_32 ?_
    have pq19 : (V13 0 7).toInt = ((V 0 7)).toInt := congrArg Int32.toInt ((ajV13 0 7 rfl).trans (ajV7 0 7 rfl))
    refine g_topv (v := .ref (ad (38 + b1))) (rfP (by first | omega | ((try (have i_hi := Imp.go hi (by omega))); omega))) ?_
    refine va_put (D := D) (ci := 11) (v := .ref (ad (38 + b1))) (ty := tyX11 6) (fs := (xfHouse ad V13 L8 Z)) (C := RX11) (T := TX11) (N := 10) hx hb hg inX11 tyX11 tyX11_ok nmX11 hown hK hP hD hS 0 xgHouse rfl 6 (by decide) (hg _ w721) (fun _ h9 => h9) rfl (tyX11_ok 6 (by decide)) rfl rfl (Nat.le_of_ble_eq_true rfl) dX11_book_35 (fun H locs hP hD hS => ?_)
    have r20 : (nI b1).toInt = ((b1 : Nat) : Int) := nI_toInt (by omega)
    obtain ⟨V21, hV21⟩ : ∃ z, z = up2 V13 0 6 (nI b1) := ⟨_, rfl⟩
    have ew22 : (xw ad kk V13 L8 Z).set 0 ((ad 0), .inr (11, (xfHouse ad V13 L8 Z).set 6 (.ref (ad (38 + b1))))) = xw ad kk V21 L8 Z := by rw [hV21]; exact xr_shelf hb1
    have hP : va_P D vwCl (xw ad kk V21 L8 Z) H := by rw [← ew22]; exact hP
    have hD : va_D A (xw ad kk V21 L8 Z) := by rw [← ew22]; exact hD
    have hMV21 : rgd bX V21 := hMV13.put hV21 (show 0 ≤ ((nI b1)).toInt ∧ ((nI b1)).toInt ≤ 1 from by first | exact om_d98fff7a4861 hb1 r20 | first | omega | ((try (have i_hi := Imp.go hi (by omega))); omega))
    have agV21 : agr [(0, 6), (0, 7), (0, 8), (0, 9), (1, 1), (1, 2), (1, 3), (1, 4), (1, 6), (1, 7), (1, 8), (2, 7), (3, 12), (3, 13), (3, 14), (3, 15), (4, 5), (4, 6), (4, 7), (4, 8), (5, 5), (5, 6), (5, 7), (5, 8), (5, 9), (5, 13), (6, 5), (6, 6), (6, 7), (6, 8), (6, 9), (6, 10)] [12, 13, 14, 23, 24, 25, 41, 42, 43, 44, 45, 46, 47, 48, 49, 50, 51, 52, 53, 54, 55, 56, 57, 58, 59, 60, 61, 62, 63, 64, 65, 66] V V21 := agV13.up hV21 rfl
    refine lv_aload_n hx hb dX11_book_38 rfl (lv_at hl 2 rfl) ?_
    refine lv_aload_n hx hb dX11_book_39 rfl (lv_at hl 0 rfl) ?_
    refine va_put (D := D) (ci := 11) (v := .ref (ad (38 + b))) (ty := tyX11 7) (fs := (xfHouse ad V21 L8 Z)) (C := RX11) (T := TX11) (N := 10) hx hb hg inX11 tyX11 tyX11_ok nmX11 hown hK hP hD hS 0 xgHouse rfl 7 (by decide) (hg _ w722) (fun _ h9 => h9) rfl (tyX11_ok 7 (by decide)) rfl rfl (Nat.le_of_ble_eq_true rfl) dX11_book_40 (fun H locs hP hD hS => ?_)
    have r23 : (nI b).toInt = ((b : Nat) : Int) := nI_toInt (by omega)
    obtain ⟨V24, hV24⟩ : ∃ z, z = up2 V21 0 7 (nI b) := ⟨_, rfl⟩
    have ew25 : (xw ad kk V21 L8 Z).set 0 ((ad 0), .inr (11, (xfHouse ad V21 L8 Z).set 7 (.ref (ad (38 + b))))) = xw ad kk V24 L8 Z := by rw [hV24]; exact xr_spare hb2
    have hP : va_P D vwCl (xw ad kk V24 L8 Z) H := by rw [← ew25]; exact hP
    have hD : va_D A (xw ad kk V24 L8 Z) := by rw [← ew25]; exact hD
    have hMV24 : rgd bX V24 := hMV21.put hV24 (show 0 ≤ ((nI b)).toInt ∧ ((nI b)).toInt ≤ 1 from by first | exact om_cf08f328c789 hb1 hbb r23 | first | omega | ((try (have i_hi := Imp.go hi (by omega))); omega))
    have agV24 : agr [(0, 6), (0, 7), (0, 8), (0, 9), (1, 1), (1, 2), (1, 3), (1, 4), (1, 6), (1, 7), (1, 8), (2, 7), (3, 12), (3, 13), (3, 14), (3, 15), (4, 5), (4, 6), (4, 7), (4, 8), (5, 5), (5, 6), (5, 7), (5, 8), (5, 9), (5, 13), (6, 5), (6, 6), (6, 7), (6, 8), (6, 9), (6, 10)] [12, 13, 14, 23, 24, 25, 41, 42, 43, 44, 45, 46, 47, 48, 49, 50, 51, 52, 53, 54, 55, 56, 57, 58, 59, 60, 61, 62, 63, 64, 65, 66] V V24 := agV21.up hV24 rfl
    refine lv_aload_n hx hb dX11_book_43 rfl (lv_at hl 2 rfl) ?_
    refine va_get (D := D) (ci := 11) (v := .ref (ad 3)) (fs := (xfHouse ad V24 L8 Z)) (C := RX11) (T := TX11) (N := 10) hx hb hg inX11 hown hK hP 0 xgHouse rfl 3 (by decide) (hg _ w718) (fun _ h9 => h9) rfl dX11_book_44 ?_
    refine gA_void (gA_runV (As := []) (rest := []) (ci := 8) (q0 := 3) hx hb hml hown hg hP hD hK hS hA hnw hgk (x_sclear2 l D ks H.size ad kk V24 L8 Z  hMV24 ) w1023 w1024 w1025 w164 w1026 rfl xgStock hdV_yX8_clear ⟨Nat.le_of_ble_eq_true rfl, Nat.le_of_ble_eq_true rfl⟩ rfl hl.1 rfl (Nat.le_of_ble_eq_true rfl) dX11_book_47 ⟨Nat.le_of_ble_eq_true rfl, Nat.le_of_ble_eq_true rfl⟩) hP hD hK hS hA (fun u27 H locs w28 hP hD hK hS => ?_)
    obtain ⟨V32, L33⟩ := u27
    obtain ⟨hMV32, ajV32, axL33, t29, t30, t31⟩ := w28
    have axL33 : L8 = L33 := Eq.symm axL33
    subst axL33
    have hP : va_P D vwCl (xw ad kk V32 L8 Z) H := hP
    have hD : va_D A (xw ad kk V32 L8 Z) := hD
    have hMV32 : rgd bX V32 := hMV32
    have ajV32 : agr [(3, 12), (3, 13), (3, 14), (3, 15)] [23, 24, 25] V24 V32 := ajV32
    have agV32 : agr [(0, 6), (0, 7), (0, 8), (0, 9), (1, 1), (1, 2), (1, 3), (1, 4), (1, 6), (1, 7), (1, 8), (2, 7), (3, 12), (3, 13), (3, 14), (3, 15), (4, 5), (4, 6), (4, 7), (4, 8), (5, 5), (5, 6), (5, 7), (5, 8), (5, 9), (5, 13), (6, 5), (6, 6), (6, 7), (6, 8), (6, 9), (6, 10)] [12, 13, 14, 23, 24, 25, 41, 42, 43, 44, 45, 46, 47, 48, 49, 50, 51, 52, 53, 54, 55, 56, 57, 58, 59, 60, 61, 62, 63, 64, 65, 66] V V32 := agV24.tr ajV32 (by decide) (by decide)
    have t29 : (V32 3 13).toInt = 0 := t29
    have t30 : (V32 3 15).toInt = 0 := t30
    have t31 : ∀ q : Nat, q < 960 → (V32 25 q).toInt = -1 := t31
    have r34 : 0 ≤ ((V32 3 13)).toInt ∧ ((V32 3 13)).toInt ≤ 300 := hMV32 3 13
    have r35 : 0 ≤ ((V32 3 15)).toInt ∧ ((V32 3 15)).toInt ≤ 262144 := hMV32 3 15
    refine lv_aload_n hx hb dX11_book_50 rfl (lv_at hl 2 rfl) ?_
    refine va_get (D := D) (ci := 11) (v := .ref (ad 4)) (fs := (xfHouse ad V32 L8 Z)) (C := RX11) (T := TX11) (N := 10) hx hb hg inX11 hown hK hP 0 xgHouse rfl 4 (by decide) (hg _ w719) (fun _ h9 => h9) rfl dX11_book_51 ?_
    refine gA_void (gA_runV (As := []) (rest := []) (ci := 7) (q0 := 4) hx hb hml hown hg hP hD hK hS hA hnw hgk (x_Nclear l D ks H.size ad kk V32 L8 Z  hMV32 ) w1031 w1032 w1033 w166 w1034 rfl xgNotes hdV_yX7_clear ⟨Nat.le_of_ble_eq_true rfl, Nat.le_of_ble_eq_true rfl⟩ rfl hl.1 rfl (Nat.le_of_ble_eq_true rfl) dX11_book_54 ⟨Nat.le_of_ble_eq_true rfl, Nat.le_of_ble_eq_true rfl⟩) hP hD hK hS hA (fun u37 H locs w38 hP hD hK hS => ?_)
    obtain ⟨V39, L40⟩ := u37
    obtain ⟨hMV39, ajV39, axL40⟩ := w38
    have axL40 : L8 = L40 := Eq.symm axL40
    subst axL40
    have hP : va_P D vwCl (xw ad kk V39 L8 Z) H := hP
    have hD : va_D A (xw ad kk V39 L8 Z) := hD
    have hMV39 : rgd bX V39 := hMV39
    have ajV39 : agr [(4, 5), (4, 6), (4, 7), (4, 8)] [] V32 V39 := ajV39
    have agV39 : agr [(0, 6), (0, 7), (0, 8), (0, 9), (1, 1), (1, 2), (1, 3), (1, 4), (1, 6), (1, 7), (1, 8), (2, 7), (3, 12), (3, 13), (3, 14), (3, 15), (4, 5), (4, 6), (4, 7), (4, 8), (5, 5), (5, 6), (5, 7), (5, 8), (5, 9), (5, 13), (6, 5), (6, 6), (6, 7), (6, 8), (6, 9), (6, 10)] [12, 13, 14, 23, 24, 25, 41, 42, 43, 44, 45, 46, 47, 48, 49, 50, 51, 52, 53, 54, 55, 56, 57, 58, 59, 60, 61, 62, 63, 64, 65, 66] V V39 := agV32.tr ajV39 (by decide) (by decide)
    refine lv_aload_n hx hb dX11_book_57 rfl (lv_at hl 2 rfl) ?_
    refine va_get (D := D) (ci := 11) (v := .ref (ad 2)) (fs := (xfHouse ad V39 L8 Z)) (C := RX11) (T := TX11) (N := 10) hx hb hg inX11 hown hK hP 0 xgHouse rfl 2 (by decide) (hg _ w717) (fun _ h9 => h9) rfl dX11_book_58 ?_
    refine gA_void (gA_runV (As := []) (rest := []) (ci := 2) (q0 := 2) hx hb hml hown hg hP hD hK hS hA hnw hgk (x_kclear l D ks H.size ad kk V39 L8 Z  hMV39 ) w1035 w1036 w1037 w163 w1038 rfl xgChecker hdV_yX2_clear ⟨Nat.le_of_ble_eq_true rfl, Nat.le_of_ble_eq_true rfl⟩ rfl hl.1 rfl (Nat.le_of_ble_eq_true rfl) dX11_book_61 ⟨Nat.le_of_ble_eq_true rfl, Nat.le_of_ble_eq_true rfl⟩) hP hD hK hS hA (fun u42 H locs w43 hP hD hK hS => ?_)
    obtain ⟨V44, L45⟩ := u42
    obtain ⟨hMV44, ajV44, axL45⟩ := w43
    have axL45 : L8 = L45 := Eq.symm axL45
    subst axL45
    have hP : va_P D vwCl (xw ad kk V44 L8 Z) H := hP
    have hD : va_D A (xw ad kk V44 L8 Z) := hD
    have hMV44 : rgd bX V44 := hMV44
    have ajV44 : agr [(2, 7)] [] V39 V44 := ajV44
    have agV44 : agr [(0, 6), (0, 7), (0, 8), (0, 9), (1, 1), (1, 2), (1, 3), (1, 4), (1, 6), (1, 7), (1, 8), (2, 7), (3, 12), (3, 13), (3, 14), (3, 15), (4, 5), (4, 6), (4, 7), (4, 8), (5, 5), (5, 6), (5, 7), (5, 8), (5, 9), (5, 13), (6, 5), (6, 6), (6, 7), (6, 8), (6, 9), (6, 10)] [12, 13, 14, 23, 24, 25, 41, 42, 43, 44, 45, 46, 47, 48, 49, 50, 51, 52, 53, 54, 55, 56, 57, 58, 59, 60, 61, 62, 63, 64, 65, 66] V V44 := agV39.tr ajV44 (by decide) (by decide)
    refine lv_aload_n hx hb dX11_book_64 rfl (lv_at hl 2 rfl) ?_
    refine va_get (D := D) (ci := 11) (v := .ref (ad 5)) (fs := (xfHouse ad V44 L8 Z)) (C := RX11) (T := TX11) (N := 10) hx hb hg inX11 hown hK hP 0 xgHouse rfl 5 (by decide) (hg _ w720) (fun _ h9 => h9) rfl dX11_book_65 ?_
    refine lv_aload_n hx hb dX11_book_68 rfl (lv_at hl 2 rfl) ?_
    refine va_get (D := D) (ci := 11) (v := .ref (ad (38 + Int32.toNatClampNeg (V44 0 6)))) (fs := (xfHouse ad V44 L8 Z)) (C := RX11) (T := TX11) (N := 10) hx hb hg inX11 hown hK hP 0 xgHouse rfl 6 (by decide) (hg _ w721) (fun _ h9 => h9) rfl dX11_book_69 ?_
    have pq46 : (V44 0 6).toInt = ((nI b1)).toInt := congrArg Int32.toInt ((ajV44 0 6 rfl).trans ((ajV39 0 6 rfl).trans ((ajV32 0 6 rfl).trans ((up2_k hV24 (by decide)).trans (up2_s hV21)))))
    refine g_topv (v := .ref (ad (38 + b1))) (rfP (by first | omega | ((try (have i_hi := Imp.go hi (by omega))); omega))) ?_
    refine gA_void (gA_runV (As := [.ref (ad (38 + b1))]) (rest := []) (ci := 5) (q0 := 5) hx hb hml hown hg hP hD hK hS hA hnw hgk (x_takeBook l D ks H.size ad kk V44 L8 Z (b1) hMV44 (show b1 < 2 from by first | exact om_f940a4667dd6 hb1 | first | omega | ((try (have i_hi := Imp.go hi (by omega))); omega))) w1039 w1040 w1041 w171 w1042 rfl xgMachine hdV_yX5_takeBook ⟨Nat.le_of_ble_eq_true rfl, Nat.le_of_ble_eq_true rfl⟩ rfl hl.1 rfl (Nat.le_of_ble_eq_true rfl) dX11_book_72 ⟨Nat.le_of_ble_eq_true rfl, Nat.le_of_ble_eq_true rfl⟩) hP hD hK hS hA (fun u48 H locs w49 hP hD hK hS => ?_)
    obtain ⟨V52, L53⟩ := u48
    obtain ⟨hMV52, ajV52, axL53, t50, t51⟩ := w49
    have axL53 : L8 = L53 := Eq.symm axL53
    subst axL53
    have hP : va_P D vwCl (xw ad kk V52 L8 Z) H := hP
    have hD : va_D A (xw ad kk V52 L8 Z) := hD
    have hMV52 : rgd bX V52 := hMV52
    have ajV52 : agr [(5, 5), (5, 6), (5, 7), (5, 8), (5, 9), (5, 13)] [] V44 V52 := ajV52
    have agV52 : agr [(0, 6), (0, 7), (0, 8), (0, 9), (1, 1), (1, 2), (1, 3), (1, 4), (1, 6), (1, 7), (1, 8), (2, 7), (3, 12), (3, 13), (3, 14), (3, 15), (4, 5), (4, 6), (4, 7), (4, 8), (5, 5), (5, 6), (5, 7), (5, 8), (5, 9), (5, 13), (6, 5), (6, 6), (6, 7), (6, 8), (6, 9), (6, 10)] [12, 13, 14, 23, 24, 25, 41, 42, 43, 44, 45, 46, 47, 48, 49, 50, 51, 52, 53, 54, 55, 56, 57, 58, 59, 60, 61, 62, 63, 64, 65, 66] V V52 := agV44.tr ajV52 (by decide) (by decide)
    have t50 : (V52 5 5).toInt = (b1 : Int) := t50
    have t51 : (V52 5 6).toInt = 0 := t51
    have r54 : 0 ≤ ((V52 5 5)).toInt ∧ ((V52 5 5)).toInt ≤ 1 := hMV52 5 5
    have r55 : 0 ≤ ((V52 5 6)).toInt ∧ ((V52 5 6)).toInt ≤ 400 := hMV52 5 6
    refine lv_aload_n hx hb dX11_book_75 rfl (lv_at hl 2 rfl) ?_
    refine lv_iconst (v := 0) hx hb dX11_book_76 (by decide) ?_
    refine va_put (D := D) (ci := 11) (v := .int 0) (ty := tyX11 8) (fs := (xfHouse ad V52 L8 Z)) (C := RX11) (T := TX11) (N := 10) hx hb hg inX11 tyX11 tyX11_ok nmX11 hown hK hP hD hS 0 xgHouse rfl 8 (by decide) (hg _ w723) (fun _ h9 => h9) rfl (tyX11_ok 8 (by decide)) rfl rfl (Nat.le_of_ble_eq_true rfl) dX11_book_77 (fun H locs hP hD hS => ?_)
    obtain ⟨V56, hV56⟩ : ∃ z, z = up2 V52 0 8 0 := ⟨_, rfl⟩
    have ew57 : (xw ad kk V52 L8 Z).set 0 ((ad 0), .inr (11, (xfHouse ad V52 L8 Z).set 8 (.int 0))) = xw ad kk V56 L8 Z := by rw [hV56]; exact xw_ss (by decide) rfl (xb_si (by decide))
    have hP : va_P D vwCl (xw ad kk V56 L8 Z) H := by rw [← ew57]; exact hP
    have hD : va_D A (xw ad kk V56 L8 Z) := by rw [← ew57]; exact hD
    have hMV56 : rgd bX V56 := hMV52.put hV56 (by decide)
    have agV56 : agr [(0, 6), (0, 7), (0, 8), (0, 9), (1, 1), (1, 2), (1, 3), (1, 4), (1, 6), (1, 7), (1, 8), (2, 7), (3, 12), (3, 13), (3, 14), (3, 15), (4, 5), (4, 6), (4, 7), (4, 8), (5, 5), (5, 6), (5, 7), (5, 8), (5, 9), (5, 13), (6, 5), (6, 6), (6, 7), (6, 8), (6, 9), (6, 10)] [12, 13, 14, 23, 24, 25, 41, 42, 43, 44, 45, 46, 47, 48, 49, 50, 51, 52, 53, 54, 55, 56, 57, 58, 59, 60, 61, 62, 63, 64, 65, 66] V V56 := agV52.up hV56 rfl
    refine lv_aload_n hx hb dX11_book_80 rfl (lv_at hl 2 rfl) ?_
    refine lv_iconst (v := 0) hx hb dX11_book_81 (by decide) ?_
    refine va_put (D := D) (ci := 11) (v := .int 0) (ty := tyX11 9) (fs := (xfHouse ad V56 L8 Z)) (C := RX11) (T := TX11) (N := 10) hx hb hg inX11 tyX11 tyX11_ok nmX11 hown hK hP hD hS 0 xgHouse rfl 9 (by decide) (hg _ w724) (fun _ h9 => h9) rfl (tyX11_ok 9 (by decide)) rfl rfl (Nat.le_of_ble_eq_true rfl) dX11_book_82 (fun H locs hP hD hS => ?_)
    obtain ⟨V58, hV58⟩ : ∃ z, z = up2 V56 0 9 0 := ⟨_, rfl⟩
    have ew59 : (xw ad kk V56 L8 Z).set 0 ((ad 0), .inr (11, (xfHouse ad V56 L8 Z).set 9 (.int 0))) = xw ad kk V58 L8 Z := by rw [hV58]; exact xw_ss (by decide) rfl (xb_si (by decide))
    have hP : va_P D vwCl (xw ad kk V58 L8 Z) H := by rw [← ew59]; exact hP
    have hD : va_D A (xw ad kk V58 L8 Z) := by rw [← ew59]; exact hD
    have hMV58 : rgd bX V58 := hMV56.put hV58 (i_full _)
    have agV58 : agr [(0, 6), (0, 7), (0, 8), (0, 9), (1, 1), (1, 2), (1, 3), (1, 4), (1, 6), (1, 7), (1, 8), (2, 7), (3, 12), (3, 13), (3, 14), (3, 15), (4, 5), (4, 6), (4, 7), (4, 8), (5, 5), (5, 6), (5, 7), (5, 8), (5, 9), (5, 13), (6, 5), (6, 6), (6, 7), (6, 8), (6, 9), (6, 10)] [12, 13, 14, 23, 24, 25, 41, 42, 43, 44, 45, 46, 47, 48, 49, 50, 51, 52, 53, 54, 55, 56, 57, 58, 59, 60, 61, 62, 63, 64, 65, 66] V V58 := agV56.up hV58 rfl
    refine lv_iconst (v := 0) hx hb dX11_book_85 (by decide) ?_
    have pq60 : (V58 0 6).toInt = ((nI b1)).toInt := congrArg Int32.toInt ((up2_k hV58 (by decide)).trans ((up2_k hV56 (by decide)).trans ((ajV52 0 6 rfl).trans ((ajV44 0 6 rfl).trans ((ajV39 0 6 rfl).trans ((ajV32 0 6 rfl).trans ((up2_k hV24 (by decide)).trans (up2_s hV21))))))))
    have pq61 : (V58 0 7).toInt = ((nI b)).toInt := congrArg Int32.toInt ((up2_k hV58 (by decide)).trans ((up2_k hV56 (by decide)).trans ((ajV52 0 7 rfl).trans ((ajV44 0 7 rfl).trans ((ajV39 0 7 rfl).trans ((ajV32 0 7 rfl).trans (up2_s hV24)))))))
    have pq62 : (V58 44 0).toInt = ((V7 44 0)).toInt := congrArg Int32.toInt ((up2_o hV58 (by decide)).trans ((up2_o hV56 (by decide)).trans ((ajV52 44 0 rfl).trans ((ajV44 44 0 rfl).trans ((ajV39 44 0 rfl).trans ((ajV32 44 0 rfl).trans ((up2_o hV24 (by decide)).trans ((up2_o hV21 (by decide)).trans (ajV13 44 0 rfl)))))))))
    have pq63 : (V58 6 5).toInt = ((V13 6 5)).toInt := congrArg Int32.toInt ((up2_o hV58 (by decide)).trans ((up2_o hV56 (by decide)).trans ((ajV52 6 5 rfl).trans ((ajV44 6 5 rfl).trans ((ajV39 6 5 rfl).trans ((ajV32 6 5 rfl).trans ((up2_o hV24 (by decide)).trans (up2_o hV21 (by decide)))))))))
    have hcd := Imp.go t6 (by omega)
    have be64 : BE V7 V58 := (BE.tr (BE.tr (BE.tr (BE.tr (BE.tr (BE.tr (BE.tr (BE.tr (BE.tr BE.rf (BE.ag ajV13 (by decide) (by decide))) (BE.ag (agr.up (fs := [(0, 6)]) (cs := []) agr.rf hV21 rfl) (by decide) (by decide))) (BE.ag (agr.up (fs := [(0, 7)]) (cs := []) agr.rf hV24 rfl) (by decide) (by decide))) (BE.ag ajV32 (by decide) (by decide))) (BE.ag ajV39 (by decide) (by decide))) (BE.ag ajV44 (by decide) (by decide))) (BE.ag ajV52 (by decide) (by decide))) (BE.ag (agr.up (fs := [(0, 8)]) (cs := []) agr.rf hV56 rfl) (by decide) (by decide))) (BE.ag (agr.up (fs := [(0, 9)]) (cs := []) agr.rf hV58 rfl) (by decide) (by decide)))
    have pq65 : (V58 3 13).toInt = ((V32 3 13)).toInt := congrArg Int32.toInt ((up2_o hV58 (by decide)).trans ((up2_o hV56 (by decide)).trans ((ajV52 3 13 rfl).trans ((ajV44 3 13 rfl).trans (ajV39 3 13 rfl)))))
    have pq66 : (V58 3 15).toInt = ((V32 3 15)).toInt := congrArg Int32.toInt ((up2_o hV58 (by decide)).trans ((up2_o hV56 (by decide)).trans ((ajV52 3 15 rfl).trans ((ajV44 3 15 rfl).trans (ajV39 3 15 rfl)))))
    have pq67 : (V58 5 5).toInt = ((V52 5 5)).toInt := congrArg Int32.toInt ((up2_o hV58 (by decide)).trans (up2_o hV56 (by decide)))
    have pp68 : ∀ q : Nat, q < 960 → (V58 25 q).toInt = -1 := fun q hq => by rw [show V58 25 q = V56 25 q from up2_o hV58 (by decide)]; rw [show V56 25 q = V52 25 q from up2_o hV56 (by decide)]; rw [ajV52 25 q rfl]; rw [ajV44 25 q rfl]; rw [ajV39 25 q rfl]; exact t31 q hq
    have rp69 : HI V58 Z b1 := HI.new hi (TX.be hcd.2 be64) (CD.be hcd.1 be64) (by omega) (by omega) (by omega) (by omega) pp68
    exact W.iret (v := 0) hx hb hr (fun t ht hW => ⟨⟨0, (V58, L8), rfl, ⟨hMV58, agV58, alL8, (Imp.mk (fun _ => rp69)), (Imp.mk (fun hp => absurd (show Int32.toInt 0 = 0 from by decide) hp)), (Imp.mk (fun _ => (show (V58 0 6).toInt = (b1 : Int) ∧ (V58 0 7).toInt = (b : Int) from by first | exact om_dc1ab77f9798 r20 r23 pq60 pq61 | first | omega | ((try (have i_hi := Imp.go hi (by omega))); omega)))), (Imp.mk (fun hp => absurd (show Int32.toInt 0 = 0 from by decide) hp)), (show (V58 44 0).toInt = (V 44 0).toInt from by first | exact om_cd7d0a6a31bc e44r pq62 | first | omega | ((try (have i_hi := Imp.go hi (by omega))); omega)), (show (V58 6 5).toInt = 0 from by first | exact om_36161e850215 t12 pq63 | first | omega | ((try (have i_hi := Imp.go hi (by omega))); omega))⟩, by rw [ht]; exact hP, va_K.moved hW.alike hK, hD⟩, hS.F ht⟩) hS.2.2 dX11_book_86
  · skip
    have f70 : z3.toInt ≠ 0 := b_neq rfl (by decide) c16
    refine lv_iload_n hx hb dX11_book_23 rfl (lv_at hl 0 rfl) ?_
    have pq71 : (V13 0 6).toInt = ((V 0 6)).toInt := congrArg Int32.toInt ((ajV13 0 6 rfl).trans (ajV7 0 6 rfl))
    have pq72 : (V13 0 7).toInt = ((V 0 7)).toInt := congrArg Int32.toInt ((ajV13 0 7 rfl).trans (ajV7 0 7 rfl))
    have pq73 : (V13 44 0).toInt = ((V7 44 0)).toInt := congrArg Int32.toInt (ajV13 44 0 rfl)
    have hf74 : HI V7 Z b := HI.fr hi hbb hMV fyV7 (ajV7 3 13 rfl) (ajV7 3 15 rfl) (ajV7 5 5 rfl) (fun k => ajV7 26 k rfl) (fun k => ajV7 30 k rfl) (fun k => ajV7 32 k rfl) (fun k => ajV7 25 k rfl)
    exact W.iret (v := z3) hx hb hr (fun t ht hW => ⟨⟨z3, (V13, L8), rfl, ⟨hMV13, agV13, alL8, (Imp.mk (fun hp => by exfalso; omega)), (Imp.mk (fun _ => (HI.ag hf74 ajV13 (by decide)))), (Imp.mk (fun hp => have hp : z3.toInt = 0 := hp; (show (V13 0 6).toInt = (b1 : Int) ∧ (V13 0 7).toInt = (b : Int) from by first | omega | ((try (have i_hi := Imp.go hi (by omega))); omega)))), (Imp.mk (fun _ => ⟨by show (V13 0 6).toInt = (b : Int); (first | exact om_adf531c77a0d shk pq71 | omega), by show (V13 0 7).toInt = (b1 : Int); (first | exact om_adf531c77a0d spk pq72 | omega)⟩)), (show (V13 44 0).toInt = (V 44 0).toInt from by first | exact om_cd7d0a6a31bc e44r pq73 | first | omega | ((try (have i_hi := Imp.go hi (by omega))); omega)), (show (V13 6 5).toInt = 0 from by first | exact om_b66ba74381d5 t12 | first | omega | ((try (have i_hi := Imp.go hi (by omega))); omega))⟩, by rw [ht]; exact hP, va_K.moved hW.alike hK, hD⟩, hS.F ht⟩) hS.2.2 dX11_book_24
