section
/-! another BOOK -/
theorem BE.tr {V W X : Vf} (h : BE V W) (k : BE W X) : BE V X := fun c i a1 a2 => (k c i a1 a2).trans (h c i a1 a2)
theorem BE.rf {V : Vf} : BE V V := fun _ _ _ _ => rfl
theorem BE.ag {fs : List (Nat × Nat)} {cs : List Nat} {V W : Vf} (a : agr fs cs V W) (h1 : ∀ y ∈ fs, y.1 ≤ 40) (h2 : ∀ y ∈ cs, ¬ (41 ≤ y ∧ y ≤ 66)) : BE V W := fun c k q1 q2 => frX.ag (R := fun _ => (0, 0)) a h1 h2 c k ⟨q1, q2⟩ (Or.inr (Nat.zero_le _))
theorem CD.p0 {V W : Vf} {b : Nat} (h : CD V b) (p : p0x V W b) (e42 : W 42 b = V 42 b) (h0 : 0 ≤ (V 42 b).toInt) : CD W b := by
  refine ⟨⟨fun q => ?_, fun q g1 g2 => ?_⟩, fun q g1 g2 => ?_⟩
  · rw [e42] at q ⊢
    rw [p.bd (by omega)]
    exact h.1.1 q
  · rw [e42] at g1
    rw [p.bd (by omega)] at g2
    rw [p.2 q (by omega), p.2 (q + 1) (by omega)]
    exact (h.1.2 q g1 g2).up p
  · rw [e42] at g1
    rw [p.bd (by omega)] at g2
    rw [p.2 q g1]
    exact h.2 q g1 g2
theorem HI.fr {V W : Vf} {Z : XZ} {b b1 : Nat} (h : HI V Z b) (hbb : b + b1 = 1) (hM : rgd bX V) (f : frX (xR b1) V W) (e13 : W 3 13 = V 3 13) (e15 : W 3 15 = V 3 15) (e5 : W 5 5 = V 5 5) (e26 : ∀ k, W 26 k = V 26 k) (e30 : ∀ k, W 30 k = V 30 k) (e32 : ∀ k, W 32 k = V 32 k) (e25 : ∀ k, W 25 k = V 25 k) : HI W Z b := by
  have b43 : (V 43 (5 * b + 2)).toInt ≤ 24 := by
    have q : (V 43 (5 * b + 2)).toInt ≤ ((xcap (5 * b + 2) : Nat) : Int) := (hM 43 (5 * b + 2)).2
    rw [xcap_2] at q
    exact q
  have b41 : (V 41 b).toInt ≤ 12 := (hM 41 b).2
  have b42 : 0 ≤ (V 42 b).toInt ∧ (V 42 b).toInt ≤ 8200 := hM 42 b
  have e41 : W 41 b = V 41 b := f 41 b ⟨by decide, by decide⟩ (by show b < b1 ∨ b1 + 1 ≤ b; omega)
  have e42 : W 42 b = V 42 b := f 42 b ⟨by decide, by decide⟩ (by show b < b1 ∨ b1 + 1 ≤ b; omega)
  have e43 : W 43 (5 * b + 2) = V 43 (5 * b + 2) := f 43 _ ⟨by decide, by decide⟩ (by show 5 * b + 2 < 5 * b1 ∨ 5 * b1 + 5 ≤ 5 * b + 2; omega)
  have e44 : W 44 0 = V 44 0 := f 44 0 ⟨by decide, by decide⟩ (Or.inr (Nat.le_refl 0))
  have e47 : ∀ k, k < 12 → W 47 (12 * b + k) = V 47 (12 * b + k) := fun k hk => f 47 _ ⟨by decide, by decide⟩ (by show 12 * b + k < 12 * b1 ∨ 12 * b1 + 12 ≤ 12 * b + k; omega)
  have e48 : ∀ k, k < 8200 → W 48 (8200 * b + k) = V 48 (8200 * b + k) := fun k hk => f 48 _ ⟨by decide, by decide⟩ (by show 8200 * b + k < 8200 * b1 ∨ 8200 * b1 + 8200 ≤ 8200 * b + k; omega)
  have e56 : ∀ k, k < 24 → W 56 (24 * b + k) = V 56 (24 * b + k) := fun k hk => f 56 _ ⟨by decide, by decide⟩ (by show 24 * b + k < 24 * b1 ∨ 24 * b1 + 24 ≤ 24 * b + k; omega)
  have e57 : ∀ k, k < 24 → W 57 (24 * b + k) = V 57 (24 * b + k) := fun k hk => f 57 _ ⟨by decide, by decide⟩ (by show 24 * b + k < 24 * b1 ∨ 24 * b1 + 24 ≤ 24 * b + k; omega)
  have e61 : ∀ k m, k < 24 → m < 20 → W 61 (20 * (24 * b + k) + m) = V 61 (20 * (24 * b + k) + m) := fun k m hk hm => f 61 _ ⟨by decide, by decide⟩ (by show 20 * (24 * b + k) + m < 480 * b1 ∨ 480 * b1 + 480 ≤ 20 * (24 * b + k) + m; omega)
  have e66 : ∀ k, k < 12 → W 66 (12 * b + k) = V 66 (12 * b + k) := fun k hk => f 66 _ ⟨by decide, by decide⟩ (by show 12 * b + k < 12 * b1 ∨ 12 * b1 + 12 ≤ 12 * b + k; omega)
  have p : p0x V W b := ⟨by rw [e42]; exact Int.le_refl _, fun k hk => e48 k (by omega)⟩
  have ht := h.2.2.2.2.2.1
  refine ⟨?_, h.2.1, ?_, by rw [e13, e15]; exact h.2.2.2.1, by rw [e13, e15, e44]; exact h.2.2.2.2.1, ⟨fun c hc => ?_, fun w hw => ?_, fun x hx => ?_⟩, h.2.2.2.2.2.2.1.p0 p e42 b42.1, by rw [e5]; exact h.2.2.2.2.2.2.2.1, h.2.2.2.2.2.2.2.2.1, ?_⟩
  · unfold SL
    rw [e15, e13]
    exact ⟨h.1.1, h.1.2.1, fun o k a1 a2 => by rw [e30]; exact h.1.2.2.1 o k a1 a2, fun i a1 => by rw [e32]; exact h.1.2.2.2 i a1⟩
  · intro o ho
    rw [e13] at ho
    rw [e26, e43]
    exact h.2.2.1 o ho
  · rw [e43] at hc
    have z := ht.1 c hc
    rw [e56 c (by omega), e57 c (by omega)]
    refine ⟨z.1.up p, z.2.1.up p, fun m hm => ?_⟩
    rw [e61 c m (by omega) hm]
    exact (z.2.2 m hm).up p
  · rw [e41] at hw
    rw [e66 w (by omega)]
    exact (ht.2.1 w hw).up p
  · rw [e41] at hx ⊢
    rw [e47 x (by omega)]
    exact ht.2.2 x hx
  · intro k hk
    rw [e25, e13]
    refine ⟨(h.2.2.2.2.2.2.2.2.2 k hk).1, fun o h1 => ?_⟩
    rw [e26]
    exact (h.2.2.2.2.2.2.2.2.2 k hk).2 o h1
theorem HI.new {V W : Vf} {Z : XZ} {b b1 : Nat} (h : HI V Z b) (hT : TX W b1) (hC : CD W b1) (h13 : (W 3 13).toInt = 0) (h15 : (W 3 15).toInt = 0) (h44 : 60900 ≤ (W 44 0).toInt ∧ (W 44 0).toInt ≤ 250000) (h5 : (W 5 5).toInt = (b1 : Int)) (hp : ∀ q : Nat, q < 960 → (W 25 q).toInt = -1) : HI W Z b1 := by
  refine ⟨⟨by omega, h.1.2.1, fun o k a1 _ => absurd a1 (by omega), fun i a1 => absurd a1 (by omega)⟩, h.2.1, fun o ho => absurd ho (by omega), by omega, by omega, hT, hC, h5, h.2.2.2.2.2.2.2.2.1, fun k hk => ?_⟩
  rw [hp k hk, h13]
  exact ⟨by decide, fun o h1 => absurd h1 (by omega)⟩

theorem w716 : Cond.fieldLink RX11 21 "WiringHouse" "reader" "LWiringHouse$BookReader;" ∈ GW := gw_k tk9_3 81 (by decide +kernel) rfl
theorem w722 : Cond.fieldLink RX11 53 "WiringHouse" "spare" "LWiringHouse$Book;" ∈ GW := gw_k tk9_3 87 (by decide +kernel) rfl
theorem w761 : Cond.code yX1_read cX1_read 4 (some .int) ∈ GW := gw_k tk9_3 126 (rfl) rfl
theorem w758 : Cond.methodLink RX11 73 yX1_read ∈ GW := gw_k tk9_3 123 (by decide +kernel) rfl
theorem w759 : Cond.instanceMethod yX1_read ∈ GW := gw_k tk9_3 124 (by decide +kernel) rfl
theorem w760 : Cond.selects RX1 yX1_read yX1_read ∈ GW := gw_k tk9_3 125 (by decide +kernel) rfl
theorem hdV_yX1_read : yX1_read.cls = RX1 ∧ yX1_read.cls ≠ "java/lang/invoke/MethodHandle" ∧ yX1_read.cls ≠ "java/lang/invoke/VarHandle" ∧ (parseMethodDescriptor yX1_read.desc).map (fun d => d.parameters.length) = some 1 := by decide +kernel
theorem w1026 : Cond.code yX8_clear cX8_clear 2 none ∈ GW := gw_k tk9_4 151 (rfl) rfl
theorem w1023 : Cond.methodLink RX11 80 yX8_clear ∈ GW := gw_k tk9_4 148 (by decide +kernel) rfl
theorem w1024 : Cond.instanceMethod yX8_clear ∈ GW := gw_k tk9_4 149 (by decide +kernel) rfl
theorem w1025 : Cond.selects RX8 yX8_clear yX8_clear ∈ GW := gw_k tk9_4 150 (by decide +kernel) rfl
theorem hdV_yX8_clear : yX8_clear.cls = RX8 ∧ yX8_clear.cls ≠ "java/lang/invoke/MethodHandle" ∧ yX8_clear.cls ≠ "java/lang/invoke/VarHandle" ∧ (parseMethodDescriptor yX8_clear.desc).map (fun d => d.parameters.length) = some 0 := by decide +kernel
theorem w1034 : Cond.code yX7_clear cX7_clear 1 none ∈ GW := gw_k tk9_4 159 (rfl) rfl
theorem w1031 : Cond.methodLink RX11 83 yX7_clear ∈ GW := gw_k tk9_4 156 (by decide +kernel) rfl
theorem w1032 : Cond.instanceMethod yX7_clear ∈ GW := gw_k tk9_4 157 (by decide +kernel) rfl
theorem w1033 : Cond.selects RX7 yX7_clear yX7_clear ∈ GW := gw_k tk9_4 158 (by decide +kernel) rfl
theorem hdV_yX7_clear : yX7_clear.cls = RX7 ∧ yX7_clear.cls ≠ "java/lang/invoke/MethodHandle" ∧ yX7_clear.cls ≠ "java/lang/invoke/VarHandle" ∧ (parseMethodDescriptor yX7_clear.desc).map (fun d => d.parameters.length) = some 0 := by decide +kernel
theorem w1038 : Cond.code yX2_clear cX2_clear 1 none ∈ GW := gw_k tk9_4 163 (rfl) rfl
theorem w1035 : Cond.methodLink RX11 84 yX2_clear ∈ GW := gw_k tk9_4 160 (by decide +kernel) rfl
theorem w1036 : Cond.instanceMethod yX2_clear ∈ GW := gw_k tk9_4 161 (by decide +kernel) rfl
theorem w1037 : Cond.selects RX2 yX2_clear yX2_clear ∈ GW := gw_k tk9_4 162 (by decide +kernel) rfl
theorem hdV_yX2_clear : yX2_clear.cls = RX2 ∧ yX2_clear.cls ≠ "java/lang/invoke/MethodHandle" ∧ yX2_clear.cls ≠ "java/lang/invoke/VarHandle" ∧ (parseMethodDescriptor yX2_clear.desc).map (fun d => d.parameters.length) = some 0 := by decide +kernel
theorem w1042 : Cond.code yX5_takeBook cX5_takeBook 2 none ∈ GW := gw_k tk9_4 167 (rfl) rfl
theorem w1039 : Cond.methodLink RX11 85 yX5_takeBook ∈ GW := gw_k tk9_4 164 (by decide +kernel) rfl
theorem w1040 : Cond.instanceMethod yX5_takeBook ∈ GW := gw_k tk9_4 165 (by decide +kernel) rfl
theorem w1041 : Cond.selects RX5 yX5_takeBook yX5_takeBook ∈ GW := gw_k tk9_4 166 (by decide +kernel) rfl
theorem hdV_yX5_takeBook : yX5_takeBook.cls = RX5 ∧ yX5_takeBook.cls ≠ "java/lang/invoke/MethodHandle" ∧ yX5_takeBook.cls ≠ "java/lang/invoke/VarHandle" ∧ (parseMethodDescriptor yX5_takeBook.desc).map (fun d => d.parameters.length) = some 1 := by decide +kernel
theorem dk9_dX11_book_0_0 : dOk cX11_book [(0, .aload_n 0, 1), (1, .getfield 21, 3), (4, .aload_n 0, 1), (5, .getfield 53, 3), (8, .invokevirtual 73, 3), (11, .istore_n 1, 1), (12, .aload_n 0, 1), (13, .getfield 10, 3), (16, .invokevirtual 77, 3), (19, .iload_n 1, 1), (20, .ifCond .eq 5, 3), (25, .aload_n 0, 1), (26, .getfield 49, 3), (29, .astore_n 2, 1), (30, .aload_n 0, 1), (31, .aload_n 0, 1), (32, .getfield 53, 3), (35, .putfield 49, 3), (38, .aload_n 0, 1), (39, .aload_n 2, 1), (40, .putfield 53, 3), (43, .aload_n 0, 1), (44, .getfield 35, 3), (47, .invokevirtual 80, 3)] = true ∧ dOk cX11_book [(50, .aload_n 0, 1), (51, .getfield 42, 3), (54, .invokevirtual 83, 3), (57, .aload_n 0, 1), (58, .getfield 28, 3), (61, .invokevirtual 84, 3), (64, .aload_n 0, 1), (65, .getfield 61, 3), (68, .aload_n 0, 1), (69, .getfield 49, 3), (72, .invokevirtual 85, 3), (75, .aload_n 0, 1), (76, .iconst 0, 1), (77, .putfield 89, 3), (80, .aload_n 0, 1), (81, .iconst 0, 1), (82, .putfield 93, 3), (85, .iconst 0, 1), (86, .ireturn, 1), (23, .iload_n 1, 1), (24, .ireturn, 1)] = true := by decide +kernel
theorem dX11_book_0 : decode cX11_book 0 = .ok (.aload_n 0, 1) := dr9 dk9_dX11_book_0_0.1 0 (0, .aload_n 0, 1) rfl
theorem dX11_book_1 : decode cX11_book 1 = .ok (.getfield 21, 3) := dr9 dk9_dX11_book_0_0.1 1 (1, .getfield 21, 3) rfl
theorem dX11_book_4 : decode cX11_book 4 = .ok (.aload_n 0, 1) := dr9 dk9_dX11_book_0_0.1 2 (4, .aload_n 0, 1) rfl
theorem dX11_book_5 : decode cX11_book 5 = .ok (.getfield 53, 3) := dr9 dk9_dX11_book_0_0.1 3 (5, .getfield 53, 3) rfl
theorem dX11_book_8 : decode cX11_book 8 = .ok (.invokevirtual 73, 3) := dr9 dk9_dX11_book_0_0.1 4 (8, .invokevirtual 73, 3) rfl
theorem dX11_book_11 : decode cX11_book 11 = .ok (.istore_n 1, 1) := dr9 dk9_dX11_book_0_0.1 5 (11, .istore_n 1, 1) rfl
theorem dX11_book_12 : decode cX11_book 12 = .ok (.aload_n 0, 1) := dr9 dk9_dX11_book_0_0.1 6 (12, .aload_n 0, 1) rfl
theorem dX11_book_13 : decode cX11_book 13 = .ok (.getfield 10, 3) := dr9 dk9_dX11_book_0_0.1 7 (13, .getfield 10, 3) rfl
theorem dX11_book_16 : decode cX11_book 16 = .ok (.invokevirtual 77, 3) := dr9 dk9_dX11_book_0_0.1 8 (16, .invokevirtual 77, 3) rfl
theorem dX11_book_19 : decode cX11_book 19 = .ok (.iload_n 1, 1) := dr9 dk9_dX11_book_0_0.1 9 (19, .iload_n 1, 1) rfl
theorem dX11_book_20 : decode cX11_book 20 = .ok (.ifCond .eq 5, 3) := dr9 dk9_dX11_book_0_0.1 10 (20, .ifCond .eq 5, 3) rfl
theorem dX11_book_25 : decode cX11_book 25 = .ok (.aload_n 0, 1) := dr9 dk9_dX11_book_0_0.1 11 (25, .aload_n 0, 1) rfl
theorem dX11_book_26 : decode cX11_book 26 = .ok (.getfield 49, 3) := dr9 dk9_dX11_book_0_0.1 12 (26, .getfield 49, 3) rfl
theorem dX11_book_29 : decode cX11_book 29 = .ok (.astore_n 2, 1) := dr9 dk9_dX11_book_0_0.1 13 (29, .astore_n 2, 1) rfl
theorem dX11_book_30 : decode cX11_book 30 = .ok (.aload_n 0, 1) := dr9 dk9_dX11_book_0_0.1 14 (30, .aload_n 0, 1) rfl
theorem dX11_book_31 : decode cX11_book 31 = .ok (.aload_n 0, 1) := dr9 dk9_dX11_book_0_0.1 15 (31, .aload_n 0, 1) rfl
theorem dX11_book_32 : decode cX11_book 32 = .ok (.getfield 53, 3) := dr9 dk9_dX11_book_0_0.1 16 (32, .getfield 53, 3) rfl
theorem dX11_book_35 : decode cX11_book 35 = .ok (.putfield 49, 3) := dr9 dk9_dX11_book_0_0.1 17 (35, .putfield 49, 3) rfl
theorem dX11_book_38 : decode cX11_book 38 = .ok (.aload_n 0, 1) := dr9 dk9_dX11_book_0_0.1 18 (38, .aload_n 0, 1) rfl
theorem dX11_book_39 : decode cX11_book 39 = .ok (.aload_n 2, 1) := dr9 dk9_dX11_book_0_0.1 19 (39, .aload_n 2, 1) rfl
theorem dX11_book_40 : decode cX11_book 40 = .ok (.putfield 53, 3) := dr9 dk9_dX11_book_0_0.1 20 (40, .putfield 53, 3) rfl
theorem dX11_book_43 : decode cX11_book 43 = .ok (.aload_n 0, 1) := dr9 dk9_dX11_book_0_0.1 21 (43, .aload_n 0, 1) rfl
theorem dX11_book_44 : decode cX11_book 44 = .ok (.getfield 35, 3) := dr9 dk9_dX11_book_0_0.1 22 (44, .getfield 35, 3) rfl
theorem dX11_book_47 : decode cX11_book 47 = .ok (.invokevirtual 80, 3) := dr9 dk9_dX11_book_0_0.1 23 (47, .invokevirtual 80, 3) rfl
theorem dX11_book_50 : decode cX11_book 50 = .ok (.aload_n 0, 1) := dr9 dk9_dX11_book_0_0.2 0 (50, .aload_n 0, 1) rfl
theorem dX11_book_51 : decode cX11_book 51 = .ok (.getfield 42, 3) := dr9 dk9_dX11_book_0_0.2 1 (51, .getfield 42, 3) rfl
theorem dX11_book_54 : decode cX11_book 54 = .ok (.invokevirtual 83, 3) := dr9 dk9_dX11_book_0_0.2 2 (54, .invokevirtual 83, 3) rfl
theorem dX11_book_57 : decode cX11_book 57 = .ok (.aload_n 0, 1) := dr9 dk9_dX11_book_0_0.2 3 (57, .aload_n 0, 1) rfl
theorem dX11_book_58 : decode cX11_book 58 = .ok (.getfield 28, 3) := dr9 dk9_dX11_book_0_0.2 4 (58, .getfield 28, 3) rfl
theorem dX11_book_61 : decode cX11_book 61 = .ok (.invokevirtual 84, 3) := dr9 dk9_dX11_book_0_0.2 5 (61, .invokevirtual 84, 3) rfl
theorem dX11_book_64 : decode cX11_book 64 = .ok (.aload_n 0, 1) := dr9 dk9_dX11_book_0_0.2 6 (64, .aload_n 0, 1) rfl
theorem dX11_book_65 : decode cX11_book 65 = .ok (.getfield 61, 3) := dr9 dk9_dX11_book_0_0.2 7 (65, .getfield 61, 3) rfl
theorem dX11_book_68 : decode cX11_book 68 = .ok (.aload_n 0, 1) := dr9 dk9_dX11_book_0_0.2 8 (68, .aload_n 0, 1) rfl
theorem dX11_book_69 : decode cX11_book 69 = .ok (.getfield 49, 3) := dr9 dk9_dX11_book_0_0.2 9 (69, .getfield 49, 3) rfl
theorem dX11_book_72 : decode cX11_book 72 = .ok (.invokevirtual 85, 3) := dr9 dk9_dX11_book_0_0.2 10 (72, .invokevirtual 85, 3) rfl
theorem dX11_book_75 : decode cX11_book 75 = .ok (.aload_n 0, 1) := dr9 dk9_dX11_book_0_0.2 11 (75, .aload_n 0, 1) rfl
theorem dX11_book_76 : decode cX11_book 76 = .ok (.iconst 0, 1) := dr9 dk9_dX11_book_0_0.2 12 (76, .iconst 0, 1) rfl
theorem dX11_book_77 : decode cX11_book 77 = .ok (.putfield 89, 3) := dr9 dk9_dX11_book_0_0.2 13 (77, .putfield 89, 3) rfl
theorem dX11_book_80 : decode cX11_book 80 = .ok (.aload_n 0, 1) := dr9 dk9_dX11_book_0_0.2 14 (80, .aload_n 0, 1) rfl
theorem dX11_book_81 : decode cX11_book 81 = .ok (.iconst 0, 1) := dr9 dk9_dX11_book_0_0.2 15 (81, .iconst 0, 1) rfl
theorem dX11_book_82 : decode cX11_book 82 = .ok (.putfield 93, 3) := dr9 dk9_dX11_book_0_0.2 16 (82, .putfield 93, 3) rfl
theorem dX11_book_85 : decode cX11_book 85 = .ok (.iconst 0, 1) := dr9 dk9_dX11_book_0_0.2 17 (85, .iconst 0, 1) rfl
theorem dX11_book_86 : decode cX11_book 86 = .ok (.ireturn, 1) := dr9 dk9_dX11_book_0_0.2 18 (86, .ireturn, 1) rfl
theorem dX11_book_23 : decode cX11_book 23 = .ok (.iload_n 1, 1) := dr9 dk9_dX11_book_0_0.2 19 (23, .iload_n 1, 1) rfl
theorem dX11_book_24 : decode cX11_book 24 = .ok (.ireturn, 1) := dr9 dk9_dX11_book_0_0.2 20 (24, .ireturn, 1) rfl
abbrev r_x_h_book : Room := { frames := 94, cells := 0, slots := 0, locals := 2751 }
abbrev q_x_h_book (D : va_G) (ks : KS) (ad : Nat → Nat) (kk : Nat → ClassId) (V : Vf) (L : Lf) (Z : XZ) (b : Nat) (b1 : Nat) (A : Nat → Prop) : Array Value → State → Outcome → State → Prop := va_Qi (fun (r : Int32) (u : Vf × Lf) => rgd bX u.1 ∧ agr [(0, 6), (0, 7), (0, 8), (0, 9), (1, 1), (1, 2), (1, 3), (1, 4), (1, 6), (1, 7), (1, 8), (2, 7), (3, 12), (3, 13), (3, 14), (3, 15), (4, 5), (4, 6), (4, 7), (4, 8), (5, 5), (5, 6), (5, 7), (5, 8), (5, 9), (5, 13), (6, 5), (6, 6), (6, 7), (6, 8), (6, 9), (6, 10)] [12, 13, 14, 23, 24, 25, 41, 42, 43, 44, 45, 46, 47, 48, 49, 50, 51, 52, 53, 54, 55, 56, 57, 58, 59, 60, 61, 62, 63, 64, 65, 66] V u.1 ∧ agL [1, 6, 14, 44] L u.2 ∧ (Imp (r.toInt = 0) (HI u.1 Z b1)) ∧ (Imp (¬ r.toInt = 0) (HI u.1 Z b)) ∧ (Imp (r.toInt = 0) ((u.1 0 6).toInt = (b1 : Int) ∧ (u.1 0 7).toInt = (b : Int))) ∧ (Imp (¬ r.toInt = 0) ((u.1 0 6).toInt = (b : Int) ∧ (u.1 0 7).toInt = (b1 : Int))) ∧ ((u.1 44 0).toInt = (V 44 0).toInt) ∧ ((u.1 6 5).toInt = 0)) (fun u t => gq D A (xw ad kk u.1 u.2 Z) (xty kk Z) t) A
set_option maxHeartbeats 4000000 in
set_option maxRecDepth 100000 in
theorem x_h_book (l : Launch) (D : va_G) (ks : KS) (sz : Nat) (ad : Nat → Nat) (kk : Nat → ClassId) (V : Vf) (L : Lf) (Z : XZ) (b : Nat) (b1 : Nat) (hMV : rgd bX V) (hb2 : b < 2) (hb1 : b1 < 2) (hbb : b + b1 = 1) (shk : (V 0 6).toInt = (b : Int)) (spk : (V 0 7).toInt = (b1 : Int)) (hi : HI V Z b) (h44 : 60900 ≤ (V 44 0).toInt ∧ (V 44 0).toInt ≤ 250000)  : Met l yX11_book (Cond.code yX11_book cX11_book 3 (some .int) :: GW) r_x_h_book (va_Pc [.ref (ad 0)] (gp D ks (xw ad kk V L Z) (xty kk Z) sz)) (q_x_h_book D ks ad kk V L Z  b b1 (va_A (xw ad kk V L Z) sz)) 0 0 (va_A (xw ad kk V L Z) sz) := by
  refine g_met (q_x_h_book D ks ad kk V L Z  b b1) (by decide) (Nat.le_of_ble_eq_true rfl) ?_
  intro p e s m below meth c A ls H locs hx hb hr hml hown hg hlocks hin hnw hgk hP hK hD hS hA hl
  have hown : s.vm.findClass RX11 = some m.cls := hown
  have hl : lv_has ls 3 [(0, .ref (ad 0))] := hl
  have hP : va_P D vwCl (xw ad kk V L Z) H := hP
  have hD : va_D A (xw ad kk V L Z) := hD
  have hK : va_K D vwCl (xty kk Z) s := hK
  have agV : agr [(0, 6), (0, 7), (0, 8), (0, 9), (1, 1), (1, 2), (1, 3), (1, 4), (1, 6), (1, 7), (1, 8), (2, 7), (3, 12), (3, 13), (3, 14), (3, 15), (4, 5), (4, 6), (4, 7), (4, 8), (5, 5), (5, 6), (5, 7), (5, 8), (5, 9), (5, 13), (6, 5), (6, 6), (6, 7), (6, 8), (6, 9), (6, 10)] [12, 13, 14, 23, 24, 25, 41, 42, 43, 44, 45, 46, 47, 48, 49, 50, 51, 52, 53, 54, 55, 56, 57, 58, 59, 60, 61, 62, 63, 64, 65, 66] V V := agr.rf
  have alL : agL [1, 6, 14, 44] L L := agL.rf
  have r1 : 0 ≤ ((V 0 6)).toInt ∧ ((V 0 6)).toInt ≤ 1 := hMV 0 6
  have r2 : 0 ≤ ((V 0 7)).toInt ∧ ((V 0 7)).toInt ≤ 1 := hMV 0 7
  refine lv_aload_n hx hb dX11_book_0 rfl (lv_at hl 0 rfl) ?_
  refine va_get (D := D) (ci := 11) (v := .ref (ad 1)) (fs := (xfHouse ad V L Z)) (C := RX11) (T := TX11) (N := 10) hx hb hg inX11 hown hK hP 0 xgHouse rfl 1 (by decide) (hg _ w716) (fun _ h9 => h9) rfl dX11_book_1 ?_
  refine lv_aload_n hx hb dX11_book_4 rfl (lv_at hl 0 rfl) ?_
  refine va_get (D := D) (ci := 11) (v := .ref (ad (38 + Int32.toNatClampNeg (V 0 7)))) (fs := (xfHouse ad V L Z)) (C := RX11) (T := TX11) (N := 10) hx hb hg inX11 hown hK hP 0 xgHouse rfl 7 (by decide) (hg _ w722) (fun _ h9 => h9) rfl dX11_book_5 ?_
  refine g_topv (v := .ref (ad (38 + b1))) (rfP (by first | omega | ((try (have i_hi := Imp.go hi (by omega))); omega))) ?_
  refine gA_int (gA_runV (As := [.ref (ad (38 + b1))]) (rest := []) (ci := 1) (q0 := 1) hx hb hml hown hg hP hD hK hS hA hnw hgk (x_read l D ks H.size ad kk V L Z (b1) hMV (show b1 < 2 from by first | exact om_f940a4667dd6 hb1 | first | omega | ((try (have i_hi := Imp.go hi (by omega))); omega))) w758 w759 w760 w162 w761 rfl xgReader hdV_yX1_read ⟨Nat.le_of_ble_eq_true rfl, Nat.le_of_ble_eq_true rfl⟩ rfl hl.1 rfl (Nat.le_of_ble_eq_true rfl) dX11_book_8 ⟨Nat.le_of_ble_eq_true rfl, Nat.le_of_ble_eq_true rfl⟩) hP hD hK hS hA (fun z3 u4 H locs w5 hP hD hK hS => ?_)
  obtain ⟨V7, L8⟩ := u4
  obtain ⟨hMV7, ajV7, axL8, fyV7, t6⟩ := w5
  have alL8 : agL [1, 6, 14, 44] L L8 := agL.tr alL axL8 (by decide)
  have hP : va_P D vwCl (xw ad kk V7 L8 Z) H := hP
  have hD : va_D A (xw ad kk V7 L8 Z) := hD
  have hMV7 : rgd bX V7 := hMV7
  have ajV7 : agr [(1, 1), (1, 2), (1, 3), (1, 4), (1, 6), (1, 7), (1, 8), (6, 6), (6, 7), (6, 8), (6, 9), (6, 10)] [12, 13, 14, 41, 42, 43, 44, 45, 46, 47, 48, 49, 50, 51, 52, 53, 54, 55, 56, 57, 58, 59, 60, 61, 62, 63, 64, 65, 66] V V7 := ajV7
  have agV7 : agr [(0, 6), (0, 7), (0, 8), (0, 9), (1, 1), (1, 2), (1, 3), (1, 4), (1, 6), (1, 7), (1, 8), (2, 7), (3, 12), (3, 13), (3, 14), (3, 15), (4, 5), (4, 6), (4, 7), (4, 8), (5, 5), (5, 6), (5, 7), (5, 8), (5, 9), (5, 13), (6, 5), (6, 6), (6, 7), (6, 8), (6, 9), (6, 10)] [12, 13, 14, 23, 24, 25, 41, 42, 43, 44, 45, 46, 47, 48, 49, 50, 51, 52, 53, 54, 55, 56, 57, 58, 59, 60, 61, 62, 63, 64, 65, 66] V V7 := agV.tr ajV7 (by decide) (by decide)
  have t6 : Imp (z3.toInt = 0) (CD V7 b1 ∧ TX V7 b1) := t6
  have e44r : (V7 44 0).toInt = (V 44 0).toInt := congrArg Int32.toInt (fyV7 44 0 ⟨by decide, by decide⟩ (Or.inr (Nat.le_refl 0)))
  refine lv_istore_n (lv' := [(1, .int z3), (0, .ref (ad 0))]) hx hb dX11_book_11 rfl hl (by decide) rfl (fun ls hl => ?_)
  refine lv_aload_n hx hb dX11_book_12 rfl (lv_at hl 1 rfl) ?_
  refine va_get (D := D) (ci := 11) (v := .ref (ad 6)) (fs := (xfHouse ad V7 L8 Z)) (C := RX11) (T := TX11) (N := 10) hx hb hg inX11 hown hK hP 0 xgHouse rfl 0 (by decide) (hg _ w715) (fun _ h9 => h9) rfl dX11_book_13 ?_
  refine gA_void (gA_runV (As := []) (rest := []) (ci := 9) (q0 := 6) hx hb hml hown hg hP hD hK hS hA hnw hgk (x_empty l D ks H.size ad kk V7 L8 Z  hMV7 ) w1019 w1020 w1021 w157 w1022 rfl xgTape hdV_yX9_empty ⟨Nat.le_of_ble_eq_true rfl, Nat.le_of_ble_eq_true rfl⟩ rfl hl.1 rfl (Nat.le_of_ble_eq_true rfl) dX11_book_16 ⟨Nat.le_of_ble_eq_true rfl, Nat.le_of_ble_eq_true rfl⟩) hP hD hK hS hA (fun u10 H locs w11 hP hD hK hS => ?_)
  obtain ⟨V13, L14⟩ := u10
  obtain ⟨hMV13, ajV13, axL14, t12⟩ := w11
  have axL14 : L8 = L14 := Eq.symm axL14
  subst axL14
  have hP : va_P D vwCl (xw ad kk V13 L8 Z) H := hP
  have hD : va_D A (xw ad kk V13 L8 Z) := hD
  have hMV13 : rgd bX V13 := hMV13
  have ajV13 : agr [(6, 5)] [] V7 V13 := ajV13
  have agV13 : agr [(0, 6), (0, 7), (0, 8), (0, 9), (1, 1), (1, 2), (1, 3), (1, 4), (1, 6), (1, 7), (1, 8), (2, 7), (3, 12), (3, 13), (3, 14), (3, 15), (4, 5), (4, 6), (4, 7), (4, 8), (5, 5), (5, 6), (5, 7), (5, 8), (5, 9), (5, 13), (6, 5), (6, 6), (6, 7), (6, 8), (6, 9), (6, 10)] [12, 13, 14, 23, 24, 25, 41, 42, 43, 44, 45, 46, 47, 48, 49, 50, 51, 52, 53, 54, 55, 56, 57, 58, 59, 60, 61, 62, 63, 64, 65, 66] V V13 := agV7.tr ajV13 (by decide) (by decide)
  have t12 : (V13 6 5).toInt = 0 := t12
  have r15 : 0 ≤ ((V13 6 5)).toInt ∧ ((V13 6 5)).toInt ≤ 4000 := hMV13 6 5
  refine lv_iload_n hx hb dX11_book_19 rfl (lv_at hl 0 rfl) ?_
  refine lv_if_eq (tgt := 25) hx hb dX11_book_20 (by decide) (fun c16 => ?_) (fun c16 => ?_)
  · skip
    have f17 : z3.toInt = 0 := b_eq rfl (by decide) c16
    refine lv_aload_n hx hb dX11_book_25 rfl (lv_at hl 1 rfl) ?_
    refine va_get (D := D) (ci := 11) (v := .ref (ad (38 + Int32.toNatClampNeg (V13 0 6)))) (fs := (xfHouse ad V13 L8 Z)) (C := RX11) (T := TX11) (N := 10) hx hb hg inX11 hown hK hP 0 xgHouse rfl 6 (by decide) (hg _ w721) (fun _ h9 => h9) rfl dX11_book_26 ?_
    have pq18 : (V13 0 6).toInt = ((V 0 6)).toInt := congrArg Int32.toInt ((ajV13 0 6 rfl).trans (ajV7 0 6 rfl))
    refine g_topv (v := .ref (ad (38 + b))) (rfP (by first | omega | ((try (have i_hi := Imp.go hi (by omega))); omega))) ?_
    refine lv_astore_n (lv' := [(2, .ref (ad (38 + b))), (1, .int z3), (0, .ref (ad 0))]) hx hb dX11_book_29 rfl hl (by decide) rfl (fun ls hl => ?_)
    refine lv_aload_n hx hb dX11_book_30 rfl (lv_at hl 2 rfl) ?_
    refine lv_aload_n hx hb dX11_book_31 rfl (lv_at hl 2 rfl) ?_
    refine va_get (D := D) (ci := 11) (v := .ref (ad (38 + Int32.toNatClampNeg (V13 0 7)))) (fs := (xfHouse ad V13 L8 Z)) (C := RX11) (T := TX11) (N := 10) hx hb hg inX11 hown hK hP 0 xgHouse rfl 7 (by decide) (hg _ w722) (fun _ h9 => h9) rfl dX11_book_32 ?_
    have pq19 : (V13 0 7).toInt = ((V 0 7)).toInt := congrArg Int32.toInt ((ajV13 0 7 rfl).trans (ajV7 0 7 rfl))
    refine g_topv (v := .ref (ad (38 + b1))) (rfP (by first | omega | ((try (have i_hi := Imp.go hi (by omega))); omega))) ?_
    refine va_put (D := D) (ci := 11) (v := .ref (ad (38 + b1))) (ty := tyX11 6) (fs := (xfHouse ad V13 L8 Z)) (C := RX11) (T := TX11) (N := 10) hx hb hg inX11 tyX11 tyX11_ok nmX11 hown hK hP hD hS 0 xgHouse rfl 6 (by decide) (hg _ w721) (fun _ h9 => h9) rfl (tyX11_ok 6 (by decide)) rfl rfl (Nat.le_of_ble_eq_true rfl) dX11_book_35 (fun H locs hP hD hS => ?_)
    have r20 : (nI b1).toInt = ((b1 : Nat) : Int) := nI_toInt (by omega)
    obtain ⟨V21, hV21⟩ : ∃ z, z = up2 V13 0 6 (nI b1) := ⟨_, rfl⟩
    have ew22 : (xw ad kk V13 L8 Z).set 0 ((ad 0), .inr (11, (xfHouse ad V13 L8 Z).set 6 (.ref (ad (38 + b1))))) = xw ad kk V21 L8 Z := by rw [hV21]; exact xr_shelf hb1
    have hP : va_P D vwCl (xw ad kk V21 L8 Z) H := by rw [← ew22]; exact hP
    have hD : va_D A (xw ad kk V21 L8 Z) := by rw [← ew22]; exact hD
    have hMV21 : rgd bX V21 := hMV13.put hV21 (show 0 ≤ ((nI b1)).toInt ∧ ((nI b1)).toInt ≤ 1 from by first | exact om_d98fff7a4861 hb1 r20 | first | omega | ((try (have i_hi := Imp.go hi (by omega))); omega))
    have agV21 : agr [(0, 6), (0, 7), (0, 8), (0, 9), (1, 1), (1, 2), (1, 3), (1, 4), (1, 6), (1, 7), (1, 8), (2, 7), (3, 12), (3, 13), (3, 14), (3, 15), (4, 5), (4, 6), (4, 7), (4, 8), (5, 5), (5, 6), (5, 7), (5, 8), (5, 9), (5, 13), (6, 5), (6, 6), (6, 7), (6, 8), (6, 9), (6, 10)] [12, 13, 14, 23, 24, 25, 41, 42, 43, 44, 45, 46, 47, 48, 49, 50, 51, 52, 53, 54, 55, 56, 57, 58, 59, 60, 61, 62, 63, 64, 65, 66] V V21 := agV13.up hV21 rfl
    refine lv_aload_n hx hb dX11_book_38 rfl (lv_at hl 2 rfl) ?_
    refine lv_aload_n hx hb dX11_book_39 rfl (lv_at hl 0 rfl) ?_
    refine va_put (D := D) (ci := 11) (v := .ref (ad (38 + b))) (ty := tyX11 7) (fs := (xfHouse ad V21 L8 Z)) (C := RX11) (T := TX11) (N := 10) hx hb hg inX11 tyX11 tyX11_ok nmX11 hown hK hP hD hS 0 xgHouse rfl 7 (by decide) (hg _ w722) (fun _ h9 => h9) rfl (tyX11_ok 7 (by decide)) rfl rfl (Nat.le_of_ble_eq_true rfl) dX11_book_40 (fun H locs hP hD hS => ?_)
    have r23 : (nI b).toInt = ((b : Nat) : Int) := nI_toInt (by omega)
    obtain ⟨V24, hV24⟩ : ∃ z, z = up2 V21 0 7 (nI b) := ⟨_, rfl⟩
    have ew25 : (xw ad kk V21 L8 Z).set 0 ((ad 0), .inr (11, (xfHouse ad V21 L8 Z).set 7 (.ref (ad (38 + b))))) = xw ad kk V24 L8 Z := by rw [hV24]; exact xr_spare hb2
    have hP : va_P D vwCl (xw ad kk V24 L8 Z) H := by rw [← ew25]; exact hP
    have hD : va_D A (xw ad kk V24 L8 Z) := by rw [← ew25]; exact hD
    have hMV24 : rgd bX V24 := hMV21.put hV24 (show 0 ≤ ((nI b)).toInt ∧ ((nI b)).toInt ≤ 1 from by first | exact om_cf08f328c789 hb1 hbb r23 | first | omega | ((try (have i_hi := Imp.go hi (by omega))); omega))
    have agV24 : agr [(0, 6), (0, 7), (0, 8), (0, 9), (1, 1), (1, 2), (1, 3), (1, 4), (1, 6), (1, 7), (1, 8), (2, 7), (3, 12), (3, 13), (3, 14), (3, 15), (4, 5), (4, 6), (4, 7), (4, 8), (5, 5), (5, 6), (5, 7), (5, 8), (5, 9), (5, 13), (6, 5), (6, 6), (6, 7), (6, 8), (6, 9), (6, 10)] [12, 13, 14, 23, 24, 25, 41, 42, 43, 44, 45, 46, 47, 48, 49, 50, 51, 52, 53, 54, 55, 56, 57, 58, 59, 60, 61, 62, 63, 64, 65, 66] V V24 := agV21.up hV24 rfl
    refine lv_aload_n hx hb dX11_book_43 rfl (lv_at hl 2 rfl) ?_
    refine va_get (D := D) (ci := 11) (v := .ref (ad 3)) (fs := (xfHouse ad V24 L8 Z)) (C := RX11) (T := TX11) (N := 10) hx hb hg inX11 hown hK hP 0 xgHouse rfl 3 (by decide) (hg _ w718) (fun _ h9 => h9) rfl dX11_book_44 ?_
    refine gA_void (gA_runV (As := []) (rest := []) (ci := 8) (q0 := 3) hx hb hml hown hg hP hD hK hS hA hnw hgk (x_sclear2 l D ks H.size ad kk V24 L8 Z  hMV24 ) w1023 w1024 w1025 w164 w1026 rfl xgStock hdV_yX8_clear ⟨Nat.le_of_ble_eq_true rfl, Nat.le_of_ble_eq_true rfl⟩ rfl hl.1 rfl (Nat.le_of_ble_eq_true rfl) dX11_book_47 ⟨Nat.le_of_ble_eq_true rfl, Nat.le_of_ble_eq_true rfl⟩) hP hD hK hS hA (fun u27 H locs w28 hP hD hK hS => ?_)
    obtain ⟨V32, L33⟩ := u27
    obtain ⟨hMV32, ajV32, axL33, t29, t30, t31⟩ := w28
    have axL33 : L8 = L33 := Eq.symm axL33
    subst axL33
    have hP : va_P D vwCl (xw ad kk V32 L8 Z) H := hP
    have hD : va_D A (xw ad kk V32 L8 Z) := hD
    have hMV32 : rgd bX V32 := hMV32
    have ajV32 : agr [(3, 12), (3, 13), (3, 14), (3, 15)] [23, 24, 25] V24 V32 := ajV32
    have agV32 : agr [(0, 6), (0, 7), (0, 8), (0, 9), (1, 1), (1, 2), (1, 3), (1, 4), (1, 6), (1, 7), (1, 8), (2, 7), (3, 12), (3, 13), (3, 14), (3, 15), (4, 5), (4, 6), (4, 7), (4, 8), (5, 5), (5, 6), (5, 7), (5, 8), (5, 9), (5, 13), (6, 5), (6, 6), (6, 7), (6, 8), (6, 9), (6, 10)] [12, 13, 14, 23, 24, 25, 41, 42, 43, 44, 45, 46, 47, 48, 49, 50, 51, 52, 53, 54, 55, 56, 57, 58, 59, 60, 61, 62, 63, 64, 65, 66] V V32 := agV24.tr ajV32 (by decide) (by decide)
    have t29 : (V32 3 13).toInt = 0 := t29
    have t30 : (V32 3 15).toInt = 0 := t30
    have t31 : ∀ q : Nat, q < 960 → (V32 25 q).toInt = -1 := t31
    have r34 : 0 ≤ ((V32 3 13)).toInt ∧ ((V32 3 13)).toInt ≤ 300 := hMV32 3 13
    have r35 : 0 ≤ ((V32 3 15)).toInt ∧ ((V32 3 15)).toInt ≤ 262144 := hMV32 3 15
    refine lv_aload_n hx hb dX11_book_50 rfl (lv_at hl 2 rfl) ?_
    refine va_get (D := D) (ci := 11) (v := .ref (ad 4)) (fs := (xfHouse ad V32 L8 Z)) (C := RX11) (T := TX11) (N := 10) hx hb hg inX11 hown hK hP 0 xgHouse rfl 4 (by decide) (hg _ w719) (fun _ h9 => h9) rfl dX11_book_51 ?_
    refine gA_void (gA_runV (As := []) (rest := []) (ci := 7) (q0 := 4) hx hb hml hown hg hP hD hK hS hA hnw hgk (x_Nclear l D ks H.size ad kk V32 L8 Z  hMV32 ) w1031 w1032 w1033 w166 w1034 rfl xgNotes hdV_yX7_clear ⟨Nat.le_of_ble_eq_true rfl, Nat.le_of_ble_eq_true rfl⟩ rfl hl.1 rfl (Nat.le_of_ble_eq_true rfl) dX11_book_54 ⟨Nat.le_of_ble_eq_true rfl, Nat.le_of_ble_eq_true rfl⟩) hP hD hK hS hA (fun u37 H locs w38 hP hD hK hS => ?_)
    obtain ⟨V39, L40⟩ := u37
    obtain ⟨hMV39, ajV39, axL40⟩ := w38
    have axL40 : L8 = L40 := Eq.symm axL40
    subst axL40
    have hP : va_P D vwCl (xw ad kk V39 L8 Z) H := hP
    have hD : va_D A (xw ad kk V39 L8 Z) := hD
    have hMV39 : rgd bX V39 := hMV39
    have ajV39 : agr [(4, 5), (4, 6), (4, 7), (4, 8)] [] V32 V39 := ajV39
    have agV39 : agr [(0, 6), (0, 7), (0, 8), (0, 9), (1, 1), (1, 2), (1, 3), (1, 4), (1, 6), (1, 7), (1, 8), (2, 7), (3, 12), (3, 13), (3, 14), (3, 15), (4, 5), (4, 6), (4, 7), (4, 8), (5, 5), (5, 6), (5, 7), (5, 8), (5, 9), (5, 13), (6, 5), (6, 6), (6, 7), (6, 8), (6, 9), (6, 10)] [12, 13, 14, 23, 24, 25, 41, 42, 43, 44, 45, 46, 47, 48, 49, 50, 51, 52, 53, 54, 55, 56, 57, 58, 59, 60, 61, 62, 63, 64, 65, 66] V V39 := agV32.tr ajV39 (by decide) (by decide)
    refine lv_aload_n hx hb dX11_book_57 rfl (lv_at hl 2 rfl) ?_
    refine va_get (D := D) (ci := 11) (v := .ref (ad 2)) (fs := (xfHouse ad V39 L8 Z)) (C := RX11) (T := TX11) (N := 10) hx hb hg inX11 hown hK hP 0 xgHouse rfl 2 (by decide) (hg _ w717) (fun _ h9 => h9) rfl dX11_book_58 ?_
    refine gA_void (gA_runV (As := []) (rest := []) (ci := 2) (q0 := 2) hx hb hml hown hg hP hD hK hS hA hnw hgk (x_kclear l D ks H.size ad kk V39 L8 Z  hMV39 ) w1035 w1036 w1037 w163 w1038 rfl xgChecker hdV_yX2_clear ⟨Nat.le_of_ble_eq_true rfl, Nat.le_of_ble_eq_true rfl⟩ rfl hl.1 rfl (Nat.le_of_ble_eq_true rfl) dX11_book_61 ⟨Nat.le_of_ble_eq_true rfl, Nat.le_of_ble_eq_true rfl⟩) hP hD hK hS hA (fun u42 H locs w43 hP hD hK hS => ?_)
    obtain ⟨V44, L45⟩ := u42
    obtain ⟨hMV44, ajV44, axL45⟩ := w43
    have axL45 : L8 = L45 := Eq.symm axL45
    subst axL45
    have hP : va_P D vwCl (xw ad kk V44 L8 Z) H := hP
    have hD : va_D A (xw ad kk V44 L8 Z) := hD
    have hMV44 : rgd bX V44 := hMV44
    have ajV44 : agr [(2, 7)] [] V39 V44 := ajV44
    have agV44 : agr [(0, 6), (0, 7), (0, 8), (0, 9), (1, 1), (1, 2), (1, 3), (1, 4), (1, 6), (1, 7), (1, 8), (2, 7), (3, 12), (3, 13), (3, 14), (3, 15), (4, 5), (4, 6), (4, 7), (4, 8), (5, 5), (5, 6), (5, 7), (5, 8), (5, 9), (5, 13), (6, 5), (6, 6), (6, 7), (6, 8), (6, 9), (6, 10)] [12, 13, 14, 23, 24, 25, 41, 42, 43, 44, 45, 46, 47, 48, 49, 50, 51, 52, 53, 54, 55, 56, 57, 58, 59, 60, 61, 62, 63, 64, 65, 66] V V44 := agV39.tr ajV44 (by decide) (by decide)
    refine lv_aload_n hx hb dX11_book_64 rfl (lv_at hl 2 rfl) ?_
    refine va_get (D := D) (ci := 11) (v := .ref (ad 5)) (fs := (xfHouse ad V44 L8 Z)) (C := RX11) (T := TX11) (N := 10) hx hb hg inX11 hown hK hP 0 xgHouse rfl 5 (by decide) (hg _ w720) (fun _ h9 => h9) rfl dX11_book_65 ?_
    refine lv_aload_n hx hb dX11_book_68 rfl (lv_at hl 2 rfl) ?_
    refine va_get (D := D) (ci := 11) (v := .ref (ad (38 + Int32.toNatClampNeg (V44 0 6)))) (fs := (xfHouse ad V44 L8 Z)) (C := RX11) (T := TX11) (N := 10) hx hb hg inX11 hown hK hP 0 xgHouse rfl 6 (by decide) (hg _ w721) (fun _ h9 => h9) rfl dX11_book_69 ?_
    have pq46 : (V44 0 6).toInt = ((nI b1)).toInt := congrArg Int32.toInt ((ajV44 0 6 rfl).trans ((ajV39 0 6 rfl).trans ((ajV32 0 6 rfl).trans ((up2_k hV24 (by decide)).trans (up2_s hV21)))))
    refine g_topv (v := .ref (ad (38 + b1))) (rfP (by first | omega | ((try (have i_hi := Imp.go hi (by omega))); omega))) ?_
    refine gA_void (gA_runV (As := [.ref (ad (38 + b1))]) (rest := []) (ci := 5) (q0 := 5) hx hb hml hown hg hP hD hK hS hA hnw hgk (x_takeBook l D ks H.size ad kk V44 L8 Z (b1) hMV44 (show b1 < 2 from by first | exact om_f940a4667dd6 hb1 | first | omega | ((try (have i_hi := Imp.go hi (by omega))); omega))) w1039 w1040 w1041 w171 w1042 rfl xgMachine hdV_yX5_takeBook ⟨Nat.le_of_ble_eq_true rfl, Nat.le_of_ble_eq_true rfl⟩ rfl hl.1 rfl (Nat.le_of_ble_eq_true rfl) dX11_book_72 ⟨Nat.le_of_ble_eq_true rfl, Nat.le_of_ble_eq_true rfl⟩) hP hD hK hS hA (fun u48 H locs w49 hP hD hK hS => ?_)
    obtain ⟨V52, L53⟩ := u48
    obtain ⟨hMV52, ajV52, axL53, t50, t51⟩ := w49
    have axL53 : L8 = L53 := Eq.symm axL53
    subst axL53
    have hP : va_P D vwCl (xw ad kk V52 L8 Z) H := hP
    have hD : va_D A (xw ad kk V52 L8 Z) := hD
    have hMV52 : rgd bX V52 := hMV52
    have ajV52 : agr [(5, 5), (5, 6), (5, 7), (5, 8), (5, 9), (5, 13)] [] V44 V52 := ajV52
    have agV52 : agr [(0, 6), (0, 7), (0, 8), (0, 9), (1, 1), (1, 2), (1, 3), (1, 4), (1, 6), (1, 7), (1, 8), (2, 7), (3, 12), (3, 13), (3, 14), (3, 15), (4, 5), (4, 6), (4, 7), (4, 8), (5, 5), (5, 6), (5, 7), (5, 8), (5, 9), (5, 13), (6, 5), (6, 6), (6, 7), (6, 8), (6, 9), (6, 10)] [12, 13, 14, 23, 24, 25, 41, 42, 43, 44, 45, 46, 47, 48, 49, 50, 51, 52, 53, 54, 55, 56, 57, 58, 59, 60, 61, 62, 63, 64, 65, 66] V V52 := agV44.tr ajV52 (by decide) (by decide)
    have t50 : (V52 5 5).toInt = (b1 : Int) := t50
    have t51 : (V52 5 6).toInt = 0 := t51
    have r54 : 0 ≤ ((V52 5 5)).toInt ∧ ((V52 5 5)).toInt ≤ 1 := hMV52 5 5
    have r55 : 0 ≤ ((V52 5 6)).toInt ∧ ((V52 5 6)).toInt ≤ 400 := hMV52 5 6
    refine lv_aload_n hx hb dX11_book_75 rfl (lv_at hl 2 rfl) ?_
    refine lv_iconst (v := 0) hx hb dX11_book_76 (by decide) ?_
    refine va_put (D := D) (ci := 11) (v := .int 0) (ty := tyX11 8) (fs := (xfHouse ad V52 L8 Z)) (C := RX11) (T := TX11) (N := 10) hx hb hg inX11 tyX11 tyX11_ok nmX11 hown hK hP hD hS 0 xgHouse rfl 8 (by decide) (hg _ w723) (fun _ h9 => h9) rfl (tyX11_ok 8 (by decide)) rfl rfl (Nat.le_of_ble_eq_true rfl) dX11_book_77 (fun H locs hP hD hS => ?_)
    obtain ⟨V56, hV56⟩ : ∃ z, z = up2 V52 0 8 0 := ⟨_, rfl⟩
    have ew57 : (xw ad kk V52 L8 Z).set 0 ((ad 0), .inr (11, (xfHouse ad V52 L8 Z).set 8 (.int 0))) = xw ad kk V56 L8 Z := by rw [hV56]; exact xw_ss (by decide) rfl (xb_si (by decide))
    have hP : va_P D vwCl (xw ad kk V56 L8 Z) H := by rw [← ew57]; exact hP
    have hD : va_D A (xw ad kk V56 L8 Z) := by rw [← ew57]; exact hD
    have hMV56 : rgd bX V56 := hMV52.put hV56 (by decide)
    have agV56 : agr [(0, 6), (0, 7), (0, 8), (0, 9), (1, 1), (1, 2), (1, 3), (1, 4), (1, 6), (1, 7), (1, 8), (2, 7), (3, 12), (3, 13), (3, 14), (3, 15), (4, 5), (4, 6), (4, 7), (4, 8), (5, 5), (5, 6), (5, 7), (5, 8), (5, 9), (5, 13), (6, 5), (6, 6), (6, 7), (6, 8), (6, 9), (6, 10)] [12, 13, 14, 23, 24, 25, 41, 42, 43, 44, 45, 46, 47, 48, 49, 50, 51, 52, 53, 54, 55, 56, 57, 58, 59, 60, 61, 62, 63, 64, 65, 66] V V56 := agV52.up hV56 rfl
    refine lv_aload_n hx hb dX11_book_80 rfl (lv_at hl 2 rfl) ?_
    refine lv_iconst (v := 0) hx hb dX11_book_81 (by decide) ?_
    refine va_put (D := D) (ci := 11) (v := .int 0) (ty := tyX11 9) (fs := (xfHouse ad V56 L8 Z)) (C := RX11) (T := TX11) (N := 10) hx hb hg inX11 tyX11 tyX11_ok nmX11 hown hK hP hD hS 0 xgHouse rfl 9 (by decide) (hg _ w724) (fun _ h9 => h9) rfl (tyX11_ok 9 (by decide)) rfl rfl (Nat.le_of_ble_eq_true rfl) dX11_book_82 (fun H locs hP hD hS => ?_)
    obtain ⟨V58, hV58⟩ : ∃ z, z = up2 V56 0 9 0 := ⟨_, rfl⟩
    have ew59 : (xw ad kk V56 L8 Z).set 0 ((ad 0), .inr (11, (xfHouse ad V56 L8 Z).set 9 (.int 0))) = xw ad kk V58 L8 Z := by rw [hV58]; exact xw_ss (by decide) rfl (xb_si (by decide))
    have hP : va_P D vwCl (xw ad kk V58 L8 Z) H := by rw [← ew59]; exact hP
    have hD : va_D A (xw ad kk V58 L8 Z) := by rw [← ew59]; exact hD
    have hMV58 : rgd bX V58 := hMV56.put hV58 (i_full _)
    have agV58 : agr [(0, 6), (0, 7), (0, 8), (0, 9), (1, 1), (1, 2), (1, 3), (1, 4), (1, 6), (1, 7), (1, 8), (2, 7), (3, 12), (3, 13), (3, 14), (3, 15), (4, 5), (4, 6), (4, 7), (4, 8), (5, 5), (5, 6), (5, 7), (5, 8), (5, 9), (5, 13), (6, 5), (6, 6), (6, 7), (6, 8), (6, 9), (6, 10)] [12, 13, 14, 23, 24, 25, 41, 42, 43, 44, 45, 46, 47, 48, 49, 50, 51, 52, 53, 54, 55, 56, 57, 58, 59, 60, 61, 62, 63, 64, 65, 66] V V58 := agV56.up hV58 rfl
    refine lv_iconst (v := 0) hx hb dX11_book_85 (by decide) ?_
    have pq60 : (V58 0 6).toInt = ((nI b1)).toInt := congrArg Int32.toInt ((up2_k hV58 (by decide)).trans ((up2_k hV56 (by decide)).trans ((ajV52 0 6 rfl).trans ((ajV44 0 6 rfl).trans ((ajV39 0 6 rfl).trans ((ajV32 0 6 rfl).trans ((up2_k hV24 (by decide)).trans (up2_s hV21))))))))
    have pq61 : (V58 0 7).toInt = ((nI b)).toInt := congrArg Int32.toInt ((up2_k hV58 (by decide)).trans ((up2_k hV56 (by decide)).trans ((ajV52 0 7 rfl).trans ((ajV44 0 7 rfl).trans ((ajV39 0 7 rfl).trans ((ajV32 0 7 rfl).trans (up2_s hV24)))))))
    have pq62 : (V58 44 0).toInt = ((V7 44 0)).toInt := congrArg Int32.toInt ((up2_o hV58 (by decide)).trans ((up2_o hV56 (by decide)).trans ((ajV52 44 0 rfl).trans ((ajV44 44 0 rfl).trans ((ajV39 44 0 rfl).trans ((ajV32 44 0 rfl).trans ((up2_o hV24 (by decide)).trans ((up2_o hV21 (by decide)).trans (ajV13 44 0 rfl)))))))))
    have pq63 : (V58 6 5).toInt = ((V13 6 5)).toInt := congrArg Int32.toInt ((up2_o hV58 (by decide)).trans ((up2_o hV56 (by decide)).trans ((ajV52 6 5 rfl).trans ((ajV44 6 5 rfl).trans ((ajV39 6 5 rfl).trans ((ajV32 6 5 rfl).trans ((up2_o hV24 (by decide)).trans (up2_o hV21 (by decide)))))))))
    have hcd := Imp.go t6 (by (first | exact om_b66ba74381d5 f17 | omega))
    have be64 : BE V7 V58 := (BE.tr (BE.tr (BE.tr (BE.tr (BE.tr (BE.tr (BE.tr (BE.tr (BE.tr BE.rf (BE.ag ajV13 (by decide) (by decide))) (BE.ag (agr.up (fs := [(0, 6)]) (cs := []) agr.rf hV21 rfl) (by decide) (by decide))) (BE.ag (agr.up (fs := [(0, 7)]) (cs := []) agr.rf hV24 rfl) (by decide) (by decide))) (BE.ag ajV32 (by decide) (by decide))) (BE.ag ajV39 (by decide) (by decide))) (BE.ag ajV44 (by decide) (by decide))) (BE.ag ajV52 (by decide) (by decide))) (BE.ag (agr.up (fs := [(0, 8)]) (cs := []) agr.rf hV56 rfl) (by decide) (by decide))) (BE.ag (agr.up (fs := [(0, 9)]) (cs := []) agr.rf hV58 rfl) (by decide) (by decide)))
    have pq65 : (V58 3 13).toInt = ((V32 3 13)).toInt := congrArg Int32.toInt ((up2_o hV58 (by decide)).trans ((up2_o hV56 (by decide)).trans ((ajV52 3 13 rfl).trans ((ajV44 3 13 rfl).trans (ajV39 3 13 rfl)))))
    have pq66 : (V58 3 15).toInt = ((V32 3 15)).toInt := congrArg Int32.toInt ((up2_o hV58 (by decide)).trans ((up2_o hV56 (by decide)).trans ((ajV52 3 15 rfl).trans ((ajV44 3 15 rfl).trans (ajV39 3 15 rfl)))))
    have pq67 : (V58 5 5).toInt = ((V52 5 5)).toInt := congrArg Int32.toInt ((up2_o hV58 (by decide)).trans (up2_o hV56 (by decide)))
    have pp68 : ∀ q : Nat, q < 960 → (V58 25 q).toInt = -1 := fun q hq => by rw [show V58 25 q = V56 25 q from up2_o hV58 (by decide)]; rw [show V56 25 q = V52 25 q from up2_o hV56 (by decide)]; rw [ajV52 25 q rfl]; rw [ajV44 25 q rfl]; rw [ajV39 25 q rfl]; exact t31 q hq
    have rp69 : HI V58 Z b1 := HI.new hi (TX.be hcd.2 be64) (CD.be hcd.1 be64) (by (first | exact om_36161e850215 t29 pq65 | omega)) (by (first | exact om_36161e850215 t30 pq66 | omega)) (by (first | exact om_07161d737d40 h44.1 h44.2 e44r pq62 | omega)) (by (first | exact om_adf531c77a0d t50 pq67 | omega)) pp68
    exact W.iret (v := 0) hx hb hr (fun t ht hW => ⟨⟨0, (V58, L8), rfl, ⟨hMV58, agV58, alL8, (Imp.mk (fun _ => rp69)), (Imp.mk (fun hp => absurd (show Int32.toInt 0 = 0 from by decide) hp)), (Imp.mk (fun _ => (show (V58 0 6).toInt = (b1 : Int) ∧ (V58 0 7).toInt = (b : Int) from by first | exact om_dc1ab77f9798 r20 r23 pq60 pq61 | first | omega | ((try (have i_hi := Imp.go hi (by omega))); omega)))), (Imp.mk (fun hp => absurd (show Int32.toInt 0 = 0 from by decide) hp)), (show (V58 44 0).toInt = (V 44 0).toInt from by first | exact om_cd7d0a6a31bc e44r pq62 | first | omega | ((try (have i_hi := Imp.go hi (by omega))); omega)), (show (V58 6 5).toInt = 0 from by first | exact om_36161e850215 t12 pq63 | first | omega | ((try (have i_hi := Imp.go hi (by omega))); omega))⟩, by rw [ht]; exact hP, va_K.moved hW.alike hK, hD⟩, hS.F ht⟩) hS.2.2 dX11_book_86
  · skip
    have f70 : z3.toInt ≠ 0 := b_neq rfl (by decide) c16
    refine lv_iload_n hx hb dX11_book_23 rfl (lv_at hl 0 rfl) ?_
    have pq71 : (V13 0 6).toInt = ((V 0 6)).toInt := congrArg Int32.toInt ((ajV13 0 6 rfl).trans (ajV7 0 6 rfl))
    have pq72 : (V13 0 7).toInt = ((V 0 7)).toInt := congrArg Int32.toInt ((ajV13 0 7 rfl).trans (ajV7 0 7 rfl))
    have pq73 : (V13 44 0).toInt = ((V7 44 0)).toInt := congrArg Int32.toInt (ajV13 44 0 rfl)
    have hf74 : HI V7 Z b := HI.fr hi hbb hMV fyV7 (ajV7 3 13 rfl) (ajV7 3 15 rfl) (ajV7 5 5 rfl) (fun k => ajV7 26 k rfl) (fun k => ajV7 30 k rfl) (fun k => ajV7 32 k rfl) (fun k => ajV7 25 k rfl)
    exact W.iret (v := z3) hx hb hr (fun t ht hW => ⟨⟨z3, (V13, L8), rfl, ⟨hMV13, agV13, alL8, (Imp.mk (fun hp => by exfalso; omega)), (Imp.mk (fun _ => (HI.ag hf74 ajV13 (by decide)))), (Imp.mk (fun hp => have hp : z3.toInt = 0 := hp; (show (V13 0 6).toInt = (b1 : Int) ∧ (V13 0 7).toInt = (b : Int) from by first | omega | ((try (have i_hi := Imp.go hi (by omega))); omega)))), (Imp.mk (fun _ => ⟨by show (V13 0 6).toInt = (b : Int); (first | exact om_adf531c77a0d shk pq71 | omega), by show (V13 0 7).toInt = (b1 : Int); (first | exact om_adf531c77a0d spk pq72 | omega)⟩)), (show (V13 44 0).toInt = (V 44 0).toInt from by first | exact om_cd7d0a6a31bc e44r pq73 | first | omega | ((try (have i_hi := Imp.go hi (by omega))); omega)), (show (V13 6 5).toInt = 0 from by first | exact om_b66ba74381d5 t12 | first | omega | ((try (have i_hi := Imp.go hi (by omega))); omega))⟩, by rw [ht]; exact hP, va_K.moved hW.alike hK, hD⟩, hS.F ht⟩) hS.2.2 dX11_book_24
end
section
section VXA
/-! The laws vx_back, vx_callV, vx_callS, vx_callSW, vx_throw0, vx_throwS follow proofs of the library, with one case more: JvmDerived/Free/Laws.lean (Back.of_free), Shelf42/LK1.lean (callV, callS), Shelf/KitTraced.lean (throwNew0V, throwNewS). -/
/-- where a method has thrown q: the class by its name, the cell, what was written, the world -/
def vx_T (XC : String → State → State → Prop) (st : State) (q : Addr) (t : State) (mc ms : Nat) (free : Addr → Prop) : Prop :=
  ∃ (E : String) (ce : Cell) (L : List Loc), XC E st t ∧ t.heap[q]? = some ce ∧ ce.vm = .none ∧ st.vm.findClass E = some ce.cls ∧ st.WarmedH t.vm ∧ st.sameButNew ({ t with vm := st.vm } : State) L mc ms ∧ ∀ z ∈ L, free z.base
def vx_Q (Qc : Array Value → State → Outcome → State → Prop) (XC : String → State → State → Prop) (mc ms : Nat) (free : Addr → Prop) : Array Value → State → Outcome → State → Prop := fun a st o t =>
  (Qc a st o t ∧ ∃ L, FrameEnd st o t L mc ms ∧ ∀ q ∈ L, free q.base) ∨ ∃ q, o = .threw q ∧ vx_T XC st q t mc ms free
/-- a callee that returns or throws -/
def vx_Met (l : Launch) (y : MethodName) (ws : List Cond) (rm : Room) (Pc : Array Value → State → Prop) (Qc : Array Value → State → Outcome → State → Prop) (XC : String → State → State → Prop) (mc ms : Nat) (free : Addr → Prop) : Prop :=
  MetFree l y (headSpec ws rm) Pc (fun _ _ _ _ _ => True) (vx_Q Qc XC mc ms free)
def vx_Post (XC : String → State → State → Prop) (mc ms : Nat) (free : Addr → Prop) : Pt → Array Value → Addr → Pt → Prop := fun A a q B =>
  ∃ (g : JFrame) (mk : MethodId) (t : State) (L : List Loc) (E : String) (ce : Cell), B.U.heap = t.heap ∧ B.U.vm = t.vm ∧ XC E (A.U.calling g mk a) t ∧ t.heap[q]? = some ce ∧ ce.vm = .none ∧ A.U.vm.findClass E = some ce.cls ∧ B.locs = A.locs ++ L ∧ (∀ z ∈ L, free z.base) ∧ B.cells = A.cells + mc ∧ B.slots = A.slots + ms
def vx_Back (l : Launch) (R : Room) (p : Program) (e : Env) (below : List Frame) (s : State) (sargs : Array Value) (y : MethodName) (len W9 : Nat)
    (Pre : Pt → Array Value → Prop) (Post : Pt → Array Value → Option Value → Pt → Prop) (PostX : Pt → Array Value → Addr → Pt → Prop) : Prop :=
  ∀ (m : MethodId) (meth : Method) (c : Code) (A : Pt) (g : JFrame) (ig : Instr) (mk : MethodId) (a : Array Value),
    Stand p l e R s m sargs below meth c A.U A.locs A.cells A.slots → g.method = m → g.locals.size = c.maxLocals → decode c.code g.pc = .ok (ig, len) →
    2 * g.monitorRoom + (g.stack.map fun v => v.category).sum ≤ W9 → A.U.methodNamed? y = some mk → Pre A a →
    (∃ (v : Option Value) (B : Pt), Stand p l e R s m sargs below meth c B.U B.locs B.cells B.slots ∧ Post A a v B ∧
      Steps p.tables e below (doInvoke e (A.U.setTop g) [] mk a).1 (B.U.setTop { g with pc := g.pc + len, stack := v.toList ++ g.stack })) ∨
    (∃ (q : Addr) (B : Pt), Stand p l e R s m sargs below meth c B.U B.locs B.cells B.slots ∧ PostX A a q B ∧
      Steps p.tables e below (doInvoke e (A.U.setTop g) [] mk a).1 ((B.U.setTop g).pushFrame (.throwing q)))
section Payer
variable {l : Launch} {R : Room} {p : Program} {e : Env} {below : List Frame} {s : State} {sargs : Array Value} {y : MethodName} {len W9 : Nat}
theorem vx_back {ws : List Cond} {rm : Room} {Pc : Array Value → State → Prop} {Qc : Array Value → State → Outcome → State → Prop} {XC : String → State → State → Prop} {mc ms : Nat} {free : Addr → Prop} {bytes : ByteArray} {maxL : Nat} {ret : Option FieldType}
    (hM : vx_Met l y ws rm Pc Qc XC mc ms free) (hblind : FrameBlind Pc) (hrc : rm.cells = mc) (hrs : rm.slots = ms)
    (hframes : rm.frames + 1 ≤ R.frames) (hlocals : W9 + (maxL + 11) + rm.locals ≤ R.locals)
    (hws : ∀ w ∈ ws, ∀ a' U, s.WarmedH U.vm → w.before a' U = true) (hcode : Cond.code y bytes maxL ret ∈ ws) (hinit : ∀ a' U, s.WarmedH U.vm → (Cond.initialized y.cls).before a' U = true) :
    vx_Back l R p e below s sargs y len W9 (PreOf R mc ms Pc) (PostOf Qc mc ms free) (vx_Post XC mc ms free) := by
  intro m meth c A g ig mk a X hg hsize hdg hW hn hp
  have h1 : (headSpec ws rm).pre.before a A.U = true := atoms_intro fun w hw => hws w hw _ _ X.warmed
  have h2 : (Cond.code y bytes maxL ret).before a A.U = true := hws _ hcode _ _ X.warmed
  have h3 : (Cond.initialized y.cls).before a A.U = true := hinit _ _ X.warmed
  have h4 : A.cells + (headSpec ws rm).room.cells ≤ R.cells := by rw [show (headSpec ws rm).room.cells = mc from hrc]; exact hp.1
  have h5 : A.slots + (headSpec ws rm).room.slots ≤ R.slots := by rw [show (headSpec ws rm).room.slots = ms from hrs]; exact hp.2.1
  have hPc : Pc a (A.U.calling g mk a) := hblind _ _ _ _ hp.2.2
  obtain ⟨U, Ls, c0, s0⟩ := A
  dsimp only [Pt.U, Pt.locs, Pt.cells, Pt.slots] at h1 h2 h3 h4 h5 X hn hPc ⊢
  obtain ⟨methY, cY, hmY, hcY, -, hlY, -, -, -, -⟩ := Cond.code_spec hn h2
  obtain ⟨kY, hkY, -⟩ := className_of_methodNamed hn
  have hinitY : kY.init = .initialized := Cond.initialized_spec (findClass_of_methodNamed hn) hkY h3
  have h : At U g.method c below := by rw [hg]; exact X.here
  have hlocals9 : W9 + (maxL + 11) + (headSpec ws rm).room.locals ≤ R.locals := hlocals
  have happ : (headSpec ws rm).appliesLoose y e.platform (U.calling g mk a) = true :=
    Spec.appliesLoose_calling (g := g) h hdg hn hkY hinitY
      (X.room_calling (g := g) (R' := (headSpec ws rm).room) hsize hmY hcY hframes (by rw [hlY]; omega) h4 h5) h1
  obtain ⟨mid, hmid⟩ := h.above
  have hfr : (U.setTop g).frames = (.java g :: mid) ++ below := by rw [State.frames_setTop' g h.top, hmid]; rfl
  obtain ⟨o, s₂, hsteps, -, hend, hq⟩ := Steps.callFree hM p X.admits X.cas X.clock (acts := []) hfr happ hPc trivial
  have hq' : vx_Q Qc XC mc ms free a (U.calling g mk a) o s₂ := hq
  rw [State.frames_setTop' g h.top] at hend
  obtain ⟨g₀, hg0⟩ := Option.isSome_iff_exists.mp h.top
  obtain ⟨r, hr⟩ := State.topJava?_eq_some.mp hg0
  have hr' : (({ U with heap := s₂.heap, slotsUsed := s₂.slotsUsed } : State).setVm s₂.vm).frames = .java g₀ :: r := hr
  rcases hq' with ⟨hqc, L, hfe, hL⟩ | ⟨q, rfl, E, ce, L, hx, hce, hcv, hcl, hW₂, hsm, hL⟩
  · obtain ⟨⟨v, rfl⟩, hW₂, e2, q2, q3, q4, q5, q6⟩ := id hfe
    have e3 : s₂ = ({ (U.calling g mk a).setFrames s₂.frames with heap := s₂.heap, slotsUsed := s₂.slotsUsed } : State).setVm s₂.vm := by
      have : s₂ = ({ s₂ with vm := (U.calling g mk a).vm } : State).setVm s₂.vm := rfl
      rw [e2] at this
      exact this
    obtain ⟨c₂, i₂, len₂, hc₂, hd₂, hf₂⟩ := hend
    have hW' : U.WarmedH s₂.vm := hW₂
    have hcc : c₂ = c := by
      have h1 : s₂.code? g.method = U.code? g.method := by
        rw [State.code?_eq, State.code?_eq, hW'.alike.method?]
      exact Option.some.inj (hc₂.symm.trans (h1.trans h.code))
    subst hcc
    have hlen : len₂ = len := by rw [hdg] at hd₂; cases hd₂; rfl
    subst hlen
    have hs₂ : s₂ = (({ U with heap := s₂.heap, slotsUsed := s₂.slotsUsed } : State).setVm s₂.vm).setTop { g with pc := g.pc + len₂, stack := v.toList ++ g.stack } := by
      refine e3.trans ?_
      rw [hf₂, State.calling_eq h.top, State.setFrames_setFrames, State.setTop_of_frames _ hr', hr]
      rfl
    have hsame : U.sameButNew ({ U with heap := s₂.heap, slotsUsed := s₂.slotsUsed } : State) L mc ms := by
      refine ⟨?_, q2, q3, q4, q5, q6⟩
      obtain ⟨t, ht, -⟩ := State.frames_cons hr
      show ({ U with heap := s₂.heap, slotsUsed := s₂.slotsUsed } : State) = { U.setFrames U.frames with heap := s₂.heap, slotsUsed := s₂.slotsUsed }
      rw [State.setFrames_self ht]
    subst hg
    refine Or.inl ⟨v, ⟨(({ U with heap := s₂.heap, slotsUsed := s₂.slotsUsed } : State).setVm s₂.vm), Ls ++ L, c0 + mc, s0 + ms⟩,
      ⟨X.admits, X.cas, X.clock, X.frames, X.room, X.hears, X.method, X.code, (X.here.setHeapUsed s₂.heap s₂.slotsUsed).setVm hW'.alike, X.tail, State.WarmedH.trans X.warmed hW', X.limits, X.bytes, X.same.trans (hsame.setVm s.vm)⟩,
      ⟨g, mk, s₂, L, rfl, rfl, hqc, rfl, hL, rfl, rfl⟩, ?_⟩
    show Steps p.tables e below _ ((({ U with heap := s₂.heap, slotsUsed := s₂.slotsUsed } : State).setVm s₂.vm).setTop { g with pc := g.pc + len₂, stack := v.toList ++ g.stack })
    rw [← hs₂]
    exact hsteps
  · obtain ⟨e2, q2, q3, q4, q5, q6⟩ := id hsm
    have e3 : s₂ = ({ (U.calling g mk a).setFrames s₂.frames with heap := s₂.heap, slotsUsed := s₂.slotsUsed } : State).setVm s₂.vm := by
      have : s₂ = ({ s₂ with vm := (U.calling g mk a).vm } : State).setVm s₂.vm := rfl
      rw [e2] at this
      exact this
    have hf₂ : s₂.frames = .throwing q :: .java g :: U.frames.tail := hend
    have hW' : U.WarmedH s₂.vm := hW₂
    have hs₂ : s₂ = ((({ U with heap := s₂.heap, slotsUsed := s₂.slotsUsed } : State).setVm s₂.vm).setTop g).pushFrame (.throwing q) := by
      refine e3.trans ?_
      rw [hf₂, State.calling_eq h.top, State.setFrames_setFrames, State.pushFrame, State.frames_setTop _ hr', State.setTop_of_frames _ hr', State.setFrames_setFrames, hr]
      rfl
    have hsame : U.sameButNew ({ U with heap := s₂.heap, slotsUsed := s₂.slotsUsed } : State) L mc ms := by
      refine ⟨?_, q2, q3, q4, q5, q6⟩
      obtain ⟨t, ht, -⟩ := State.frames_cons hr
      show ({ U with heap := s₂.heap, slotsUsed := s₂.slotsUsed } : State) = { U.setFrames U.frames with heap := s₂.heap, slotsUsed := s₂.slotsUsed }
      rw [State.setFrames_self ht]
    subst hg
    refine Or.inr ⟨q, ⟨(({ U with heap := s₂.heap, slotsUsed := s₂.slotsUsed } : State).setVm s₂.vm), Ls ++ L, c0 + mc, s0 + ms⟩,
      ⟨X.admits, X.cas, X.clock, X.frames, X.room, X.hears, X.method, X.code, (X.here.setHeapUsed s₂.heap s₂.slotsUsed).setVm hW'.alike, X.tail, State.WarmedH.trans X.warmed hW', X.limits, X.bytes, X.same.trans (hsame.setVm s.vm)⟩,
      ⟨g, mk, s₂, L, E, ce, rfl, rfl, hx, hce, hcv, hcl, rfl, hL, rfl, rfl⟩, ?_⟩
    show Steps p.tables e below _ (((({ U with heap := s₂.heap, slotsUsed := s₂.slotsUsed } : State).setVm s₂.vm).setTop g).pushFrame (.throwing q))
    rw [← hs₂]
    exact hsteps
end Payer
section Calls
variable {p : Program} {l : Launch} {e : Env} {R : Room} {s : State} {m : MethodId} {args : Array Value} {below : List Frame} {meth : Method} {c : Code} {T : State} {locs : List Loc} {cells slots : Nat}
theorem vx_callV (X : Stand p l e R s m args below meth c T locs cells slots) (hexec : p.tables.exec = Jvm.exec) {own C : String} {index : Nat} {y : MethodName} {bytes : ByteArray} {maxL : Nat} {ret : Option FieldType}
    (hown : s.vm.findClass own = some m.cls) (hlink : (Cond.methodLink own index y).before args s = true) (hinst : (Cond.instanceMethod y).before args s = true) (hsel : (Cond.selects C y y).before args s = true)
    (hcode : (Cond.code y bytes maxL ret).before args s = true) (hy : y.cls ≠ "java/lang/invoke/MethodHandle" ∧ y.cls ≠ "java/lang/invoke/VarHandle")
    {W9 : Nat} {Pre : Pt → Array Value → Prop} {Post : Pt → Array Value → Option Value → Pt → Prop} {PostX : Pt → Array Value → Addr → Pt → Prop} (hK : vx_Back l R p e below s args y 3 W9 Pre Post PostX)
    {b : Addr} {cellB : Cell} (hcell : T.heap[b]? = some cellB) (hobj : cellB.vm.isStatics = false) (hcls : s.vm.findClass C = some cellB.cls)
    {g : JFrame} (hg : g.method = m) (hsize : g.locals.size = c.maxLocals) {argsL rest : List Value} (hlen : ∀ sig, parseMethodDescriptor y.desc = some sig → argsL.length = sig.parameters.length)
    (hstack : g.stack = argsL.reverse ++ .ref b :: rest) (hW : 2 * g.monitorRoom + (rest.map fun v => v.category).sum ≤ W9) (hdg : decode c.code g.pc = .ok (.invokevirtual index, 3))
    (hpre : ∀ vm₁, s.WarmedH vm₁ → Pre ⟨T.setVm vm₁, locs, cells, slots⟩ (Value.ref b :: argsL).toArray) :
    (∃ (v : Option Value) (vm₁ : Vm) (B : Pt), s.WarmedH vm₁ ∧ Stand p l e R s m args below meth c B.U B.locs B.cells B.slots ∧ Post ⟨T.setVm vm₁, locs, cells, slots⟩ (Value.ref b :: argsL).toArray v B ∧
      ∀ target, Steps p.tables e below (B.U.setTop { g with pc := g.pc + 3, stack := v.toList ++ rest }) target → Steps p.tables e below (T.setTop g) target) ∨
    (∃ (q : Addr) (vm₁ : Vm) (B : Pt), s.WarmedH vm₁ ∧ Stand p l e R s m args below meth c B.U B.locs B.cells B.slots ∧ PostX ⟨T.setVm vm₁, locs, cells, slots⟩ (Value.ref b :: argsL).toArray q B ∧
      Steps p.tables e below (T.setTop g) ((B.U.setTop { g with stack := rest }).pushFrame (.throwing q))) := by
  obtain ⟨mk, methM, hnamed, hmethM, hstM, habM⟩ := Cond.instanceMethod_spec hinst
  obtain ⟨methM', cM, hmethM', -, -, -, -, -, -, hsigM⟩ := Cond.code_spec hnamed hcode
  cases hmethM.symm.trans hmethM'
  obtain ⟨c2, r2, m2, q1, q2, q3, q4, kP, hkP, hkPi⟩ := Cond.selects_spec hsel
  cases hcls.symm.trans q1
  cases (State.methodFound?_of_named hnamed hy).symm.trans q2
  cases hnamed.symm.trans q3
  have hselP : selectMethod e.platform s.vm cellB.cls mk = .method mk := by rw [Launch.admits_selectMethod X.admits]; exact q4
  obtain ⟨vm₁, X₁, hstep₁⟩ := X.invokevirtual hexec hown hlink hnamed hmethM hstM hkP hkPi hy (a := b) (cell := cellB) hcell
    (fun z h => by rw [h] at hobj; cases hobj) hselP hmethM habM hkP hkPi (g := g) hg (argsL := argsL) (rest := rest) (hlen _ hsigM) hstack hdg
  rcases hK m meth c ⟨T.setVm vm₁, locs, cells, slots⟩ { g with stack := rest } (.invokevirtual index) mk (Value.ref b :: argsL).toArray X₁ hg hsize hdg hW (X₁.named hnamed) (hpre vm₁ X₁.warmed) with ⟨v, B, X', hpost, hsteps⟩ | ⟨q, B, X', hpost, hsteps⟩
  · exact Or.inl ⟨v, vm₁, B, X₁.warmed, X', hpost, fun target h => hstep₁ _ fun acts => by rw [doInvoke_state]; exact hsteps.trans h⟩
  · exact Or.inr ⟨q, vm₁, B, X₁.warmed, X', hpost, hstep₁ _ fun acts => by rw [doInvoke_state]; exact hsteps⟩
theorem vx_callS (X : Stand p l e R s m args below meth c T locs cells slots) (hexec : p.tables.exec = Jvm.exec) {own : String} {index : Nat} {y : MethodName} {bytes : ByteArray} {maxL : Nat} {ret : Option FieldType}
    (hown : s.vm.findClass own = some m.cls) (hlink : (Cond.methodLink own index y).before args s = true) (hstat : (Cond.static y).before args s = true) (hinit : (Cond.initialized y.cls).before args s = true)
    (hcode : (Cond.code y bytes maxL ret).before args s = true) (hy : y.cls ≠ "java/lang/invoke/MethodHandle" ∧ y.cls ≠ "java/lang/invoke/VarHandle")
    {W9 : Nat} {Pre : Pt → Array Value → Prop} {Post : Pt → Array Value → Option Value → Pt → Prop} {PostX : Pt → Array Value → Addr → Pt → Prop} (hK : vx_Back l R p e below s args y 3 W9 Pre Post PostX)
    {g : JFrame} (hg : g.method = m) (hsize : g.locals.size = c.maxLocals) {argsL rest : List Value} (hlen : ∀ sig, parseMethodDescriptor y.desc = some sig → argsL.length = sig.parameters.length)
    (hstack : g.stack = argsL.reverse ++ rest) (hW : 2 * g.monitorRoom + (rest.map fun v => v.category).sum ≤ W9) (hdg : decode c.code g.pc = .ok (.invokestatic index, 3))
    (hpre : ∀ vm₁, s.WarmedH vm₁ → Pre ⟨T.setVm vm₁, locs, cells, slots⟩ argsL.toArray) :
    (∃ (v : Option Value) (vm₁ : Vm) (B : Pt), s.WarmedH vm₁ ∧ Stand p l e R s m args below meth c B.U B.locs B.cells B.slots ∧ Post ⟨T.setVm vm₁, locs, cells, slots⟩ argsL.toArray v B ∧
      ∀ target, Steps p.tables e below (B.U.setTop { g with pc := g.pc + 3, stack := v.toList ++ rest }) target → Steps p.tables e below (T.setTop g) target) ∨
    (∃ (q : Addr) (vm₁ : Vm) (B : Pt), s.WarmedH vm₁ ∧ Stand p l e R s m args below meth c B.U B.locs B.cells B.slots ∧ PostX ⟨T.setVm vm₁, locs, cells, slots⟩ argsL.toArray q B ∧
      Steps p.tables e below (T.setTop g) ((B.U.setTop { g with stack := rest }).pushFrame (.throwing q))) := by
  obtain ⟨mk, hnamed⟩ := Cond.code_named hcode
  obtain ⟨methM, cM, hmethM, -, -, -, -, -, -, hsigM⟩ := Cond.code_spec hnamed hcode
  have hstatic : methM.isStatic = true := Cond.static_spec hnamed hmethM hstat
  obtain ⟨kP, hkP, -⟩ := className_of_methodNamed hnamed
  have hinitP : kP.init = .initialized := Cond.initialized_spec (findClass_of_methodNamed hnamed) hkP hinit
  obtain ⟨vm₁, X₁, hstep₁⟩ := X.invokestatic hexec hown hlink hnamed hmethM hstatic hkP hinitP hy (g := g) hg (argsL := argsL) (rest := rest) (hlen _ hsigM) hstack hdg
  rcases hK m meth c ⟨T.setVm vm₁, locs, cells, slots⟩ { g with stack := rest } (.invokestatic index) mk argsL.toArray X₁ hg hsize hdg hW (X₁.named hnamed) (hpre vm₁ X₁.warmed) with ⟨v, B, X', hpost, hsteps⟩ | ⟨q, B, X', hpost, hsteps⟩
  · exact Or.inl ⟨v, vm₁, B, X₁.warmed, X', hpost, fun target h => hstep₁ _ fun acts => by rw [doInvoke_state]; exact hsteps.trans h⟩
  · exact Or.inr ⟨q, vm₁, B, X₁.warmed, X', hpost, hstep₁ _ fun acts => by rw [doInvoke_state]; exact hsteps⟩
end Calls
theorem vx_cls {s : State} {T : State} {vm₁ : Vm} {E : String} {k : ClassId} (hW : s.WarmedH vm₁) (h : (T.setVm vm₁).vm.findClass E = some k) : s.vm.findClass E = some k := by
  have h1 : vm₁.findClass E = some k := h
  rw [hW.alike.findClass] at h1
  exact h1
/-- the method's frame g, with q thrown over it -/
def vx_W (p : Program) (l : Launch) (e : Env) (R : Room) (s : State) (m : MethodId) (args : Array Value) (below : List Frame) (meth : Method) (c : Code) (H : Heap) (locs : List Loc) (cells slots : Nat) (Q : State → Prop) (g : JFrame) (q : Addr) : Prop :=
  ∀ T : State, T.heap = H → Stand p l e R s m args below meth c T locs cells slots → ∃ t, Steps p.tables e below ((T.setTop g).pushFrame (.throwing q)) t ∧ Q t
def vx_Run (p : Program) (l : Launch) (e : Env) (R : Room) (s : State) (m : MethodId) (args : Array Value) (below : List Frame) (meth : Method) (c : Code) (H : Heap) (locs : List Loc) (cells slots mc ms : Nat) (g : JFrame) (rest : List Value) (Qa : State → Outcome → State → Prop) (XC : String → State → State → Prop) (free : Addr → Prop) : Prop :=
  ∀ T : State, T.heap = H → Stand p l e R s m args below meth c T locs cells slots →
    (∃ (v : Option Value) (st₀ t T' : State) (L : List Loc), st₀.heap = H ∧ Stand p l e R s m args below meth c T' (locs ++ L) (cells + mc) (slots + ms) ∧ (∀ q ∈ L, free q.base) ∧ T'.heap = t.heap ∧ T'.vm = t.vm ∧ Qa st₀ (.returned v) t ∧
      Goes p e below T g T' { g with pc := g.pc + 3, stack := v.toList ++ rest }) ∨
    (∃ (q : Addr) (st₀ t T' : State) (L : List Loc) (E : String) (ce : Cell), st₀.heap = H ∧ Stand p l e R s m args below meth c T' (locs ++ L) (cells + mc) (slots + ms) ∧ (∀ z ∈ L, free z.base) ∧ T'.heap = t.heap ∧ T'.vm = t.vm ∧ XC E st₀ t ∧ t.heap[q]? = some ce ∧ ce.vm = .none ∧ s.vm.findClass E = some ce.cls ∧
      Steps p.tables e below (T.setTop g) ((T'.setTop { g with stack := rest }).pushFrame (.throwing q)))
def vx_X {S : Type} (px : S → Prop) (B : String → S → State → Prop) (A : Nat → Prop) : String → State → State → Prop := fun E st t => ∃ u : S, px u ∧ B E u t ∧ va_F A st t
section Runs
variable {p : Program} {l : Launch} {e : Env} {R : Room} {s : State} {m : MethodId} {args : Array Value} {below : List Frame} {meth : Method} {c : Code} {H : Heap} {locs : List Loc} {cells slots : Nat}
variable {y : MethodName} {bytes cc : ByteArray} {maxL nL mc ms n index : Nat} {ret : Option FieldType} {ws : List Cond} {rm : Room} {Pc : Array Value → State → Prop} {Qc : Array Value → State → Outcome → State → Prop} {XC : String → State → State → Prop} {free : Addr → Prop} {Ts : List Cond} {own C : String} {b : Addr} {As rest : List Value} {g : JFrame}
theorem vx_callBack (cb : CallB R s args own index y bytes maxL ret ws rm mc ms n) (hM : vx_Met l y ws rm Pc Qc XC mc ms free) (hbl : FrameBlind Pc) : vx_Back l R p e below s args y 3 8 (PreOf R mc ms Pc) (PostOf Qc mc ms free) (vx_Post XC mc ms free) := by
  obtain ⟨hrc, hrs, hfr, hlo, hws, hcw, -, hini, -⟩ := cb
  exact vx_back (bytes := bytes) (maxL := maxL) (ret := ret) hM hbl hrc hrs hfr hlo hws hcw (fun a' U hW => word_at hW (Or.inl (by first | rfl | simp [Cond.onTables, Cond.keeps, Cond.steady])) hini)
theorem vx_runV (S : CallFix p m c cc nL s args Ts own) (hM : vx_Met l y ws rm Pc Qc XC mc ms free) (cw : CallW R s args own C index y bytes maxL ret ws rm mc ms n) (hp : PreV s H C b Pc As)
    (hg : g.method = m) (hn : As.length = n) (hsize : g.locals.size = nL) (hstack : g.stack = As.reverse ++ .ref b :: rest) (hW : 2 * g.monitorRoom + (rest.map fun v => v.category).sum ≤ 8) (hdg : decode cc g.pc = .ok (.invokevirtual index, 3)) (hf : cells + mc ≤ R.cells ∧ slots + ms ≤ R.slots) :
    vx_Run p l e R s m args below meth c H locs cells slots mc ms g rest (Qc (Value.ref b :: As).toArray) XC free := by
  have hK : vx_Back l R p e below s args y 3 8 (PreOf R mc ms Pc) (PostOf Qc mc ms free) (vx_Post XC mc ms free) := vx_callBack cw.1 hM hp.1
  obtain ⟨⟨-, -, -, -, -, -, hcode, -, hy, hlen, hl⟩, hin, hse⟩ := cw
  obtain ⟨hx, hb, hml, ho, -⟩ := S
  obtain ⟨-, ⟨cellB, hcB, hoB, hclB⟩, hPc⟩ := hp
  intro T hT X
  rcases vx_callV X hx (C := C) (bytes := bytes) (maxL := maxL) (ret := ret) ho hl hin hse hcode hy hK (by rw [hT]; exact hcB) hoB hclB hg (hsize.trans hml.symm) (argsL := As) (rest := rest) (fun sig h => hn.trans (hlen sig h)) hstack hW (by rw [hb]; exact hdg)
    (fun vm₁ hW₁ => ⟨hf.1, hf.2, hPc (T.setVm vm₁) hT hW₁⟩) with ⟨v, vm₁, ⟨U', l2, c2, s2⟩, hW₁, X', ⟨g', mk, t, L, e1, e2, hq, h1, hL, h2, h3⟩, st⟩ | ⟨q, vm₁, ⟨U', l2, c2, s2⟩, hW₁, X', ⟨g', mk, t, L, E, ce, e1, e2, hq, hce, hcv, hcl, h1, hL, h2, h3⟩, st⟩
  · dsimp only [Pt.U, Pt.locs, Pt.cells, Pt.slots] at X' e1 e2 h1 h2 h3 st
    subst h1; subst h2; subst h3
    exact Or.inl ⟨v, (T.setVm vm₁).calling g' mk (Value.ref b :: As).toArray, t, U', L, hT, X', hL, e1, e2, hq, st⟩
  · dsimp only [Pt.U, Pt.locs, Pt.cells, Pt.slots] at X' e1 e2 h1 h2 h3 st hcl
    subst h1; subst h2; subst h3
    exact Or.inr ⟨q, (T.setVm vm₁).calling g' mk (Value.ref b :: As).toArray, t, U', L, E, ce, hT, X', hL, e1, e2, hq, hce, hcv, vx_cls hW₁ hcl, st⟩
end Runs
section Rows
variable {p : Program} {l : Launch} {e : Env} {R : Room} {s : State} {m : MethodId} {args : Array Value} {below : List Frame} {meth : Method} {c : Code} {H : Heap} {locs : List Loc} {cells slots : Nat} {Q : State → Prop}
variable {mc ms : Nat} {free : Addr → Prop} {A0 A1 : Nat → Prop} {H0 : Heap} {a : Array Value} {pc : Nat} {ls : Array Slot} {st0 rest : List Value}
theorem vx_keep {st₀ t T' : State} {L : List Loc} (h0 : st₀.heap = H) (e1 : T'.heap = t.heap) (hS : va_S A0 H0 H locs) (hA : ∀ q, q < H.size → A1 q → A0 q) (hf : ∀ q, free q → A0 q) (hL : ∀ q ∈ L, free q.base) (hF : va_F A1 st₀ t) :
    H.size ≤ T'.heap.size ∧ (∀ q : Nat, q < H.size → ¬ A1 q → T'.heap[q]? = H[q]?) ∧ va_S A0 H0 T'.heap (locs ++ L) := by
  obtain ⟨hz, hk⟩ := hF
  rw [h0] at hz hk
  exact ⟨by rw [e1]; exact hz, fun q h1 h2 => by rw [e1]; exact hk q h1 h2,
    ⟨Nat.le_trans hS.1 (by rw [e1]; exact hz), fun q h1 h2 => by rw [e1, hk q (Nat.lt_of_lt_of_le h1 hS.1) (fun z => h2 (hA q (Nat.lt_of_lt_of_le h1 hS.1) z))]; exact hS.2.1 q h1 h2, fun q hq => by
      rcases List.mem_append.mp hq with h | h
      · exact hS.2.2 q h
      · exact hf _ (hL q h)⟩⟩
theorem vx_calli {S SX : Type} {post : Int32 → S → Prop} {px : SX → Prop} {B : S → State → Prop} {BX : String → SX → State → Prop} {AX : Nat → Prop} (hr : vx_Run p l e R s m args below meth c H locs cells slots mc ms (F0 m pc ls st0) rest (va_Qi post B A1 a) (vx_X px BX AX) free) (hS : va_S A0 H0 H locs) (hA : ∀ q, q < H.size → A1 q → A0 q) (hf : ∀ q, free q → A0 q) (hAX : ∀ q, q < H.size → AX q → A0 q)
    (kx : ∀ (E : String) (ce : Cell) (q9 : Addr) (u : SX) (t : State) (H1 : Heap) (locs1 : List Loc), t.heap = H1 → s.vm.Alike t.vm → px u → BX E u t → H.size ≤ H1.size → (∀ q : Nat, q < H.size → ¬ AX q → H1[q]? = H[q]?) → va_S A0 H0 H1 locs1 → H1[q9]? = some ce → ce.vm = .none → s.vm.findClass E = some ce.cls → vx_W p l e R s m args below meth c H1 locs1 (cells + mc) (slots + ms) Q (F0 m pc ls rest) q9)
    (kk : ∀ (r : Int32) (u : S) (t : State) (H1 : Heap) (locs1 : List Loc), t.heap = H1 → s.vm.Alike t.vm → post r u → B u t → H.size ≤ H1.size → (∀ q : Nat, q < H.size → ¬ A1 q → H1[q]? = H[q]?) → va_S A0 H0 H1 locs1 → W p l e R s m args below meth c H1 locs1 (cells + mc) (slots + ms) Q (F0 m (pc + 3) ls (.int r :: rest))) : W p l e R s m args below meth c H locs cells slots Q (F0 m pc ls st0) := by
  intro T hT X
  rcases hr T hT X with ⟨v, st₀, t, T', L, h0, X', hL, e1, e2, ⟨⟨r, u, hv, hp, hb⟩, hF⟩, st⟩ | ⟨q, st₀, t, T', L, E, ce, h0, X', hL, e1, e2, ⟨u, hp, hb, hF⟩, hce, hcv, hcl, st⟩
  · cases hv
    obtain ⟨k1, k2, k3⟩ := vx_keep h0 e1 hS hA hf hL hF
    obtain ⟨t2, a1, b1⟩ := kk r u t T'.heap (locs ++ L) e1.symm (by rw [← e2]; exact X'.warmed.alike) hp hb k1 k2 k3 T' rfl X'
    exact ⟨t2, st t2 a1, b1⟩
  · obtain ⟨k1, k2, k3⟩ := vx_keep h0 e1 hS hAX hf hL hF
    obtain ⟨t2, a1, b1⟩ := kx E ce q u t T'.heap (locs ++ L) e1.symm (by rw [← e2]; exact X'.warmed.alike) hp hb k1 k2 k3 (by rw [e1]; exact hce) hcv hcl T' rfl X'
    exact ⟨t2, st.trans a1, b1⟩
/-- caught by the row x of this method's table; the rows ahead don't take it -/
theorem vx_catch {own name : String} {E : String} {ce : Cell} {q : Addr} (hown : s.vm.findClass own = some m.cls) (pre : List ExceptionTableEntry) (x : ExceptionTableEntry) (suf : List ExceptionTableEntry) (hsplit : c.exceptionTable.toList = pre ++ x :: suf)
    (hpass : ∀ z ∈ pre, covers z pc = false ∨ (z.catchType ≠ 0 ∧ ∃ nm : String, (Cond.classLink own z.catchType nm).before args s = true ∧ va_Nc E nm s)) (hx : covers x pc = true) (h0 : x.catchType ≠ 0)
    (hlink : (Cond.classLink own x.catchType name).before args s = true) (hcast : (Cond.castable E name).before args s = true) (hcell : H[q]? = some ce) (hv : ce.vm = .none) (hcl : s.vm.findClass E = some ce.cls)
    (kk : W p l e R s m args below meth c H locs cells slots Q (F0 m x.handlerPc ls [.ref q])) : vx_W p l e R s m args below meth c H locs cells slots Q (F0 m pc ls rest) q := by
  intro T hT X
  have hpl : e.platform.magicAccessors = ({} : Platform).magicAccessors := by rw [X.admits.platform]
  obtain ⟨c3, c4, hc3, hc4, hasg⟩ := Cond.castable_spec hcast
  cases Option.some.inj (hc3.symm.trans hcl)
  obtain ⟨c5, hc5, hcl5⟩ := Cond.classLink_spec hown hlink e.platform hpl
  cases Option.some.inj (hc4.symm.trans hc5)
  obtain ⟨vm', X', st⟩ := X.thenCaughtThrough q (g := F0 m pc ls rest) rfl (Steps.refl _) (by rw [hT]; exact hcell) (by rw [hv]; rfl) (by obtain ⟨k9, h9, -⟩ := Vm.findClass_spec hcl; exact ⟨k9, h9⟩) pre x suf hsplit
    (fun z hz => by
      rcases hpass z hz with h | ⟨hz0, nm, hl1, hn1⟩
      · exact Or.inl h
      · obtain ⟨c6, hc6, hcl6⟩ := Cond.classLink_spec hown hl1 e.platform hpl
        obtain ⟨a8, b8, h1, h2, h3⟩ := hn1
        cases Option.some.inj (h1.symm.trans hcl)
        cases Option.some.inj (h2.symm.trans hc6)
        exact Or.inr ⟨hz0, _, hcl6, h3⟩) hx (Or.inr ⟨h0, c4, hcl5, hasg⟩)
  obtain ⟨t, a1, b1⟩ := kk (T.setVm vm') hT X'
  exact ⟨t, st.trans a1, b1⟩
end Rows
section Ends
variable {p : Program} {l : Launch} {e : Env} {R : Room} {s : State} {m : MethodId} {args : Array Value} {below : List Frame} {meth : Method} {c : Code} {H : Heap} {locs : List Loc} {cells slots : Nat} {Q : State → Prop}
variable {mc ms : Nat} {free : Addr → Prop} {A0 A1 : Nat → Prop} {H0 : Heap} {a : Array Value} {ls : Array Slot} {st0 rest : List Value}
variable {Qc : Array Value → State → Outcome → State → Prop} {XC : String → State → State → Prop}
/-- what a body that may throw owes at its end -/
def vx_MQ (below : List Frame) (Qc : Array Value → State → Outcome → State → Prop) (XC : String → State → State → Prop) (a : Array Value) (s : State) (mc ms : Nat) (free : Addr → Prop) : State → Prop := fun t =>
  ∃ o, t.status = .running ∧ Ended t below o ∧ vx_Q Qc XC mc ms free a s o t
theorem vx_ret {g : JFrame} {mc ms : Nat} (k : W p l e R s m args below meth c H locs cells slots (MQ below Qc args s mc ms free) g) : W p l e R s m args below meth c H locs cells slots (vx_MQ below Qc XC args s mc ms free) g := by
  intro T hT X
  obtain ⟨t, a1, o, b1, b2, b3, b4⟩ := k T hT X
  exact ⟨t, a1, o, b1, b2, Or.inl ⟨b3, b4⟩⟩
theorem vx_frame {U : State} {k n : Nat} (h : s.sameButNew ({ U with vm := s.vm } : State) locs k n) : s.heap.size ≤ U.heap.size ∧ ∀ q : Nat, q < s.heap.size → (∀ z ∈ locs, z.base ≠ q) → U.heap[q]? = s.heap[q]? := by
  obtain ⟨-, h2, -, -, -, h6⟩ := h
  refine ⟨h2, fun q hq hz => ?_⟩
  obtain ⟨c9, e1, e2, e3, e4⟩ := h6 q _ (Array.getElem?_eq_getElem hq)
  have hs : c9.slots = (s.heap[q]).slots := Array.ext_getElem? fun i => e4 i fun hm => hz _ hm rfl
  have h9 : c9 = s.heap[q] := by
    rw [hs] at e2
    exact e2
  have e5 : U.heap[q]? = some c9 := e1
  rw [e5, h9, Array.getElem?_eq_getElem hq]
/-- the words of a throw but the four that speak of the heap -/
def vx_no (w : Cond) : Bool := decide (w ≠ .isRef (.static Bundle.tN "UNASSIGNED_STACK" Bundle.steD)) && decide (w ≠ .isRef (.static Bundle.tN "SUPPRESSED_SENTINEL" Bundle.listD)) && decide (w ≠ .laysStatic Bundle.tN "UNASSIGNED_STACK" Bundle.steD) && decide (w ≠ .laysStatic Bundle.tN "SUPPRESSED_SENTINEL" Bundle.listD)
def vx_at0 (own : String) (ic : Nat) (X : String) (names : List String) : List Cond := (Bundle.ownAtoms0 own ic X names).filter vx_no
def vx_atS (own : String) (ic : Nat) (X : String) (names : List String) : List Cond := (Bundle.ownAtoms own ic X names).filter vx_no
/-- a word that the tables alone decide, or a good one -/
def vx_ot (w : Cond) : Bool := w.onTables || goodWord w
theorem vx_ot_at {args a' : Array Value} {s U : State} {w : Cond} (hW : s.WarmedH U.vm) (hvm : s.vm = U.vm) (hg : vx_ot w = true) (h : w.before args s = true) : w.before a' U = true := by
  simp only [vx_ot, Bool.or_eq_true] at hg
  rcases hg with hg | hg
  · exact va_tabs hg hvm h
  · exact word_at hW (good_of_word hg) h
/-- a list's words: the good ones out of the method's own list, the others by premises of their own -/
theorem vx_hat {args : Array Value} {s : State} {L B : List Cond} (h1 : ∀ w ∈ L.filter goodWord, w.before args s = true) (h2 : ∀ w ∈ L.filter (fun w => !goodWord w), w ∈ B) (h3 : ∀ w ∈ B, w.before args s = true) : ∀ w ∈ L, w.before args s = true := by
  intro w hw
  by_cases g : goodWord w = true
  · exact h1 w (List.mem_filter.mpr ⟨hw, g⟩)
  · refine h3 w (h2 w (List.mem_filter.mpr ⟨hw, ?_⟩))
    show (!goodWord w) = true
    cases hgw : goodWord w
    · rfl
    · exact absurd hgw g
theorem vx_own {args : Array Value} {s : State} {L : List Cond} (h1 : ∀ w ∈ L.filter vx_no, w.before args s = true)
    (hU : (Cond.isRef (.static Bundle.tN "UNASSIGNED_STACK" Bundle.steD)).before args s = true) (hN : (Cond.isRef (.static Bundle.tN "SUPPRESSED_SENTINEL" Bundle.listD)).before args s = true)
    (lU : (Cond.laysStatic Bundle.tN "UNASSIGNED_STACK" Bundle.steD).before args s = true) (lN : (Cond.laysStatic Bundle.tN "SUPPRESSED_SENTINEL" Bundle.listD).before args s = true) : ∀ w ∈ L, w.before args s = true := by
  intro w hw
  by_cases e1 : w = .isRef (.static Bundle.tN "UNASSIGNED_STACK" Bundle.steD)
  · rw [e1]; exact hU
  · by_cases e2 : w = .isRef (.static Bundle.tN "SUPPRESSED_SENTINEL" Bundle.listD)
    · rw [e2]; exact hN
    · by_cases e3 : w = .laysStatic Bundle.tN "UNASSIGNED_STACK" Bundle.steD
      · rw [e3]; exact lU
      · by_cases e4 : w = .laysStatic Bundle.tN "SUPPRESSED_SENTINEL" Bundle.listD
        · rw [e4]; exact lN
        · exact h1 w (List.mem_filter.mpr ⟨hw, by unfold vx_no; rw [decide_eq_true e1, decide_eq_true e2, decide_eq_true e3, decide_eq_true e4]; rfl⟩)
/-- where a static field lies, its class's statics cell in H -/
def vx_L (C n d : String) (A : Nat → Prop) (U : State) (H : Heap) : Prop := ∃ (c : ClassId) (k : Class) (i : Nat) (f : Field) (a : Nat) (cell : Cell), U.vm.findClass C = some c ∧ U.fieldFound? C n d = some (c, k, i, f) ∧ f.isStatic = true ∧ k.statics = some a ∧ H[a]? = some cell ∧ cell.vm.isStatics = true ∧ cell.cls = c ∧ f.slot < cell.slots.size ∧ k.staticTypes[f.slot]? = some f.type ∧ ¬ A a
theorem vx_L.moved {C n d : String} {A : Nat → Prop} {u U : State} {H : Heap} (hvm : u.vm.Alike U.vm) (h : vx_L C n d A u H) : vx_L C n d A U H := by
  obtain ⟨c, k, i, f, a, cell, h1, h2, h3, h4, h5, h6, h7, h8, h9, h10⟩ := h
  obtain ⟨k', hi', he⟩ := State.fieldFound?_setVm hvm h2
  exact ⟨c, k', i, f, a, cell, by rw [hvm.findClass]; exact h1, hi', h3, by rw [he]; exact h4, h5, h6, h7, h8, by rw [he]; exact h9, h10⟩
theorem vx_L.kept {C n d : String} {A : Nat → Prop} {U : State} {H H1 : Heap} (h : vx_L C n d A U H) (hq : ∀ a : Nat, a < H.size → ¬ A a → H1[a]? = H[a]?) : vx_L C n d A U H1 := by
  obtain ⟨c, k, i, f, a, cell, h1, h2, h3, h4, h5, h6, h7, h8, h9, h10⟩ := h
  exact ⟨c, k, i, f, a, cell, h1, h2, h3, h4, by rw [hq a (Array.getElem?_eq_some_iff.mp h5).1 h10]; exact h5, h6, h7, h8, h9, h10⟩
theorem vx_L.narrow {C n d : String} {A B : Nat → Prop} {U : State} {H : Heap} (h : vx_L C n d A U H) (hAB : ∀ q, B q → A q) : vx_L C n d B U H := by
  obtain ⟨c, k, i, f, a, cell, h1, h2, h3, h4, h5, h6, h7, h8, h9, h10⟩ := h
  exact ⟨c, k, i, f, a, cell, h1, h2, h3, h4, h5, h6, h7, h8, h9, fun z => h10 (hAB _ z)⟩
theorem vx_L.word {C n d : String} {A : Nat → Prop} {s : State} {args : Array Value} (h : vx_L C n d A s s.heap) : (Cond.laysStatic C n d).before args s = true := by
  obtain ⟨c, k, i, f, a, cell, h1, h2, h3, h4, h5, h6, h7, h8, h9, -⟩ := h
  show (Cond.laysStatic C n d).holds args s none s [] = true
  exact Cond.laysStatic_of h1 h2 h3 h4 h5 h6 h7 h8 h9
/-- .. and what it holds: null or some reference -/
def vx_Zq (C n d : String) (A : Nat → Prop) (U : State) (H : Heap) : Prop := va_Zq C n d A U H ∧ vx_L C n d A U H
theorem vx_Zq.moved {C n d : String} {A : Nat → Prop} {u U : State} {H : Heap} (hvm : u.vm.Alike U.vm) (h : vx_Zq C n d A u H) : vx_Zq C n d A U H := ⟨va_Zq.moved hvm h.1, vx_L.moved hvm h.2⟩
theorem vx_Zq.kept {C n d : String} {A : Nat → Prop} {U : State} {H H1 : Heap} (h : vx_Zq C n d A U H) (hq : ∀ a : Nat, a < H.size → ¬ A a → H1[a]? = H[a]?) : vx_Zq C n d A U H1 := ⟨va_Zq.kept h.1 hq, vx_L.kept h.2 hq⟩
theorem vx_Zq.narrow {C n d : String} {A B : Nat → Prop} {U : State} {H : Heap} (h : vx_Zq C n d A U H) (hAB : ∀ q, B q → A q) : vx_Zq C n d B U H := ⟨va_Zq.narrow h.1 hAB, vx_L.narrow h.2 hAB⟩
theorem vx_Zqof {args : Array Value} {s : State} {C n d : String} {A : Nat → Prop} (hl : (Cond.laysStatic C n d).before args s = true) (hini : (Cond.initialized C).before args s = true) (h : (Cond.isRef (.static C n d)).before args s = true) (hA : ∀ a : Nat, a < s.heap.size → ¬ A a) : vx_Zq C n d A s s.heap := by
  refine ⟨va_Zqof hl hini h hA, ?_⟩
  obtain ⟨c, k, i, f, a, cell, h1, h2, h3, h4, h5, h6, h7, h8, h9⟩ := Cond.laysStatic_spec hl
  exact ⟨c, k, i, f, a, cell, h1, h2, h3, h4, h5, h6, h7, h8, h9, hA a (Array.getElem?_eq_some_iff.mp h5).1⟩
theorem vx_isRef {C n d : String} {v : Value} {A : Nat → Prop} {s : State} {args : Array Value} (h : va_Z C n d v A s s.heap) (hv : v.isRef = true) : (Cond.isRef (.static C n d)).before args s = true := by
  obtain ⟨cf, kf, fi, f, a, cell, h1, h2, h3, h4, h5, h6, h7, -⟩ := h
  have he : (Term.static C n d).eval args s none [] s = some v := by
    simp [Term.eval, State.fieldNamed?, h1, h2, h4, h5, h6, h7]
  simp only [Cond.before, Cond.holds, Cond.value, he]
  cases v <;> simp_all [Value.isRef]
theorem vx_isRefq {C n d : String} {A : Nat → Prop} {s : State} {args : Array Value} (h : va_Zq C n d A s s.heap) : (Cond.isRef (.static C n d)).before args s = true := by
  rcases h with h | ⟨t, h⟩
  · exact vx_isRef h rfl
  · exact vx_isRef h rfl
/-- the same frame, seen from here: as if the method were called anew in this heap -/
theorem vx_rebase {T : State} (X : Stand p l e R s m args below meth c T locs cells slots) {R' : Room} (hf : R'.frames ≤ R.frames) (hl : R'.locals ≤ R.locals) (hc : cells + R'.cells ≤ R.cells) (hs : slots + R'.slots ≤ R.slots) :
    Stand p l e R' ((T.setVm s.vm).setFrames (.invoking m args :: below)) m args below meth c T [] 0 0 := by
  have htop : (T.setVm s.vm).topJava?.isSome := X.here.top
  have hF : ((T.setVm s.vm).setFrames (.invoking m args :: below)).frames = .invoking m args :: below := State.frames_setFrames _ (State.cur_lt_of_top htop)
  obtain ⟨g₀, hg0⟩ := Option.isSome_iff_exists.mp htop
  obtain ⟨r, hr⟩ := State.topJava?_eq_some.mp hg0
  have hl9 : e.platform.stackLimits (T.setVm s.vm).me = e.platform.stackLimits s.me := X.limits
  have hb9 : (T.setVm s.vm).me.stackBytes = s.me.stackBytes := X.bytes
  refine ⟨X.admits, X.cas, X.clock, hF, ?_, X.hears, X.method, X.code, X.here, X.tail, X.warmed, ?_, ?_, ?_⟩
  · have h := X.room
    have hU : ((T.setVm s.vm).setFrames (.invoking m args :: below)).localsInUse = s.localsInUse := by
      rw [State.localsInUse_invoking hF (meth := meth) (c := c) X.method X.code, State.localsInUse_invoking X.frames X.method X.code]
    simp only [State.hasRoom, Bool.and_eq_true, decide_eq_true_eq] at h ⊢
    obtain ⟨⟨⟨⟨h1, h2, h3, h4, h5, h6⟩, h7⟩, h8⟩, h9⟩ := h
    rw [X.frames, List.length_cons] at h2 h3
    have q1 := X.heapSize
    have q2 := X.used
    simp only [hF, hU, List.length_cons, State.stackLimits_setFrames, State.stackBytes_setFrames, hl9, hb9]
    refine ⟨⟨⟨⟨by omega, by omega, by omega, by omega, by omega, h6⟩, ?_⟩, ?_⟩, X.book⟩
    · show T.heap.size + R'.cells ≤ e.platform.maxCells
      omega
    · show T.slotsUsed + R'.slots ≤ e.platform.maxSlots
      omega
  · rw [State.stackLimits_setFrames]; rfl
  · rw [State.stackBytes_setFrames]; rfl
  · refine ⟨?_, Nat.le_refl _, Nat.le_refl _, ?_, ?_, fun a c9 h9 => ⟨c9, h9, rfl, rfl, fun _ _ => rfl⟩⟩
    · obtain ⟨t, ht, -⟩ := State.frames_cons hr
      show T.setVm s.vm = { ((T.setVm s.vm).setFrames (.invoking m args :: below)).setFrames (T.setVm s.vm).frames with heap := T.heap, slotsUsed := T.slotsUsed }
      rw [State.setFrames_setFrames, State.setFrames_self ht]
      rfl
    · show T.slotsUsed = T.slotsUsed + ((T.heap.toList.drop T.heap.size).map (·.slots.size)).sum
      rw [List.drop_eq_nil_of_le (Nat.le_of_eq Array.length_toList)]
      rfl
    · show ((T.heap.toList.drop T.heap.size).map (·.slots.size)).sum ≤ 0
      rw [List.drop_eq_nil_of_le (Nat.le_of_eq Array.length_toList)]
      exact Nat.le_refl _
/-- 'throw new E()': new; dup; invokespecial; athrow -/
theorem vx_throw0 {cc : ByteArray} {pc : Nat} (hexec : p.tables.exec = Jvm.exec) (hb : c.code = cc) (hl : l.stackTraces = false) {own cls : String} {names : List String} {ik ic mc ms : Nat} {A : Nat → Prop}
    (hown : s.vm.findClass own = some m.cls) (hcls : Bundle.fit cls = true) (hnames : ∀ n ∈ names, Bundle.fit n = true)
    (hk : (Cond.classLink own ik cls).before args s = true) (hini : (Cond.initialized cls).before args s = true) (hat : ∀ w ∈ vx_at0 own ic cls names, w.before args s = true)
    (hgood : ∀ w ∈ Cond.classLink own ik cls :: Cond.initialized cls :: vx_at0 own ic cls names, vx_ot w = true)
    (hU : vx_Zq Bundle.tN "UNASSIGNED_STACK" Bundle.steD A s s.heap) (hN : vx_Zq Bundle.tN "SUPPRESSED_SENTINEL" Bundle.listD A s s.heap) (hS : va_S A s.heap H locs) (hsize : ls.size = c.maxLocals)
    (d0 : decode cc pc = .ok (.new ik, 3)) (d3 : decode cc (pc + 3) = .ok (.dup, 1)) (d4 : decode cc (pc + 4) = .ok (.invokespecial ic, 3)) (d7 : decode cc (pc + 7) = .ok (.athrow, 1))
    (hout : ∀ x ∈ c.exceptionTable.toList, covers x (pc + 7) = false)
    (hRframes : names.length + 3 < R.frames) (hRlocals : (rest.map fun v => v.category).sum + (13 * (names.length + 1) + 42) ≤ R.locals) (hRcells : cells + 1 ≤ R.cells) (hRslots : slots + 6 ≤ R.slots) (hlocks : meth.locks = false)
    (hx : ∀ t : State, s.vm.Alike t.vm → H.size ≤ t.heap.size → (∀ q : Nat, q < H.size → t.heap[q]? = H[q]?) → XC cls s t)
    (hf : ∀ z ∈ locs, free z.base) (hc : cells + 1 ≤ mc) (hs : slots + 6 ≤ ms) :
    W p l e R s m args below meth c H locs cells slots (vx_MQ below Qc XC args s mc ms free) (F0 m pc ls rest) := by
  intro T hT X
  have htr : e.platform.stackTraces = false := (show e.platform.stackTraces = l.stackTraces by rw [X.admits.platform]).trans hl
  have Y := vx_rebase X (R' := { frames := R.frames, locals := R.locals, cells := 1, slots := 6 }) (Nat.le_refl _) (Nat.le_refl _) hRcells hRslots
  obtain ⟨s', hA⟩ : ∃ z, z = (T.setVm s.vm).setFrames (.invoking m args :: below) := ⟨_, rfl⟩
  rw [← hA] at Y
  have hvm : s'.vm = s.vm := by rw [hA]; rfl
  have hhp : s'.heap = H := by rw [hA]; exact hT
  have hW0 : s.WarmedH s'.vm := by rw [hvm]; exact State.WarmedH.refl s
  have hat' : ∀ w ∈ vx_at0 own ic cls names, w.before args s' = true := fun w hw => vx_ot_at hW0 hvm.symm (hgood w (List.mem_cons_of_mem _ (List.mem_cons_of_mem _ hw))) (hat w hw)
  have hk' : (Cond.classLink own ik cls).before args s' = true := vx_ot_at hW0 hvm.symm (hgood _ List.mem_cons_self) hk
  have hini' : (Cond.initialized cls).before args s' = true := vx_ot_at hW0 hvm.symm (hgood _ (List.mem_cons_of_mem _ List.mem_cons_self)) hini
  have hU' : vx_Zq Bundle.tN "UNASSIGNED_STACK" Bundle.steD A s' s'.heap := by rw [hhp]; exact vx_Zq.moved hW0.alike (hU.kept hS.2.1)
  have hN' : vx_Zq Bundle.tN "SUPPRESSED_SENTINEL" Bundle.listD A s' s'.heap := by rw [hhp]; exact vx_Zq.moved hW0.alike (hN.kept hS.2.1)
  have h : ∀ w ∈ Bundle.ownAtoms0 own ic cls names, w.before args s' = true := vx_own hat' (vx_isRefq hU'.1) (vx_isRefq hN'.1) hU'.2.word hN'.2.word
  have hown' : s'.vm.findClass own = some m.cls := by rw [hvm]; exact hown
  have hins : (Cond.instantiable cls 6).before args s' = true := h _ (by simp [Bundle.ownAtoms0])
  obtain ⟨vm₁, cX, kX, hfX, hkX, -, -, X₁, st1⟩ := Y.newCold hexec (own := own) (C := cls) (index := ik) (n := 6) hown' hk' hins hini'
    (g := F0 m pc ls rest) rfl (by rw [hb]; exact d0) (Nat.le_refl _) (Nat.le_refl _)
  generalize hT1 : (T.setVm vm₁).pushCell { cls := cX, slots := kX.instanceTypes.map defaultValue, vm := .none } = T1 at X₁ st1
  have hcat : (Value.ref T.heap.size).category = 1 := rfl
  have hcellA : T1.heap[T.heap.size]? = some (freshCell cX kX) := by rw [← hT1]; exact State.heap_pushCell_size _ _
  have d3' : decode c.code (pc + 3) = .ok (.dup, 1) := by rw [hb]; exact d3
  obtain ⟨U, hsteps, hrun, hend, hW, hsame, ce, hce, hO⟩ := X₁.ctorThrow0 hexec htr (own := own) (cls := cls) (names := names) (ic := ic) hown' hcls hnames h (fun x hx => nomatch hx) hfX hkX hcellA (by rw [hhp, hT]; exact Nat.le_refl _)
    (g := { method := m, pc := pc + 4, locals := ls, stack := .ref T.heap.size :: .ref T.heap.size :: rest, locked := none }) rfl hsize rfl rfl (rest := rest) rfl
    (by rw [hb]; exact d4) (by rw [hb]; exact d7) hout hRframes (by simp only [List.map_cons, List.sum_cons, hcat]; omega) hlocks
  obtain ⟨f1, f2⟩ := vx_frame hsame
  rw [hhp] at f1 f2
  have hWs : s.WarmedH U.vm := State.WarmedH.trans hW0 hW
  have hcl : s.vm.findClass cls = some ce.cls := by
    have h9 := hO.cls
    rw [hvm] at h9
    exact h9
  have hall : s.sameButNew ({ U with vm := s.vm } : State) locs mc ms := by
    subst hA
    obtain ⟨e1, e2⟩ := hsame
    rw [State.setFrames_setFrames] at e1
    have h2 : (T.setVm s.vm).sameButNew ({ U with vm := s.vm } : State) [] (0 + 1) (0 + 6) := ⟨e1, e2⟩
    have h3 := X.same.trans h2
    rw [List.append_nil] at h3
    exact h3.mono hc hs
  refine ⟨U, ?_, .threw T.heap.size, hrun, hend, Or.inr ⟨T.heap.size, rfl, cls, ce, locs, hx U hWs.alike f1 (fun q hq => f2 q hq (fun z hz => nomatch hz)), hce, hO.vm, hcl, hWs, hall, hf⟩⟩
  refine st1 _ ?_
  show Steps p.tables e below (T1.setTop { method := m, pc := pc + 3, locals := ls, stack := .ref T.heap.size :: rest, locked := none }) _
  jvm_step X₁.here [X₁.here.top, hexec, d3', Value.category]
  exact hsteps
/-- 'throw new E("text")': new; dup; ldc; invokespecial; athrow -/
theorem vx_throwS {cc : ByteArray} {pc : Nat} (hexec : p.tables.exec = Jvm.exec) (hb : c.code = cc) (hl : l.stackTraces = false) {own cls text : String} {names : List String} {ik is ic mc ms sa : Nat} {A : Nat → Prop}
    (hown : s.vm.findClass own = some m.cls) (hcls : Bundle.fit cls = true) (hnames : ∀ n ∈ names, Bundle.fit n = true)
    (hk : (Cond.classLink own ik cls).before args s = true) (hini : (Cond.initialized cls).before args s = true) (hstr : vk_R own is text sa s) (hat : ∀ w ∈ vx_atS own ic cls names, w.before args s = true)
    (hgood : ∀ w ∈ Cond.classLink own ik cls :: Cond.initialized cls :: vx_atS own ic cls names, vx_ot w = true)
    (hU : vx_Zq Bundle.tN "UNASSIGNED_STACK" Bundle.steD A s s.heap) (hN : vx_Zq Bundle.tN "SUPPRESSED_SENTINEL" Bundle.listD A s s.heap) (hS : va_S A s.heap H locs) (hsize : ls.size = c.maxLocals)
    (d0 : decode cc pc = .ok (.new ik, 3)) (d3 : decode cc (pc + 3) = .ok (.dup, 1)) (d4 : decode cc (pc + 4) = .ok (.ldc is, 2)) (d6 : decode cc (pc + 6) = .ok (.invokespecial ic, 3)) (d9 : decode cc (pc + 9) = .ok (.athrow, 1))
    (hout : ∀ x ∈ c.exceptionTable.toList, covers x (pc + 9) = false)
    (hRframes : names.length + 3 < R.frames) (hRlocals : (rest.map fun v => v.category).sum + (13 * (names.length + 1) + 43) ≤ R.locals) (hRcells : cells + 1 ≤ R.cells) (hRslots : slots + 6 ≤ R.slots) (hlocks : meth.locks = false)
    (hx : ∀ t : State, s.vm.Alike t.vm → H.size ≤ t.heap.size → (∀ q : Nat, q < H.size → t.heap[q]? = H[q]?) → XC cls s t)
    (hf : ∀ z ∈ locs, free z.base) (hc : cells + 1 ≤ mc) (hs : slots + 6 ≤ ms) :
    W p l e R s m args below meth c H locs cells slots (vx_MQ below Qc XC args s mc ms free) (F0 m pc ls rest) := by
  intro T hT X
  have htr : e.platform.stackTraces = false := (show e.platform.stackTraces = l.stackTraces by rw [X.admits.platform]).trans hl
  have Y := vx_rebase X (R' := { frames := R.frames, locals := R.locals, cells := 1, slots := 6 }) (Nat.le_refl _) (Nat.le_refl _) hRcells hRslots
  obtain ⟨s', hA⟩ : ∃ z, z = (T.setVm s.vm).setFrames (.invoking m args :: below) := ⟨_, rfl⟩
  rw [← hA] at Y
  have hvm : s'.vm = s.vm := by rw [hA]; rfl
  have hhp : s'.heap = H := by rw [hA]; exact hT
  have hW0 : s.WarmedH s'.vm := by rw [hvm]; exact State.WarmedH.refl s
  have hat' : ∀ w ∈ vx_atS own ic cls names, w.before args s' = true := fun w hw => vx_ot_at hW0 hvm.symm (hgood w (List.mem_cons_of_mem _ (List.mem_cons_of_mem _ hw))) (hat w hw)
  have hk' : (Cond.classLink own ik cls).before args s' = true := vx_ot_at hW0 hvm.symm (hgood _ List.mem_cons_self) hk
  have hini' : (Cond.initialized cls).before args s' = true := vx_ot_at hW0 hvm.symm (hgood _ (List.mem_cons_of_mem _ List.mem_cons_self)) hini
  have hU' : vx_Zq Bundle.tN "UNASSIGNED_STACK" Bundle.steD A s' s'.heap := by rw [hhp]; exact vx_Zq.moved hW0.alike (hU.kept hS.2.1)
  have hN' : vx_Zq Bundle.tN "SUPPRESSED_SENTINEL" Bundle.listD A s' s'.heap := by rw [hhp]; exact vx_Zq.moved hW0.alike (hN.kept hS.2.1)
  have h : ∀ w ∈ Bundle.ownAtoms own ic cls names, w.before args s' = true := vx_own hat' (vx_isRefq hU'.1) (vx_isRefq hN'.1) hU'.2.word hN'.2.word
  have hown' : s'.vm.findClass own = some m.cls := by rw [hvm]; exact hown
  have hins : (Cond.instantiable cls 6).before args s' = true := h _ (by simp [Bundle.ownAtoms])
  obtain ⟨vm₁, cX, kX, hfX, hkX, -, -, X₁, st1⟩ := Y.newCold hexec (own := own) (C := cls) (index := ik) (n := 6) hown' hk' hins hini'
    (g := F0 m pc ls rest) rfl (by rw [hb]; exact d0) (Nat.le_refl _) (Nat.le_refl _)
  generalize hT1 : (T.setVm vm₁).pushCell { cls := cX, slots := kX.instanceTypes.map defaultValue, vm := .none } = T1 at X₁ st1
  have hcat : (Value.ref T.heap.size).category = 1 := rfl
  have hcellA : T1.heap[T.heap.size]? = some (freshCell cX kX) := by rw [← hT1]; exact State.heap_pushCell_size _ _
  have d3' : decode c.code (pc + 3) = .ok (.dup, 1) := by rw [hb]; exact d3
  have d4' : decode c.code (pc + 4) = .ok (.ldc is, 2) := by rw [hb]; exact d4
  have hstr' : vk_R own is text sa s' := vk_R.warm hW0 hstr
  obtain ⟨U, hsteps, hrun, hend, hW, hsame, ce, hce, hO⟩ := X₁.ctorThrowS hexec htr (own := own) (cls := cls) (names := names) (ic := ic) hown' hcls hnames h (fun x hx => nomatch hx) hfX hkX hcellA (by rw [hhp, hT]; exact Nat.le_refl _) (msg := .ref sa) rfl
    (g := { method := m, pc := pc + 6, locals := ls, stack := .ref sa :: .ref T.heap.size :: .ref T.heap.size :: rest, locked := none }) rfl hsize rfl rfl (rest := rest) rfl
    (by rw [hb]; exact d6) (by rw [hb]; exact d9) hout hRframes (by simp only [List.map_cons, List.sum_cons, hcat]; omega) hlocks
  obtain ⟨f1, f2⟩ := vx_frame hsame
  rw [hhp] at f1 f2
  have hWs : s.WarmedH U.vm := State.WarmedH.trans hW0 hW
  have hcl : s.vm.findClass cls = some ce.cls := by
    have h9 := hO.cls
    rw [hvm] at h9
    exact h9
  have hall : s.sameButNew ({ U with vm := s.vm } : State) locs mc ms := by
    subst hA
    obtain ⟨e1, e2⟩ := hsame
    rw [State.setFrames_setFrames] at e1
    have h2 : (T.setVm s.vm).sameButNew ({ U with vm := s.vm } : State) [] (0 + 1) (0 + 6) := ⟨e1, e2⟩
    have h3 := X.same.trans h2
    rw [List.append_nil] at h3
    exact h3.mono hc hs
  refine ⟨U, ?_, .threw T.heap.size, hrun, hend, Or.inr ⟨T.heap.size, rfl, cls, ce, locs, hx U hWs.alike f1 (fun q hq => f2 q hq (fun z hz => nomatch hz)), hce, hO.vm, hcl, hWs, hall, hf⟩⟩
  refine st1 _ ?_
  show Steps p.tables e below (T1.setTop { method := m, pc := pc + 3, locals := ls, stack := .ref T.heap.size :: rest, locked := none }) _
  jvm_step X₁.here [X₁.here.top, hexec, d3', Value.category]
  exact X₁.ldcString hexec (own := own) (text := text) (index := is) (a := sa) hown' hstr'.1 hstr'.2
    (g := { method := m, pc := pc + 4, locals := ls, stack := .ref T.heap.size :: .ref T.heap.size :: rest, locked := none }) rfl d4' _ hsteps
end Ends
section Bodies
variable {l : Launch}
theorem vx_ofW {y : MethodName} {ws ws' : List Cond} {rm : Room} {Pc : Array Value → State → Prop} {Qc : Array Value → State → Outcome → State → Prop} {XC : String → State → State → Prop} {mc ms : Nat} {free : Addr → Prop} {cc : ByteArray} {maxL : Nat} {ret : Option FieldType}
    (hy : plainName y.cls = true) (hw : ws = Cond.code y cc maxL ret :: ws')
    (body : ∀ p e s m args below meth c s₁, BodyLoose p l y (headSpec ws rm) cc maxL ret e s m args below meth c s₁ → c.maxLocals = maxL → (∀ x ∈ c.exceptionTable.toList, False) → Pc args s →
      W p l e (headSpec ws rm).room s m args below meth c s.heap [] 0 0 (vx_MQ below Qc XC args s mc ms free) (entryFrame m args maxL)) : vx_Met l y ws rm Pc Qc XC mc ms free := by
  refine MetFree.of_bodyS (code := cc) (maxLocals := maxL) (ret := ret) hy ?_ ?_
  · intro args s m h hn
    obtain ⟨meth, c, h1, h2, h3, h4, h5, h6, -, -⟩ := Cond.code_spec hn (atoms_spec (ws := ws) h _ (by rw [hw]; exact List.mem_cons_self))
    exact ⟨meth, c, h1, h2, h3, h4, h5, h6⟩
  · intro p e s m args below meth c s₁ B hml hP _
    have hh0 : s₁.heap = s.heap := by rw [B.state]; rfl
    have ht : ∀ x ∈ c.exceptionTable.toList, False := by
      obtain ⟨meth9, c9, h1, h2, -, -, -, -, h7, -⟩ := Cond.code_spec B.named (atoms_spec (ws := ws) B.pre _ (by rw [hw]; exact List.mem_cons_self))
      cases Option.some.inj (h1.symm.trans B.method)
      cases Option.some.inj (h2.symm.trans (Stand.of_body B).code)
      intro x hx
      rw [Array.isEmpty_iff.mp h7] at hx
      cases hx
    obtain ⟨t, a1, o, b1, b2, b3⟩ := body p e s m args below meth c s₁ B hml ht hP s₁ hh0 (Stand.of_body B)
    exact ⟨t, o, a1, b1, b2, b3⟩
/-- the table of a body with handlers -/
theorem vx_table {p : Program} {x y : MethodName} {S : Spec} {cc bytes : ByteArray} {maxL maxL' : Nat} {ret ret' : Option FieldType} {e : Env} {s s₁ : State} {m : MethodId} {args : Array Value} {below : List Frame} {meth : Method} {c : Code} {hh : List (Nat × Nat × Nat × Nat)}
    (B : BodyLoose p l y S cc maxL ret e s m args below meth c s₁) (h : (Cond.codeWith y bytes maxL' ret' hh).before args s = true) : c.exceptionTable.toList = tableOf hh := by
  obtain ⟨m9, meth9, c9, hn9, h1, h2, -, -, h6, -⟩ := Cond.codeWith_spec h
  cases Option.some.inj (hn9.symm.trans B.named)
  cases Option.some.inj (h1.symm.trans B.method)
  cases Option.some.inj (h2.symm.trans (Stand.of_body B).code)
  rw [← h6, table_eq]
end Bodies
end VXA
/-! ===== END ===== -/
/-! ===== BEGIN a static call of a method with an exception table ===== -/
section VXS
variable {p : Program} {l : Launch} {e : Env} {R : Room} {s : State} {m : MethodId} {args : Array Value} {below : List Frame} {meth : Method} {c : Code} {T : State} {H : Heap} {locs : List Loc} {cells slots : Nat}
abbrev vx_CSW (R : Room) (s : State) (args : Array Value) (own : String) (index : Nat) (y : MethodName) (bytes : ByteArray) (maxL : Nat) (ret : Option FieldType) (hh : List (Nat × Nat × Nat × Nat)) (ws : List Cond) (rm : Room) (mc ms n : Nat) : Prop :=
  (rm.cells = mc ∧ rm.slots = ms ∧ rm.frames + 1 ≤ R.frames ∧ 8 + (maxL + 11) + rm.locals ≤ R.locals ∧ (∀ w ∈ ws, ∀ (a' : Array Value) (U : State), s.WarmedH U.vm → w.before a' U = true) ∧ Cond.codeWith y bytes maxL ret hh ∈ ws) ∧
  (Cond.codeWith y bytes maxL ret hh).before args s = true ∧ (Cond.initialized y.cls).before args s = true ∧ (y.cls ≠ "java/lang/invoke/MethodHandle" ∧ y.cls ≠ "java/lang/invoke/VarHandle") ∧
  (∀ sig, parseMethodDescriptor y.desc = some sig → n = sig.parameters.length) ∧ (Cond.methodLink own index y).before args s = true ∧ (Cond.static y).before args s = true
theorem vx_cwSW {own : String} {index maxL mc ms : Nat} {y : MethodName} {bytes : ByteArray} {ret : Option FieldType} {hh : List (Nat × Nat × Nat × Nat)} {Ts ws ws' : List Cond} {rm : Room} (n : Nat) (ht : ∀ w ∈ Ts, w.before args s = true) (hT : GoodIn Ts (va_wsS own index y ws)) (hw : ws = Cond.codeWith y bytes maxL ret hh :: ws') (hrc : rm.cells = mc) (hrs : rm.slots = ms)
    (hd : y.cls ≠ "java/lang/invoke/MethodHandle" ∧ y.cls ≠ "java/lang/invoke/VarHandle" ∧ (parseMethodDescriptor y.desc).map (fun d => d.parameters.length) = some n) (hR : rm.frames + 1 ≤ R.frames ∧ 8 + (maxL + 11) + rm.locals ≤ R.locals) :
    vx_CSW R s args own index y bytes maxL ret hh ws rm mc ms n := by
  have ok : ∀ w ∈ va_wsS own index y ws, w.before args s = true := fun w h => ht w (hT w h).1
  have hG : GoodIn Ts ws := fun w h => hT w (by unfold va_wsS; exact List.mem_append_right _ h)
  have hc : Cond.codeWith y bytes maxL ret hh ∈ ws := by rw [hw]; exact List.mem_cons_self
  refine ⟨⟨hrc, hrs, hR.1, hR.2, pay_in ht hG, hc⟩, ht _ (hG _ hc).1, ok _ (by simp [va_wsS]), ⟨hd.1, hd.2.1⟩, fun sig h => ?_, ok _ (by simp [va_wsS]), ok _ (by simp [va_wsS])⟩
  have h2 := hd.2.2
  rw [h] at h2
  exact (Option.some.inj h2).symm
theorem vx_callSW (X : Stand p l e R s m args below meth c T locs cells slots) (hexec : p.tables.exec = Jvm.exec) {own : String} {index : Nat} {y : MethodName} {bytes : ByteArray} {maxL : Nat} {ret : Option FieldType} {hh : List (Nat × Nat × Nat × Nat)}
    (hown : s.vm.findClass own = some m.cls) (hlink : (Cond.methodLink own index y).before args s = true) (hstat : (Cond.static y).before args s = true) (hinit : (Cond.initialized y.cls).before args s = true)
    (hcode : (Cond.codeWith y bytes maxL ret hh).before args s = true) (hy : y.cls ≠ "java/lang/invoke/MethodHandle" ∧ y.cls ≠ "java/lang/invoke/VarHandle")
    {W9 : Nat} {Pre : Pt → Array Value → Prop} {Post : Pt → Array Value → Option Value → Pt → Prop} (hK : Back l R p e below s args y 3 W9 Pre Post)
    {g : JFrame} (hg : g.method = m) (hsize : g.locals.size = c.maxLocals) {argsL rest : List Value} (hlen : ∀ sig, parseMethodDescriptor y.desc = some sig → argsL.length = sig.parameters.length)
    (hstack : g.stack = argsL.reverse ++ rest) (hW : 2 * g.monitorRoom + (rest.map fun v => v.category).sum ≤ W9) (hdg : decode c.code g.pc = .ok (.invokestatic index, 3))
    (hpre : ∀ vm₁, s.WarmedH vm₁ → Pre ⟨T.setVm vm₁, locs, cells, slots⟩ argsL.toArray) :
    ∃ (v : Option Value) (vm₁ : Vm) (B : Pt), s.WarmedH vm₁ ∧ Stand p l e R s m args below meth c B.U B.locs B.cells B.slots ∧ Post ⟨T.setVm vm₁, locs, cells, slots⟩ argsL.toArray v B ∧
      ∀ target, Steps p.tables e below (B.U.setTop { g with pc := g.pc + 3, stack := v.toList ++ rest }) target → Steps p.tables e below (T.setTop g) target := by
  obtain ⟨mk, methM, cM, hnamed, hmethM, -, -, -, -, -, -, hsigM⟩ := Cond.codeWith_spec hcode
  have hstatic : methM.isStatic = true := Cond.static_spec hnamed hmethM hstat
  obtain ⟨kP, hkP, -⟩ := className_of_methodNamed hnamed
  have hinitP : kP.init = .initialized := Cond.initialized_spec (findClass_of_methodNamed hnamed) hkP hinit
  obtain ⟨vm₁, X₁, hstep₁⟩ := X.invokestatic hexec hown hlink hnamed hmethM hstatic hkP hinitP hy (g := g) hg (argsL := argsL) (rest := rest) (hlen _ hsigM) hstack hdg
  obtain ⟨v, B, X', hpost, hsteps⟩ := hK m meth c ⟨T.setVm vm₁, locs, cells, slots⟩ { g with stack := rest } (.invokestatic index) mk argsL.toArray X₁ hg hsize hdg hW (X₁.named hnamed) (hpre vm₁ X₁.warmed)
  exact ⟨v, vm₁, B, X₁.warmed, X', hpost, fun target h => hstep₁ _ fun acts => by rw [doInvoke_state]; exact hsteps.trans h⟩
theorem vx_runSW {y : MethodName} {bytes cc : ByteArray} {maxL nL mc ms n index : Nat} {ret : Option FieldType} {hh : List (Nat × Nat × Nat × Nat)} {ws : List Cond} {rm : Room} {Pc : Array Value → State → Prop} {Qc : Array Value → State → Outcome → State → Prop} {free : Addr → Prop} {Ts : List Cond} {own : String} {As rest : List Value} {g : JFrame}
    (S : CallFix p m c cc nL s args Ts own) (hM : Met l y ws rm Pc Qc mc ms free) (cw : vx_CSW R s args own index y bytes maxL ret hh ws rm mc ms n) (hp : PreS s H Pc As)
    (hg : g.method = m) (hn : As.length = n) (hsize : g.locals.size = nL) (hstack : g.stack = As.reverse ++ rest) (hW : 2 * g.monitorRoom + (rest.map fun v => v.category).sum ≤ 8) (hdg : decode cc g.pc = .ok (.invokestatic index, 3)) (hf : cells + mc ≤ R.cells ∧ slots + ms ≤ R.slots) :
    va_Run p l e R s m args below meth c H locs cells slots mc ms g rest (Qc As.toArray) (free) := by
  obtain ⟨⟨hrc, hrs, hfr, hlo, hws, hcw⟩, hcode, hini, hy, hlen, hl, hstt⟩ := cw
  have hK : Back l R p e below s args y 3 8 (PreOf R mc ms Pc) (PostOf Qc mc ms free) := va_backW (hh := hh) (bytes := bytes) (maxL := maxL) (ret := ret) hM hp.1 hrc hrs hfr hlo hws hcw (fun a' U hW => word_at hW (Or.inl (by first | rfl | simp [Cond.onTables, Cond.keeps, Cond.steady])) hini)
  obtain ⟨hx, hb, hml, ho, -⟩ := S
  intro T hT X
  obtain ⟨v, vm₁, ⟨U', l2, c2, s2⟩, hW₁, X', ⟨g', mk, t, L, e1, e2, hq, h1, hL, h2, h3⟩, st⟩ := vx_callSW X hx (hh := hh) (bytes := bytes) (maxL := maxL) (ret := ret) ho hl hstt hini hcode hy hK hg (hsize.trans hml.symm) (argsL := As) (rest := rest) (fun sig h => hn.trans (hlen sig h)) hstack hW (by rw [hb]; exact hdg)
    (fun vm₁ hW₁ => ⟨hf.1, hf.2, hp.2 (T.setVm vm₁) hT hW₁⟩)
  dsimp only [Pt.U, Pt.locs, Pt.cells, Pt.slots] at X' e1 e2 h1 h2 h3 st
  subst h1; subst h2; subst h3
  exact ⟨v, (T.setVm vm₁).calling g' mk As.toArray, t, U', L, hT, X', hL, e1, e2, hq, st⟩
end VXS
/-! 'throw new NoSuchElementException(text)' of the class, caught by the law's two helpers -/
/-! The library's row for 'throw new E(text)' asks that E's own constructor hands on at pool entry 7; that of java.util.NoSuchElementException does it at entry 13. The two theorems below take that entry as a parameter (they go the course of the library's ctorThrowS and of the printed vx_throwS, and say less of the thrown cell). -/
section SX
variable {p : Program} {l : Launch} {e : Env} {R : Room} {s : State} {m₀ : MethodId} {args : Array Value} {below : List Frame} {meth : Method} {c : Code} {T0 : State} {locs : List Loc} {cells slots : Nat}
set_option maxHeartbeats 2000000 in
theorem sx_ctor (X : Stand p l e R s m₀ args below meth c T0 locs cells slots) (hexec : p.tables.exec = Jvm.exec) (htr : e.platform.stackTraces = false) {own cls : String} {names : List String} {ic ix : Nat} {rx : ByteArray}
    (x0 : decode rx 0 = .ok (.aload_n 0, 1)) (x1 : decode rx 1 = .ok (.aload_n 1, 1)) (x2 : decode rx 2 = .ok (.invokespecial ix, 3)) (x5 : decode rx 5 = .ok (.return_, 1))
    (hown : s.vm.findClass own = some m₀.cls) (hcls : Bundle.fit cls = true) (hnames : ∀ n ∈ names, Bundle.fit n = true) (h : ∀ a ∈ Bundle.ownAtomsX own ic cls ix rx names, a.before args s = true)
    (hlocs : ∀ x ∈ locs, ∀ cell, s.heap[x.base]? = some cell → cell.vm.isStatics = false)
    {a : Addr} {cX : ClassId} {kX : Class} (hfX : s.vm.findClass cls = some cX) (hkX : s.vm.classes[cX]? = some kX) (hcell : T0.heap[a]? = some (freshCell cX kX)) (hnew : s.heap.size ≤ a) {msg : Value} (hmsg : msg.isRef = true)
    {g : JFrame} (hg : g.method = m₀) (hsize : g.locals.size = c.maxLocals) (hlocked : g.locked = none) (hentered : g.entered = []) {rest : List Value} (hstack : g.stack = msg :: .ref a :: .ref a :: rest)
    (hd6 : decode c.code g.pc = .ok (.invokespecial ic, 3)) (hd9 : decode c.code (g.pc + 3) = .ok (.athrow, 1)) (hout : ∀ x ∈ c.exceptionTable.toList, covers x (g.pc + 3) = false)
    (hRf : names.length + 3 < R.frames) (hRl : 2 * g.monitorRoom + ((Value.ref a :: rest).map fun v => v.category).sum + (13 * (names.length + 1) + 42) ≤ R.locals) (hlocks : meth.locks = false) :
    ∃ U : State, Steps p.tables e below (T0.setTop g) U ∧ U.status = .running ∧ Ended U below (.threw a) ∧ s.WarmedH U.vm ∧ s.sameButNew ({ U with vm := s.vm } : State) locs cells slots ∧ ∃ ce, U.heap[a]? = some ce ∧ ce.cls = cX ∧ ce.vm = .none := by
  have hpl : e.platform.magicAccessors = ({} : Platform).magicAccessors := by rw [X.admits.platform]
  have k : ∀ x, x ∈ Bundle.ownAtomsX own ic cls ix rx names → x.holds args s none s [] = true := fun x hx => h x hx
  obtain ⟨T, Z0, L, -, Y⟩ := ThrowableC.of_atoms (args := args) (pl := e.platform) (by rw [X.admits.platform]) (by rw [X.admits.platform]) hpl (fun x hx => h x (by simp [Bundle.ownAtomsX, hx]))
  obtain ⟨Z, M, LZ, LM, hnZ⟩ := Init0T.ofS_atoms (args := args) hpl L Y (fun x hx => h x (by simp [Bundle.ownAtomsX, hx]))
  obtain ⟨P1, Ps, hlen, L1, hL, hP1, hl1, hl2⟩ := Bundle.chainSX (args := args) hpl hnZ x0 x1 x2 x5 names cls hcls hnames (fun x hx => h x (by simp [Bundle.ownAtomsX, hx]))
  have hfd : s.vm.findClass cls = some P1.m.cls := findClass_of_methodNamed hP1
  cases Option.some.inj (hfX.symm.trans hfd)
  obtain ⟨c1, k1, hc1, hk, hord, -, -, -⟩ := Cond.instantiable_spec (k (.instantiable cls 6) (by simp [Bundle.ownAtomsX]))
  cases Option.some.inj (hc1.symm.trans hfd)
  cases Option.some.inj (hkX.symm.trans hk)
  have hs0 : selectMethod e.platform s.vm P1.m.cls T.fill0 = .method T.fill0 := by
    obtain ⟨c2, r2, m2, q1, q2, q3, q4, -⟩ := Cond.selects_spec (k (.selects cls Bundle.tFill0 Bundle.tFill0) (by simp [Bundle.ownAtomsX]))
    cases Option.some.inj (q1.symm.trans hfd)
    cases Option.some.inj (q2.symm.trans (State.methodFound?_of_named Y.fill0 (by decide)))
    cases Option.some.inj (q3.symm.trans Y.fill0)
    rw [Launch.admits_selectMethod X.admits]; exact q4
  have hsF : selectMethod e.platform s.vm P1.m.cls T.fill = .method T.fill := by
    obtain ⟨c2, r2, m2, q1, q2, q3, q4, -⟩ := Cond.selects_spec (k (.selects cls Bundle.tFill Bundle.tFill) (by simp [Bundle.ownAtomsX]))
    cases Option.some.inj (q1.symm.trans hfd)
    cases Option.some.inj (q2.symm.trans (State.methodFound?_of_named Y.fill (by decide)))
    cases Option.some.inj (q3.symm.trans Y.fill)
    rw [Launch.admits_selectMethod X.admits]; exact q4
  obtain ⟨cS0, hcS0, hiss⟩ := Y.statics
  obtain ⟨u0, hu0⟩ := Cond.staticRefV Y.unassigned L.unassignedStatic L.statics hcS0 hiss (k (.isRef (.static Bundle.tN "UNASSIGNED_STACK" Bundle.steD)) (by simp [Bundle.ownAtomsX]))
  obtain ⟨sen, hsen⟩ := Cond.staticRefV Y.sentinel L.sentinelStatic L.statics hcS0 hiss (k (.isRef (.static Bundle.tN "SUPPRESSED_SENTINEL" Bundle.listD)) (by simp [Bundle.ownAtomsX]))
  obtain ⟨ci, ii, fB, g1, g2, g3, g4, -, hnB, htB, hfB⟩ := Cond.ownField (t := .object "java/lang/Object") Y.found L.cls (by decide +kernel) (k (.fieldLink Bundle.tN 198 Bundle.tN "backtrace" "Ljava/lang/Object;") (by simp [Bundle.ownAtomsX])) (k (.lays Bundle.tN Bundle.tN "backtrace" "Ljava/lang/Object;") (by simp [Bundle.ownAtomsX])) e.platform hpl
  obtain ⟨cS, hcS, heS, -, hkeep⟩ := X.same.2.2.2.2.2 T.aS cS0 hcS0
  have hcS : T0.heap[T.aS]? = some cS := hcS
  have hno : ∀ i, (⟨T.aS, i⟩ : Loc) ∉ locs := fun i hm => by
    have h9 := hlocs _ hm cS0 hcS0
    rw [hiss] at h9; cases h9
  have hkS : cS.vm ≠ .unknown := by
    rw [heS]; intro hu
    rw [show cS0.vm = .unknown from hu] at hiss
    cases hiss
  have hneS : T.aS ≠ a := Nat.ne_of_lt (Nat.lt_of_lt_of_le (Array.getElem?_eq_some_iff.mp hcS0).1 hnew)
  obtain ⟨iM, hfM⟩ := Y.msg
  obtain ⟨tyC, dC, hdC, hnC⟩ := Cond.laysAt hfd hk Y.cause (k (.lays cls Bundle.tN "cause" "Ljava/lang/Throwable;") (by simp [Bundle.ownAtomsX]))
  obtain ⟨tyS, dS, hdS, hnS⟩ := Cond.laysAt hfd hk Y.stack (k (.lays cls Bundle.tN "stackTrace" Bundle.steD) (by simp [Bundle.ownAtomsX]))
  obtain ⟨tyP, dP, hdP, hnP⟩ := Cond.laysAt hfd hk Y.supp (k (.lays cls Bundle.tN "suppressedExceptions" Bundle.listD) (by simp [Bundle.ownAtomsX]))
  obtain ⟨tyM, -, -, -⟩ := Cond.laysAt hfd hk hfM (k (.lays cls Bundle.tN "detailMessage" "Ljava/lang/String;") (by simp [Bundle.ownAtomsX]))
  obtain ⟨tyB, dB, hdB, hnB2⟩ := Cond.laysAt hfd hk hfB (k (.lays cls Bundle.tN "backtrace" "Ljava/lang/Object;") (by simp [Bundle.ownAtomsX]))
  have bC := Cond.laysApart hdB hdC hnB2 hnC (by rw [hnB, Y.causeName]; decide)
  have bS := Cond.laysApart hdB hdS hnB2 hnS (by rw [hnB, Y.stackName]; decide)
  have bP := Cond.laysApart hdB hdP hnB2 hnP (by rw [hnB, Y.suppName]; decide)
  have hskip : SkipFacts T e.platform s (fun u => u) u0 ((preparedCellV T.toThrowableT (freshCell P1.m.cls kX) a u0 sen).withEntry T0.cur) :=
    ⟨{ ci198 := ci, i198 := ii, fBack := fB }, ⟨g1, g2, g3, g4⟩, by
      have h9 := fresh_default (c := P1.m.cls) tyB
      rw [htB] at h9
      simpa [preparedCellV, Cell.setSlot, Cell.withEntry, Array.getElem?_setIfInBounds, bC, bS, bP, bC.symm, bS.symm, bP.symm, defaultValue] using h9, fun _ _ => rfl⟩
  obtain ⟨tm, -, -, -, vm₁, hnC1, -, -, -, -, -, -, -, hW₁, st1⟩ := Steps.initColdS (tb := p.tables) (e := e) (below := below) (s := s) (U := T0) X.here hexec X.warmed hpl hown (t := Bundle.initS cls) rfl rfl (Bundle.fit_spec hcls).2
    (k (.methodLink own ic (Bundle.initS cls)) (by simp [Bundle.ownAtomsX])) (h (.instanceMethod (Bundle.initS cls)) (by cases names <;> simp [Bundle.ownAtomsX, Bundle.chainSAtomsX, Bundle.passSAtoms])) (bytes := rx) (maxL := 2) (h (.code (Bundle.initS cls) rx 2 none) (by cases names <;> simp [Bundle.ownAtomsX, Bundle.chainSAtomsX, Bundle.passSAtoms]))
    (f := g) hg (a := a) (msg := msg) (rest := .ref a :: rest) hstack hd6
  cases Option.some.inj (hnC1.symm.trans hP1)
  have X₁ := X.noted hW₁
  obtain ⟨vm₂, X₂, st2⟩ := X₁.ctorMessageOffV hexec (g := { g with stack := .ref a :: rest }) hg hsize T L Z LZ M LM (P1 :: Ps)
    (fun P hP => by rcases List.mem_cons.mp hP with rfl | hP; exact L1; exact hL P hP) ⟨hl1, hl2⟩ (u0 := u0) (sen := sen) (self := a) hmsg (cell := freshCell P1.m.cls kX) (cellS := cS)
    hcell (fun _ => by simp) (by simp) rfl rfl hs0 hsF hcS hneS hkS (by rw [hkeep _ (hno _)]; exact hu0) (by rw [hkeep _ (hno _)]; exact hsen)
    (Takes.of_laid hk hord tyC (by rw [Y.causeType]; rfl)) (Takes.of_laid hk hord tyS (by rw [Y.stackType]; exact fits_refV_array _ u0)) (Takes.of_laid hk hord tyP (by rw [Y.suppType]; exact fits_refV_object _ sen))
    (Takes.of_laid hk hord tyM (by rw [Y.msgType]; exact fits_refV_object _ ⟨msg, hmsg⟩)) Y.objLocals hskip htr [] hd6
    (by simp only [List.length_cons, hlen]; omega) (by simp only [List.length_cons, hlen]; exact hRl)
  obtain ⟨hwalk, hrun, hended, hWU, hsame⟩ := X₂.athrowLeaves hexec (g := { g with stack := .ref a :: rest, pc := g.pc + 3 }) hg hlocked hentered hout (a := a) (rest := rest) rfl hd9 hlocks
  have hlt : a < ((T0.setVm vm₁).setVm vm₂).heap.size := (Array.getElem?_eq_some_iff.mp hcell).1
  refine ⟨_, st1 _ (fun acts => ?_), hrun, hended, hWU, hsame.weaken (fun y hy hy2 => ?_) (Nat.le_refl _) (Nat.le_refl _), _, heapAt_setCell_self (s := (T0.setVm vm₁).setVm vm₂) (plainBareV T.toThrowableT (freshCell P1.m.cls kX) a u0 sen msg) hlt, rfl, rfl⟩
  · rw [doInvoke_state]
    exact st2 _ hwalk
  · rcases List.mem_append.mp hy with h1 | h1
    · exact h1
    · have hb : y.base = a := by
        simp only [List.mem_cons, List.not_mem_nil, or_false] at h1
        rcases h1 with rfl | rfl | rfl | rfl | rfl <;> rfl
      rw [hb] at hy2
      exact absurd hy2 (Nat.not_lt.mpr hnew)
end SX
section SXT
variable {p : Program} {l : Launch} {e : Env} {R : Room} {s : State} {m : MethodId} {args : Array Value} {below : List Frame} {meth : Method} {c : Code} {H : Heap} {locs : List Loc} {cells slots : Nat}
def sx_at (own : String) (ic : Nat) (X : String) (ix : Nat) (rx : ByteArray) (names : List String) : List Cond := (Bundle.ownAtomsX own ic X ix rx names).filter vx_no
set_option maxHeartbeats 2000000 in
theorem sx_throw {cc : ByteArray} {pc : Nat} {ls : Array Slot} {rest : List Value} {free : Addr → Prop} {Qc : Array Value → State → Outcome → State → Prop} {XC : String → State → State → Prop} (hexec : p.tables.exec = Jvm.exec) (hb : c.code = cc) (hl : l.stackTraces = false) {own cls text : String} {names : List String} {ik is ic ix mc ms sa : Nat} {rx : ByteArray} {A : Nat → Prop}
    (x0 : decode rx 0 = .ok (.aload_n 0, 1)) (x1 : decode rx 1 = .ok (.aload_n 1, 1)) (x2 : decode rx 2 = .ok (.invokespecial ix, 3)) (x5 : decode rx 5 = .ok (.return_, 1))
    (hown : s.vm.findClass own = some m.cls) (hcls : Bundle.fit cls = true) (hnames : ∀ n ∈ names, Bundle.fit n = true)
    (hk : (Cond.classLink own ik cls).before args s = true) (hini : (Cond.initialized cls).before args s = true) (hstr : vk_R own is text sa s) (hat : ∀ w ∈ sx_at own ic cls ix rx names, w.before args s = true)
    (hgood : ∀ w ∈ Cond.classLink own ik cls :: Cond.initialized cls :: sx_at own ic cls ix rx names, vx_ot w = true)
    (hU : vx_Zq Bundle.tN "UNASSIGNED_STACK" Bundle.steD A s s.heap) (hN : vx_Zq Bundle.tN "SUPPRESSED_SENTINEL" Bundle.listD A s s.heap) (hS : va_S A s.heap H locs) (hsize : ls.size = c.maxLocals)
    (d0 : decode cc pc = .ok (.new ik, 3)) (d3 : decode cc (pc + 3) = .ok (.dup, 1)) (d4 : decode cc (pc + 4) = .ok (.ldc is, 2)) (d6 : decode cc (pc + 6) = .ok (.invokespecial ic, 3)) (d9 : decode cc (pc + 9) = .ok (.athrow, 1))
    (hout : ∀ x ∈ c.exceptionTable.toList, covers x (pc + 9) = false)
    (hRf : names.length + 3 < R.frames) (hRl : (rest.map fun v => v.category).sum + (13 * (names.length + 1) + 43) ≤ R.locals) (hRc : cells + 1 ≤ R.cells) (hRs : slots + 6 ≤ R.slots) (hlocks : meth.locks = false)
    (hx : ∀ t : State, s.vm.Alike t.vm → H.size ≤ t.heap.size → (∀ q : Nat, q < H.size → t.heap[q]? = H[q]?) → XC cls s t)
    (hf : ∀ z ∈ locs, free z.base) (hc : cells + 1 ≤ mc) (hs : slots + 6 ≤ ms) :
    W p l e R s m args below meth c H locs cells slots (vx_MQ below Qc XC args s mc ms free) (F0 m pc ls rest) := by
  intro T hT X
  have htr : e.platform.stackTraces = false := (show e.platform.stackTraces = l.stackTraces by rw [X.admits.platform]).trans hl
  have Y := vx_rebase X (R' := { frames := R.frames, locals := R.locals, cells := 1, slots := 6 }) (Nat.le_refl _) (Nat.le_refl _) hRc hRs
  obtain ⟨s', hA⟩ : ∃ z, z = (T.setVm s.vm).setFrames (.invoking m args :: below) := ⟨_, rfl⟩
  rw [← hA] at Y
  have hvm : s'.vm = s.vm := by rw [hA]; rfl
  have hhp : s'.heap = H := by rw [hA]; exact hT
  have hW0 : s.WarmedH s'.vm := by rw [hvm]; exact State.WarmedH.refl s
  have hU' : vx_Zq Bundle.tN "UNASSIGNED_STACK" Bundle.steD A s' s'.heap := by rw [hhp]; exact vx_Zq.moved hW0.alike (hU.kept hS.2.1)
  have hN' : vx_Zq Bundle.tN "SUPPRESSED_SENTINEL" Bundle.listD A s' s'.heap := by rw [hhp]; exact vx_Zq.moved hW0.alike (hN.kept hS.2.1)
  have h : ∀ w ∈ Bundle.ownAtomsX own ic cls ix rx names, w.before args s' = true := vx_own (fun w hw => vx_ot_at hW0 hvm.symm (hgood w (List.mem_cons_of_mem _ (List.mem_cons_of_mem _ hw))) (hat w hw)) (vx_isRefq hU'.1) (vx_isRefq hN'.1) hU'.2.word hN'.2.word
  have hown' : s'.vm.findClass own = some m.cls := by rw [hvm]; exact hown
  obtain ⟨vm₁, cX, kX, hfX, hkX, -, -, X₁, st1⟩ := Y.newCold hexec (own := own) (C := cls) (index := ik) (n := 6) hown' (vx_ot_at hW0 hvm.symm (hgood _ List.mem_cons_self) hk) (h _ (by simp [Bundle.ownAtomsX])) (vx_ot_at hW0 hvm.symm (hgood _ (List.mem_cons_of_mem _ List.mem_cons_self)) hini)
    (g := F0 m pc ls rest) rfl (by rw [hb]; exact d0) (Nat.le_refl _) (Nat.le_refl _)
  generalize hT1 : (T.setVm vm₁).pushCell { cls := cX, slots := kX.instanceTypes.map defaultValue, vm := .none } = T1 at X₁ st1
  have hcat : (Value.ref T.heap.size).category = 1 := rfl
  have hcellA : T1.heap[T.heap.size]? = some (freshCell cX kX) := by rw [← hT1]; exact State.heap_pushCell_size _ _
  have d3' : decode c.code (pc + 3) = .ok (.dup, 1) := by rw [hb]; exact d3
  have d4' : decode c.code (pc + 4) = .ok (.ldc is, 2) := by rw [hb]; exact d4
  have hstr' : vk_R own is text sa s' := vk_R.warm hW0 hstr
  obtain ⟨U, hsteps, hrun, hend, hW, hsame, ce, hce, hO1, hO2⟩ := sx_ctor X₁ hexec htr x0 x1 x2 x5 (own := own) (cls := cls) (names := names) (ic := ic) hown' hcls hnames h (fun x hx => nomatch hx) hfX hkX hcellA (by rw [hhp, hT]; exact Nat.le_refl _) (msg := .ref sa) rfl
    (g := { method := m, pc := pc + 6, locals := ls, stack := .ref sa :: .ref T.heap.size :: .ref T.heap.size :: rest, locked := none }) rfl hsize rfl rfl (rest := rest) rfl
    (by rw [hb]; exact d6) (by rw [hb]; exact d9) hout hRf (by simp only [List.map_cons, List.sum_cons, hcat]; omega) hlocks
  obtain ⟨f1, f2⟩ := vx_frame hsame
  rw [hhp] at f1 f2
  have hWs : s.WarmedH U.vm := State.WarmedH.trans hW0 hW
  have hcl : s.vm.findClass cls = some ce.cls := by
    rw [hO1, ← hvm]
    exact hfX
  have hall : s.sameButNew ({ U with vm := s.vm } : State) locs mc ms := by
    subst hA
    obtain ⟨e1, e2⟩ := hsame
    rw [State.setFrames_setFrames] at e1
    have h2 : (T.setVm s.vm).sameButNew ({ U with vm := s.vm } : State) [] (0 + 1) (0 + 6) := ⟨e1, e2⟩
    have h3 := X.same.trans h2
    rw [List.append_nil] at h3
    exact h3.mono hc hs
  refine ⟨U, ?_, .threw T.heap.size, hrun, hend, Or.inr ⟨T.heap.size, rfl, cls, ce, locs, hx U hWs.alike f1 (fun q hq => f2 q hq (fun z hz => nomatch hz)), hce, hO2, hcl, hWs, hall, hf⟩⟩
  refine st1 _ ?_
  show Steps p.tables e below (T1.setTop { method := m, pc := pc + 3, locals := ls, stack := .ref T.heap.size :: rest, locked := none }) _
  jvm_step X₁.here [X₁.here.top, hexec, d3', Value.category]
  exact X₁.ldcString hexec (own := own) (text := text) (index := is) (a := sa) hown' hstr'.1 hstr'.2
    (g := { method := m, pc := pc + 4, locals := ls, stack := .ref T.heap.size :: .ref T.heap.size :: rest, locked := none }) rfl d4' _ hsteps
set_option maxHeartbeats 2000000 in
theorem sx_throwW {cc : ByteArray} {pc : Nat} {ls : Array Slot} {rest : List Value} {free : Addr → Prop} {Qc : Array Value → State → Outcome → State → Prop} {XC : String → State → State → Prop} (hexec : p.tables.exec = Jvm.exec) (hb : c.code = cc) (hl : l.stackTraces = false) {own cls text : String} {names : List String} {ik is ic ix mc ms sa : Nat} {rx : ByteArray} {A : Nat → Prop}
    (x0 : decode rx 0 = .ok (.aload_n 0, 1)) (x1 : decode rx 1 = .ok (.aload_n 1, 1)) (x2 : decode rx 2 = .ok (.invokespecial ix, 3)) (x5 : decode rx 5 = .ok (.return_, 1))
    (hown : s.vm.findClass own = some m.cls) (hcls : Bundle.fit cls = true) (hnames : ∀ n ∈ names, Bundle.fit n = true)
    (hk : (Cond.classLink own ik cls).before args s = true) (hini : (Cond.initialized cls).before args s = true) (hstr : vk_R own is text sa s) (hat : ∀ w ∈ sx_at own ic cls ix rx names, w.before args s = true)
    (hgood : ∀ w ∈ Cond.classLink own ik cls :: Cond.initialized cls :: sx_at own ic cls ix rx names, vx_ot w = true)
    (hU : vx_Zq Bundle.tN "UNASSIGNED_STACK" Bundle.steD A s s.heap) (hN : vx_Zq Bundle.tN "SUPPRESSED_SENTINEL" Bundle.listD A s s.heap) (hS : va_S A s.heap H locs) (hsize : ls.size = c.maxLocals)
    (d0 : decode cc pc = .ok (.new ik, 3)) (d3 : decode cc (pc + 3) = .ok (.dup, 1)) (d4 : decode cc (pc + 4) = .ok (.ldc_w is, 3)) (d6 : decode cc (pc + 7) = .ok (.invokespecial ic, 3)) (d9 : decode cc (pc + 10) = .ok (.athrow, 1))
    (hout : ∀ x ∈ c.exceptionTable.toList, covers x (pc + 10) = false)
    (hRf : names.length + 3 < R.frames) (hRl : (rest.map fun v => v.category).sum + (13 * (names.length + 1) + 43) ≤ R.locals) (hRc : cells + 1 ≤ R.cells) (hRs : slots + 6 ≤ R.slots) (hlocks : meth.locks = false)
    (hx : ∀ t : State, s.vm.Alike t.vm → H.size ≤ t.heap.size → (∀ q : Nat, q < H.size → t.heap[q]? = H[q]?) → XC cls s t)
    (hf : ∀ z ∈ locs, free z.base) (hc : cells + 1 ≤ mc) (hs : slots + 6 ≤ ms) :
    W p l e R s m args below meth c H locs cells slots (vx_MQ below Qc XC args s mc ms free) (F0 m pc ls rest) := by
  intro T hT X
  have htr : e.platform.stackTraces = false := (show e.platform.stackTraces = l.stackTraces by rw [X.admits.platform]).trans hl
  have Y := vx_rebase X (R' := { frames := R.frames, locals := R.locals, cells := 1, slots := 6 }) (Nat.le_refl _) (Nat.le_refl _) hRc hRs
  obtain ⟨s', hA⟩ : ∃ z, z = (T.setVm s.vm).setFrames (.invoking m args :: below) := ⟨_, rfl⟩
  rw [← hA] at Y
  have hvm : s'.vm = s.vm := by rw [hA]; rfl
  have hhp : s'.heap = H := by rw [hA]; exact hT
  have hW0 : s.WarmedH s'.vm := by rw [hvm]; exact State.WarmedH.refl s
  have hU' : vx_Zq Bundle.tN "UNASSIGNED_STACK" Bundle.steD A s' s'.heap := by rw [hhp]; exact vx_Zq.moved hW0.alike (hU.kept hS.2.1)
  have hN' : vx_Zq Bundle.tN "SUPPRESSED_SENTINEL" Bundle.listD A s' s'.heap := by rw [hhp]; exact vx_Zq.moved hW0.alike (hN.kept hS.2.1)
  have h : ∀ w ∈ Bundle.ownAtomsX own ic cls ix rx names, w.before args s' = true := vx_own (fun w hw => vx_ot_at hW0 hvm.symm (hgood w (List.mem_cons_of_mem _ (List.mem_cons_of_mem _ hw))) (hat w hw)) (vx_isRefq hU'.1) (vx_isRefq hN'.1) hU'.2.word hN'.2.word
  have hown' : s'.vm.findClass own = some m.cls := by rw [hvm]; exact hown
  obtain ⟨vm₁, cX, kX, hfX, hkX, -, -, X₁, st1⟩ := Y.newCold hexec (own := own) (C := cls) (index := ik) (n := 6) hown' (vx_ot_at hW0 hvm.symm (hgood _ List.mem_cons_self) hk) (h _ (by simp [Bundle.ownAtomsX])) (vx_ot_at hW0 hvm.symm (hgood _ (List.mem_cons_of_mem _ List.mem_cons_self)) hini)
    (g := F0 m pc ls rest) rfl (by rw [hb]; exact d0) (Nat.le_refl _) (Nat.le_refl _)
  generalize hT1 : (T.setVm vm₁).pushCell { cls := cX, slots := kX.instanceTypes.map defaultValue, vm := .none } = T1 at X₁ st1
  have hcat : (Value.ref T.heap.size).category = 1 := rfl
  have hcellA : T1.heap[T.heap.size]? = some (freshCell cX kX) := by rw [← hT1]; exact State.heap_pushCell_size _ _
  have d3' : decode c.code (pc + 3) = .ok (.dup, 1) := by rw [hb]; exact d3
  have d4' : decode c.code (pc + 4) = .ok (.ldc_w is, 3) := by rw [hb]; exact d4
  have hstr' : vk_R own is text sa s' := vk_R.warm hW0 hstr
  obtain ⟨U, hsteps, hrun, hend, hW, hsame, ce, hce, hO1, hO2⟩ := sx_ctor X₁ hexec htr x0 x1 x2 x5 (own := own) (cls := cls) (names := names) (ic := ic) hown' hcls hnames h (fun x hx => nomatch hx) hfX hkX hcellA (by rw [hhp, hT]; exact Nat.le_refl _) (msg := .ref sa) rfl
    (g := { method := m, pc := pc + 7, locals := ls, stack := .ref sa :: .ref T.heap.size :: .ref T.heap.size :: rest, locked := none }) rfl hsize rfl rfl (rest := rest) rfl
    (by rw [hb]; exact d6) (by rw [hb]; exact d9) hout hRf (by simp only [List.map_cons, List.sum_cons, hcat]; omega) hlocks
  obtain ⟨f1, f2⟩ := vx_frame hsame
  rw [hhp] at f1 f2
  have hWs : s.WarmedH U.vm := State.WarmedH.trans hW0 hW
  have hcl : s.vm.findClass cls = some ce.cls := by
    rw [hO1, ← hvm]
    exact hfX
  have hall : s.sameButNew ({ U with vm := s.vm } : State) locs mc ms := by
    subst hA
    obtain ⟨e1, e2⟩ := hsame
    rw [State.setFrames_setFrames] at e1
    have h2 : (T.setVm s.vm).sameButNew ({ U with vm := s.vm } : State) [] (0 + 1) (0 + 6) := ⟨e1, e2⟩
    have h3 := X.same.trans h2
    rw [List.append_nil] at h3
    exact h3.mono hc hs
  refine ⟨U, ?_, .threw T.heap.size, hrun, hend, Or.inr ⟨T.heap.size, rfl, cls, ce, locs, hx U hWs.alike f1 (fun q hq => f2 q hq (fun z hz => nomatch hz)), hce, hO2, hcl, hWs, hall, hf⟩⟩
  refine st1 _ ?_
  show Steps p.tables e below (T1.setTop { method := m, pc := pc + 3, locals := ls, stack := .ref T.heap.size :: rest, locked := none }) _
  jvm_step X₁.here [X₁.here.top, hexec, d3', Value.category]
  exact X₁.ldcStringW hexec (own := own) (text := text) (index := is) (a := sa) hown' hstr'.1 hstr'.2
    (g := { method := m, pc := pc + 4, locals := ls, stack := .ref T.heap.size :: .ref T.heap.size :: rest, locked := none }) rfl d4' _ hsteps
end SXT
theorem nx_0 : decode prog_27_method_4_code 0 = .ok (.aload_n 0, 1) := by decide +kernel
theorem nx_1 : decode prog_27_method_4_code 1 = .ok (.aload_n 1, 1) := by decide +kernel
theorem nx_2 : decode prog_27_method_4_code 2 = .ok (.invokespecial 13, 3) := by decide +kernel
theorem nx_5 : decode prog_27_method_4_code 5 = .ok (.return_, 1) := by decide +kernel
def nseN : String := "java/util/NoSuchElementException"
def nseC : List String := ["java/lang/RuntimeException", "java/lang/Exception"]
abbrev nseW : List Cond := sx_at RX11 144 nseN 13 prog_27_method_4_code nseC
/-- the words of the throw that a warmed machine keeps by rows of their own -/
def XW : List Cond := [.castable nseN nseN, .declares (Bundle.initS "java/lang/RuntimeException"), .declares (Bundle.initS "java/lang/Exception"), .declares (Bundle.initS "java/lang/Throwable")]
theorem nseW_good : ∀ w ∈ nseW.filter goodWord, w ∈ lw_tbl := by decide +kernel
theorem nseW_rest : ∀ w ∈ nseW.filter (fun w => !goodWord w), w ∈ XW := by decide +kernel
theorem nseW_ot : ∀ w ∈ Cond.classLink RX11 140 nseN :: Cond.initialized nseN :: nseW, vx_ot w = true := by decide +kernel
theorem XW_tbl : ∀ w ∈ XW, w ∈ lw_tbl := by decide +kernel
abbrev KX : Type := Nat × Nat × Nat × Nat
/-- what a throw needs beside the cells -/
def gx (kx : KX) (A : Nat → Prop) (U : State) (H : Heap) : Prop := (vk_R RX11 142 "no such component" kx.1 U ∧ vk_R RX11 168 "no such thing is told of a component" kx.2.1 U ∧ vk_R RX11 252 "no such object" kx.2.2.1 U ∧ vk_R RX11 262 "no such thing is told of an object" kx.2.2.2 U) ∧ (vx_Zq Bundle.tN "UNASSIGNED_STACK" Bundle.steD A U H ∧ vx_Zq Bundle.tN "SUPPRESSED_SENTINEL" Bundle.listD A U H) ∧ ∀ w ∈ XW, va_Nw w U
theorem xw_warm {s U : State} (hW : s.WarmedH U.vm) (h : ∀ w ∈ XW, va_Nw w s) : ∀ w ∈ XW, va_Nw w U := by
  intro w hw
  have h1 := h w hw
  simp only [XW, List.mem_cons, List.not_mem_nil, or_false] at hw
  rcases hw with rfl | rfl | rfl | rfl
  · exact va_Nw.warmC hW h1
  · exact va_Nw.warmD hW h1
  · exact va_Nw.warmD hW h1
  · exact va_Nw.warmD hW h1
theorem xw_on : ∀ w ∈ XW, w.onTables = true := by decide +kernel
theorem gx.warm {kx : KX} {A : Nat → Prop} {s U : State} {H : Heap} (hW : s.WarmedH U.vm) (h : gx kx A s H) : gx kx A U H := by
  obtain ⟨⟨h1, h2, h6, h7⟩, ⟨h3, h4⟩, h5⟩ := h
  exact ⟨⟨h1.warm hW, h2.warm hW, h6.warm hW, h7.warm hW⟩, ⟨h3.moved hW.alike, h4.moved hW.alike⟩, xw_warm hW h5⟩
theorem gx.same {kx : KX} {A : Nat → Prop} {s U : State} {H : Heap} (h0 : U.vm = s.vm) (h : gx kx A s H) : gx kx A U H := by
  obtain ⟨⟨h1, h2, h6, h7⟩, ⟨h3, h4⟩, h5⟩ := h
  have hv : s.vm.Alike U.vm := by rw [h0]; exact Vm.Alike.refl s.vm
  exact ⟨⟨h1.same h0, h2.same h0, h6.same h0, h7.same h0⟩, ⟨h3.moved hv, h4.moved hv⟩, fun w hw => va_Nw.same (xw_on w hw) h0.symm (h5 w hw)⟩
theorem gx.kept {kx : KX} {A : Nat → Prop} {U : State} {H H1 : Heap} (h : gx kx A U H) (hq : ∀ a : Nat, a < H.size → ¬ A a → H1[a]? = H[a]?) : gx kx A U H1 := by
  obtain ⟨h1, ⟨h3, h4⟩, h5⟩ := h
  exact ⟨h1, ⟨h3.kept hq, h4.kept hq⟩, h5⟩
theorem gx.narrow {kx : KX} {A B : Nat → Prop} {U : State} {H : Heap} (h : gx kx A U H) (hAB : ∀ q, B q → A q) : gx kx B U H := by
  obtain ⟨h1, ⟨h3, h4⟩, h5⟩ := h
  exact ⟨h1, ⟨h3.narrow hAB, h4.narrow hAB⟩, h5⟩
/-- a contract's start, with what a throw needs -/
def gpx (D : va_G) (ks : KS) (kx : KX) (ws : va_W) (tys : List (ClassId × FieldType)) (sz : Nat) (U : State) : Prop := gp D ks ws tys sz U ∧ gx kx (va_A ws sz) U U.heap
theorem gpx_blind {av : List Value} {D : va_G} {ks : KS} {kx : KX} {ws : va_W} {tys : List (ClassId × FieldType)} {sz : Nat} : FrameBlind (va_Pc av (gpx D ks kx ws tys sz)) := by
  intro a U g mk h
  obtain ⟨h0, h1, h2⟩ := h
  exact ⟨h0, (gp_blind (av := av) a U g mk ⟨h0, h1⟩).2, gx.same (s := U) (U := U.calling g mk a) rfl h2⟩
section GXT
variable {p : Program} {l : Launch} {e : Env} {R : Room} {s : State} {m : MethodId} {args : Array Value} {below : List Frame} {meth : Method} {c : Code} {H : Heap} {locs : List Loc} {cells slots : Nat} {Q : State → Prop}
variable {cc : ByteArray} {pc : Nat} {ls : Array Slot} {st0 rest : List Value} {D : va_G} {ks : KS} {kx : KX} {A : Nat → Prop} {tys tc tr : List (ClassId × FieldType)} {ws wc wr : va_W}
/-- the throw itself -/
theorem g_throw {XC : String → State → State → Prop} {text : String} {is sa mc ms : Nat} {Qc : Array Value → State → Outcome → State → Prop} (hx : p.tables.exec = Jvm.exec) (hb : c.code = cc) (hst : l.stackTraces = false) (hown : s.vm.findClass RX11 = some m.cls) (hg : ∀ w ∈ GW, w.before args s = true) (hk : Cond.classLink RX11 140 nseN ∈ GW) (hi : Cond.initialized nseN ∈ GW) (hgx : gx kx A s s.heap) (hstr : vk_R RX11 is text sa s) (hP : va_P D vwCl ws H) (hD : va_D A ws) (hK : va_K D vwCl tys s) (hS : va_S A s.heap H locs) (hsize : ls.size = c.maxLocals)
    (d0 : decode cc pc = .ok (.new 140, 3)) (d3 : decode cc (pc + 3) = .ok (.dup, 1)) (d4 : decode cc (pc + 4) = .ok (.ldc is, 2)) (d6 : decode cc (pc + 6) = .ok (.invokespecial 144, 3)) (d9 : decode cc (pc + 9) = .ok (.athrow, 1)) (hnt : ∀ x ∈ c.exceptionTable.toList, False)
    (h1 : 6 ≤ R.frames) (h2 : 82 ≤ R.locals) (h3 : cells + 1 ≤ R.cells) (h4 : slots + 6 ≤ R.slots) (hlocks : meth.locks = false) (hc : cells + 1 ≤ mc) (hs : slots + 6 ≤ ms) :
    W p l e R s m args below meth c H locs cells slots (vx_MQ below Qc (vx_X (fun _ : Unit => True) (fun E _ t => E = nseN ∧ gq D A ws tys t) A) args s mc ms A) (F0 m pc ls []) := by
  refine sx_throw (A := A) (names := nseC) hx hb hst nx_0 nx_1 nx_2 nx_5 hown (by decide) (by decide) (hg _ hk) (hg _ hi) hstr ?_ nseW_ot hgx.2.1.1 hgx.2.1.2 hS hsize d0 d3 d4 d6 d9 (fun x h => (hnt x h).elim) (Nat.lt_of_lt_of_le (by decide) h1) (Nat.le_trans (by decide) h2) h3 h4 hlocks ?_ hS.2.2 hc hs
  · exact vx_hat (fun w h => hg w (List.mem_filter.mpr ⟨nseW_good w h, (List.mem_filter.mp h).2⟩)) nseW_rest (fun w h => va_Nw.use (xw_on w h) (hgx.2.2 w h))
  · intro t hal hsz hkeep
    exact ⟨(), trivial, ⟨rfl, gE_keep hP (fun q hq _ => hkeep q hq), va_K.moved hal hK, hD⟩, Nat.le_trans hS.1 hsz, fun q h2 h3 => (hkeep q (Nat.lt_of_lt_of_le h2 hS.1)).trans (hS.2.1 q h2 h3)⟩
theorem g_throwW {XC : String → State → State → Prop} {text : String} {is sa mc ms : Nat} {Qc : Array Value → State → Outcome → State → Prop} (hx : p.tables.exec = Jvm.exec) (hb : c.code = cc) (hst : l.stackTraces = false) (hown : s.vm.findClass RX11 = some m.cls) (hg : ∀ w ∈ GW, w.before args s = true) (hk : Cond.classLink RX11 140 nseN ∈ GW) (hi : Cond.initialized nseN ∈ GW) (hgx : gx kx A s s.heap) (hstr : vk_R RX11 is text sa s) (hP : va_P D vwCl ws H) (hD : va_D A ws) (hK : va_K D vwCl tys s) (hS : va_S A s.heap H locs) (hsize : ls.size = c.maxLocals)
    (d0 : decode cc pc = .ok (.new 140, 3)) (d3 : decode cc (pc + 3) = .ok (.dup, 1)) (d4 : decode cc (pc + 4) = .ok (.ldc_w is, 3)) (d6 : decode cc (pc + 7) = .ok (.invokespecial 144, 3)) (d9 : decode cc (pc + 10) = .ok (.athrow, 1)) (hnt : ∀ x ∈ c.exceptionTable.toList, False)
    (h1 : 6 ≤ R.frames) (h2 : 82 ≤ R.locals) (h3 : cells + 1 ≤ R.cells) (h4 : slots + 6 ≤ R.slots) (hlocks : meth.locks = false) (hc : cells + 1 ≤ mc) (hs : slots + 6 ≤ ms) :
    W p l e R s m args below meth c H locs cells slots (vx_MQ below Qc (vx_X (fun _ : Unit => True) (fun E _ t => E = nseN ∧ gq D A ws tys t) A) args s mc ms A) (F0 m pc ls []) := by
  refine sx_throwW (A := A) (names := nseC) hx hb hst nx_0 nx_1 nx_2 nx_5 hown (by decide) (by decide) (hg _ hk) (hg _ hi) hstr ?_ nseW_ot hgx.2.1.1 hgx.2.1.2 hS hsize d0 d3 d4 d6 d9 (fun x h => (hnt x h).elim) (Nat.lt_of_lt_of_le (by decide) h1) (Nat.le_trans (by decide) h2) h3 h4 hlocks ?_ hS.2.2 hc hs
  · exact vx_hat (fun w h => hg w (List.mem_filter.mpr ⟨nseW_good w h, (List.mem_filter.mp h).2⟩)) nseW_rest (fun w h => va_Nw.use (xw_on w h) (hgx.2.2 w h))
  · intro t hal hsz hkeep
    exact ⟨(), trivial, ⟨rfl, gE_keep hP (fun q hq _ => hkeep q hq), va_K.moved hal hK, hD⟩, Nat.le_trans hS.1 hsz, fun q h2 h3 => (hkeep q (Nat.lt_of_lt_of_le h2 hS.1)).trans (hS.2.1 q h2 h3)⟩
theorem gpxA_cut (hP : va_P D vwCl ws H) (hD : va_D A ws) (hK : va_K D vwCl tys s) (hS : va_S A s.heap H locs) (hA : ∀ q, s.heap.size ≤ q → A q) (hnw : nw s) (hgk : gk ks A s s.heap) (hgx : gx kx A s s.heap) {av : List Value} : ∀ U : State, U.heap = H → s.WarmedH U.vm → va_Pc av (gpx D ks kx ws tys H.size) av.toArray U := by
  intro U hU hW
  have h1 := gA_cut hP hD hK hS hA hnw hgk (av := av) U hU hW
  refine ⟨rfl, h1.2, ?_⟩
  rw [hU]
  exact ((hgx.kept hS.2.1).narrow (gA_free hD hS hA)).warm hW
theorem gA_runX {y : MethodName} {bytes : ByteArray} {maxL nL n index : Nat} {ret : Option FieldType} {rm : Room} {Qc : Array Value → State → Outcome → State → Prop} {XC : String → State → State → Prop} {own C : String} {b : Addr} {As : List Value} {Tf : u_T} {Nf ci q0 : Nat} {fs : List Value}
    (hx : p.tables.exec = Jvm.exec) (hb : c.code = cc) (hml : c.maxLocals = nL) (hown : s.vm.findClass own = some m.cls) (hg : ∀ w ∈ GW, w.before args s = true) (hP : va_P D vwCl ws H) (hD : va_D A ws) (hK : va_K D vwCl tys s) (hS : va_S A s.heap H locs) (hA : ∀ q, s.heap.size ≤ q → A q) (hnw : nw s) (hgk : gk ks A s s.heap) (hgx : gx kx A s s.heap)
    (hM : vx_Met l y (Cond.code y bytes maxL ret :: GW) rm (va_Pc (.ref b :: As) (gpx D ks kx ws tys H.size)) Qc XC rm.cells rm.slots (va_A ws H.size))
    (w1 : Cond.methodLink own index y ∈ GW) (w2 : Cond.instanceMethod y ∈ GW) (w3 : Cond.selects C y y ∈ GW) (w4 : Cond.initialized C ∈ GW) (w5 : Cond.code y bytes maxL ret ∈ GW) (hc : vwCl[ci]? = some (C, Tf, Nf)) (he : ws[q0]? = some (b, .inr (ci, fs)))
    (hd : y.cls = C ∧ y.cls ≠ "java/lang/invoke/MethodHandle" ∧ y.cls ≠ "java/lang/invoke/VarHandle" ∧ (parseMethodDescriptor y.desc).map (fun d => d.parameters.length) = some n) (hR : rm.frames + 1 ≤ R.frames ∧ 8 + (maxL + 11) + rm.locals ≤ R.locals)
    (hn2 : As.length = n) (hsize : ls.size = nL) (hst : st0 = As.reverse ++ .ref b :: rest) (hW : (rest.map fun v => v.category).sum ≤ 8) (hdg : decode cc pc = .ok (.invokevirtual index, 3)) (hf : cells + rm.cells ≤ R.cells ∧ slots + rm.slots ≤ R.slots) :
    vx_Run p l e R s m args below meth c H locs cells slots rm.cells rm.slots (F0 m pc ls st0) rest (Qc (Value.ref b :: As).toArray) XC (va_A ws H.size) :=
  vx_runV (As := As) (rest := rest) ⟨hx, hb, hml, hown, hg⟩ hM (cwV n hg (gw_good gw_self (gw_cons w1 (gw_cons w2 (gw_cons w3 (gw_cons w4 (gw_cons w5 gw_self)))))) rfl rfl rfl hd hR) ⟨gpx_blind, va_recv hK hP hc he, gpxA_cut hP hD hK hS hA hnw hgk hgx⟩ rfl hn2 hsize hst (lv_room hW) hdg hf
theorem gA_runSW {y : MethodName} {bytes : ByteArray} {maxL nL n index : Nat} {ret : Option FieldType} {hh : List (Nat × Nat × Nat × Nat)} {rm : Room} {Qc : Array Value → State → Outcome → State → Prop} {own : String} {As : List Value}
    (hx : p.tables.exec = Jvm.exec) (hb : c.code = cc) (hml : c.maxLocals = nL) (hown : s.vm.findClass own = some m.cls) (hg : ∀ w ∈ GW, w.before args s = true) (hP : va_P D vwCl ws H) (hD : va_D A ws) (hK : va_K D vwCl tys s) (hS : va_S A s.heap H locs) (hA : ∀ q, s.heap.size ≤ q → A q) (hnw : nw s) (hgk : gk ks A s s.heap) (hgx : gx kx A s s.heap)
    (hM : Met l y (Cond.codeWith y bytes maxL ret hh :: GW) rm (va_Pc As (gpx D ks kx ws tys H.size)) Qc rm.cells rm.slots (va_A ws H.size))
    (w1 : Cond.methodLink own index y ∈ GW) (w2 : Cond.static y ∈ GW) (w4 : Cond.initialized y.cls ∈ GW) (w5 : Cond.codeWith y bytes maxL ret hh ∈ GW)
    (hd : y.cls ≠ "java/lang/invoke/MethodHandle" ∧ y.cls ≠ "java/lang/invoke/VarHandle" ∧ (parseMethodDescriptor y.desc).map (fun d => d.parameters.length) = some n) (hR : rm.frames + 1 ≤ R.frames ∧ 8 + (maxL + 11) + rm.locals ≤ R.locals)
    (hn2 : As.length = n) (hsize : ls.size = nL) (hst : st0 = As.reverse ++ rest) (hW : (rest.map fun v => v.category).sum ≤ 8) (hdg : decode cc pc = .ok (.invokestatic index, 3)) (hf : cells + rm.cells ≤ R.cells ∧ slots + rm.slots ≤ R.slots) :
    va_Run p l e R s m args below meth c H locs cells slots rm.cells rm.slots (F0 m pc ls st0) rest (Qc As.toArray) (va_A ws H.size) :=
  vx_runSW (As := As) (rest := rest) (hh := hh) ⟨hx, hb, hml, hown, hg⟩ hM (vx_cwSW n hg (gw_good gw_self (gw_cons w1 (gw_cons w2 (gw_cons w4 (gw_cons w5 gw_self))))) rfl rfl rfl hd hR) ⟨gpx_blind, gpxA_cut hP hD hK hS hA hnw hgk hgx⟩ rfl hn2 hsize hst (lv_room hW) hdg hf
end GXT
/-- a contract of a method that throws, out of a walk -/
theorem g_metX {l : Launch} {y : MethodName} {cc : ByteArray} {maxL : Nat} {ret : Option FieldType} {rm : Room} {av : List Value} {D : va_G} {ks : KS} {kx : KX} {ws : va_W} {tys : List (ClassId × FieldType)} {sz : Nat} {mc ms : Nat} (QQ : (Nat → Prop) → Array Value → State → Outcome → State → Prop) (XX : (Nat → Prop) → String → State → State → Prop) (hy : plainName y.cls = true) (hav : (lg_sl av).length ≤ maxL)
    (k : ∀ (p : Program) (e : Env) (s : State) (m : MethodId) (below : List Frame) (meth : Method) (c : Code) (A : Nat → Prop) (ls : Array Slot) (H : Heap) (locs : List Loc), p.tables.exec = Jvm.exec → c.code = cc → meth.sig.returnType = ret → c.maxLocals = maxL → s.vm.findClass y.cls = some m.cls → (∀ w ∈ GW, w.before av.toArray s = true) → meth.locks = false → nw s → gk ks A s s.heap → gx kx A s s.heap → (∀ x ∈ c.exceptionTable.toList, False) →
      va_P D vwCl ws H → va_K D vwCl tys s → va_D A ws → va_S A s.heap H locs → (∀ q, s.heap.size ≤ q → A q) → lv_has ls maxL (lv_args 0 av) → W p l e rm s m av.toArray below meth c H locs 0 0 (vx_MQ below (QQ A) (XX A) av.toArray s mc ms A) (F0 m 0 ls [])) :
    vx_Met l y (Cond.code y cc maxL ret :: GW) rm (va_Pc av (gpx D ks kx ws tys sz)) (QQ (va_A ws sz)) (XX (va_A ws sz)) mc ms (va_A ws sz) := by
  refine vx_ofW (cc := cc) (maxL := maxL) (ret := ret) hy rfl ?_
  intro p e s m args below meth c s₁ B hml hnt hv
  obtain ⟨rfl, ⟨hsz, hnw, hgk, hP, hK, hD0⟩, hgx⟩ := hv
  have hl := lv_entry av (n := maxL) hav
  rw [lg_entry_eq]
  exact k p e s m below meth c (va_A ws sz) _ s.heap [] B.exec B.bytes B.returns hml (findClass_of_methodNamed B.named) (fun w h => atoms_spec (ws := Cond.code y cc maxL ret :: GW) B.pre w (List.mem_cons_of_mem _ h)) B.notSynchronized hnw hgk hgx hnt hP hK hD0.self va_S.rf (fun q h => Or.inr (by rw [← hsz]; exact h)) hl
/-- a contract of a method with a table of handlers, that returns -/
theorem g_metW {l : Launch} {y : MethodName} {cc : ByteArray} {maxL : Nat} {ret : Option FieldType} {hh : List (Nat × Nat × Nat × Nat)} {rm : Room} {av : List Value} {D : va_G} {ks : KS} {kx : KX} {ws : va_W} {tys : List (ClassId × FieldType)} {sz : Nat} {mc ms : Nat} (QQ : (Nat → Prop) → Array Value → State → Outcome → State → Prop) (hy : plainName y.cls = true) (hav : (lg_sl av).length ≤ maxL)
    (k : ∀ (p : Program) (e : Env) (s : State) (m : MethodId) (below : List Frame) (meth : Method) (c : Code) (A : Nat → Prop) (ls : Array Slot) (H : Heap) (locs : List Loc), p.tables.exec = Jvm.exec → c.code = cc → meth.sig.returnType = ret → c.maxLocals = maxL → s.vm.findClass y.cls = some m.cls → (∀ w ∈ GW, w.before av.toArray s = true) → meth.locks = false → nw s → gk ks A s s.heap → gx kx A s s.heap → c.exceptionTable.toList = tableOf hh →
      va_P D vwCl ws H → va_K D vwCl tys s → va_D A ws → va_S A s.heap H locs → (∀ q, s.heap.size ≤ q → A q) → lv_has ls maxL (lv_args 0 av) → W p l e rm s m av.toArray below meth c H locs 0 0 (MQ below (QQ A) av.toArray s mc ms A) (F0 m 0 ls [])) :
    Met l y (Cond.codeWith y cc maxL ret hh :: GW) rm (va_Pc av (gpx D ks kx ws tys sz)) (QQ (va_A ws sz)) mc ms (va_A ws sz) := by
  refine va_MetW (cc := cc) (maxL := maxL) (ret := ret) (hh := hh) hy rfl ?_
  intro p e s m args below meth c s₁ B hml hv
  obtain ⟨rfl, ⟨hsz, hnw, hgk, hP, hK, hD0⟩, hgx⟩ := hv
  have hl := lv_entry av (n := maxL) hav
  have hT := vx_table (x := y) B (atoms_spec (ws := Cond.codeWith y cc maxL ret hh :: GW) B.pre _ List.mem_cons_self)
  rw [lg_entry_eq]
  exact k p e s m below meth c (va_A ws sz) _ s.heap [] B.exec B.bytes B.returns hml (findClass_of_methodNamed B.named) (fun w h => atoms_spec (ws := Cond.codeWith y cc maxL ret hh :: GW) B.pre w (List.mem_cons_of_mem _ h)) B.notSynchronized hnw hgk hgx hT hP hK hD0.self va_S.rf (fun q h => Or.inr (by rw [← hsz]; exact h)) hl

theorem n530 : lw_tbl[530]? = some (Cond.fieldLinkNest RX11 156 "WiringHouse$Component" "rank" "I" "WiringHouse") := la9 (n := 155) (i := 375) lz9 (la9 (n := 240) (i := 135) ln9_1 (lb9 (i := 135) (by decide +kernel)))
theorem n526 : lw_tbl[526]? = some (Cond.fieldLinkNest RX11 165 "WiringHouse$Component" "calledWord" "I" "WiringHouse") := la9 (n := 155) (i := 371) lz9 (la9 (n := 240) (i := 131) ln9_1 (lb9 (i := 131) (by decide +kernel)))
theorem w1605 : Cond.classLink RX11 140 nseN ∈ GW := gw_k tk9_7 10 (by decide +kernel) rfl
theorem w179 : Cond.initialized nseN ∈ GW := gw_k tk9_1 24 (by decide +kernel) rfl
theorem w1678 : Cond.methodLink RX11 251 yX8_has ∈ GW := gw_k tk9_7 83 (by decide +kernel) rfl
theorem n380 : lw_tbl[380]? = some (Cond.fieldLinkNest RX11 254 "WiringHouse$Stock" "components" "[I" "WiringHouse") := la9 (n := 155) (i := 225) lz9 (lb9 (i := 225) (by decide +kernel))
theorem n383 : lw_tbl[383]? = some (Cond.fieldLinkNest RX11 256 "WiringHouse$Stock" "places" "[I" "WiringHouse") := la9 (n := 155) (i := 228) lz9 (lb9 (i := 228) (by decide +kernel))
theorem n385 : lw_tbl[385]? = some (Cond.fieldLinkNest RX11 259 "WiringHouse$Stock" "states" "[I" "WiringHouse") := la9 (n := 155) (i := 230) lz9 (lb9 (i := 230) (by decide +kernel))
theorem dk9_dX11_component_0_0 : dOk cX11_component [(0, .aload_n 0, 1), (1, .getfield 49, 3), (4, .iload_n 1, 1), (5, .invokevirtual 136, 3), (8, .ifCond .ne 13, 3), (21, .aload_n 0, 1), (22, .getfield 49, 3), (25, .getfield 147, 3), (28, .iload_n 1, 1), (29, .aaload, 1), (30, .astore_n 3, 1), (31, .iload_n 2, 1), (32, .tableswitch 73 0 4 #[36, 41, 46, 63, 68], 36), (68, .aload_n 3, 1), (69, .getfield 151, 3), (72, .ireturn, 1), (73, .aload_n 3, 1), (74, .getfield 156, 3), (77, .ireturn, 1), (78, .aload_n 0, 1), (79, .getfield 49, 3), (82, .iload_n 1, 1), (83, .invokevirtual 159, 3), (86, .ifCond .eq 7, 3)] = true ∧ dOk cX11_component [(93, .iconst 0, 1), (94, .ireturn, 1), (89, .iconst 1, 1), (90, .goto 4, 3), (95, .aload_n 3, 1), (96, .getfield 162, 3), (99, .ireturn, 1), (100, .aload_n 3, 1), (101, .getfield 165, 3), (104, .ireturn, 1), (105, .new 140, 3), (108, .dup, 1), (109, .ldc 168, 2), (111, .invokespecial 144, 3), (114, .athrow, 1), (11, .new 140, 3), (14, .dup, 1), (15, .ldc 142, 2), (17, .invokespecial 144, 3), (20, .athrow, 1)] = true := by decide +kernel
theorem dX11_component_0 : decode cX11_component 0 = .ok (.aload_n 0, 1) := dr9 dk9_dX11_component_0_0.1 0 (0, .aload_n 0, 1) rfl
theorem dX11_component_1 : decode cX11_component 1 = .ok (.getfield 49, 3) := dr9 dk9_dX11_component_0_0.1 1 (1, .getfield 49, 3) rfl
theorem dX11_component_4 : decode cX11_component 4 = .ok (.iload_n 1, 1) := dr9 dk9_dX11_component_0_0.1 2 (4, .iload_n 1, 1) rfl
theorem dX11_component_5 : decode cX11_component 5 = .ok (.invokevirtual 136, 3) := dr9 dk9_dX11_component_0_0.1 3 (5, .invokevirtual 136, 3) rfl
theorem dX11_component_8 : decode cX11_component 8 = .ok (.ifCond .ne 13, 3) := dr9 dk9_dX11_component_0_0.1 4 (8, .ifCond .ne 13, 3) rfl
theorem dX11_component_21 : decode cX11_component 21 = .ok (.aload_n 0, 1) := dr9 dk9_dX11_component_0_0.1 5 (21, .aload_n 0, 1) rfl
theorem dX11_component_22 : decode cX11_component 22 = .ok (.getfield 49, 3) := dr9 dk9_dX11_component_0_0.1 6 (22, .getfield 49, 3) rfl
theorem dX11_component_25 : decode cX11_component 25 = .ok (.getfield 147, 3) := dr9 dk9_dX11_component_0_0.1 7 (25, .getfield 147, 3) rfl
theorem dX11_component_28 : decode cX11_component 28 = .ok (.iload_n 1, 1) := dr9 dk9_dX11_component_0_0.1 8 (28, .iload_n 1, 1) rfl
theorem dX11_component_29 : decode cX11_component 29 = .ok (.aaload, 1) := dr9 dk9_dX11_component_0_0.1 9 (29, .aaload, 1) rfl
theorem dX11_component_30 : decode cX11_component 30 = .ok (.astore_n 3, 1) := dr9 dk9_dX11_component_0_0.1 10 (30, .astore_n 3, 1) rfl
theorem dX11_component_31 : decode cX11_component 31 = .ok (.iload_n 2, 1) := dr9 dk9_dX11_component_0_0.1 11 (31, .iload_n 2, 1) rfl
theorem dX11_component_32 : decode cX11_component 32 = .ok (.tableswitch 73 0 4 #[36, 41, 46, 63, 68], 36) := dr9 dk9_dX11_component_0_0.1 12 (32, .tableswitch 73 0 4 #[36, 41, 46, 63, 68], 36) rfl
theorem dX11_component_68 : decode cX11_component 68 = .ok (.aload_n 3, 1) := dr9 dk9_dX11_component_0_0.1 13 (68, .aload_n 3, 1) rfl
theorem dX11_component_69 : decode cX11_component 69 = .ok (.getfield 151, 3) := dr9 dk9_dX11_component_0_0.1 14 (69, .getfield 151, 3) rfl
theorem dX11_component_72 : decode cX11_component 72 = .ok (.ireturn, 1) := dr9 dk9_dX11_component_0_0.1 15 (72, .ireturn, 1) rfl
theorem dX11_component_73 : decode cX11_component 73 = .ok (.aload_n 3, 1) := dr9 dk9_dX11_component_0_0.1 16 (73, .aload_n 3, 1) rfl
theorem dX11_component_74 : decode cX11_component 74 = .ok (.getfield 156, 3) := dr9 dk9_dX11_component_0_0.1 17 (74, .getfield 156, 3) rfl
theorem dX11_component_77 : decode cX11_component 77 = .ok (.ireturn, 1) := dr9 dk9_dX11_component_0_0.1 18 (77, .ireturn, 1) rfl
theorem dX11_component_78 : decode cX11_component 78 = .ok (.aload_n 0, 1) := dr9 dk9_dX11_component_0_0.1 19 (78, .aload_n 0, 1) rfl
theorem dX11_component_79 : decode cX11_component 79 = .ok (.getfield 49, 3) := dr9 dk9_dX11_component_0_0.1 20 (79, .getfield 49, 3) rfl
theorem dX11_component_82 : decode cX11_component 82 = .ok (.iload_n 1, 1) := dr9 dk9_dX11_component_0_0.1 21 (82, .iload_n 1, 1) rfl
theorem dX11_component_83 : decode cX11_component 83 = .ok (.invokevirtual 159, 3) := dr9 dk9_dX11_component_0_0.1 22 (83, .invokevirtual 159, 3) rfl
theorem dX11_component_86 : decode cX11_component 86 = .ok (.ifCond .eq 7, 3) := dr9 dk9_dX11_component_0_0.1 23 (86, .ifCond .eq 7, 3) rfl
theorem dX11_component_93 : decode cX11_component 93 = .ok (.iconst 0, 1) := dr9 dk9_dX11_component_0_0.2 0 (93, .iconst 0, 1) rfl
theorem dX11_component_94 : decode cX11_component 94 = .ok (.ireturn, 1) := dr9 dk9_dX11_component_0_0.2 1 (94, .ireturn, 1) rfl
theorem dX11_component_89 : decode cX11_component 89 = .ok (.iconst 1, 1) := dr9 dk9_dX11_component_0_0.2 2 (89, .iconst 1, 1) rfl
theorem dX11_component_90 : decode cX11_component 90 = .ok (.goto 4, 3) := dr9 dk9_dX11_component_0_0.2 3 (90, .goto 4, 3) rfl
theorem dX11_component_95 : decode cX11_component 95 = .ok (.aload_n 3, 1) := dr9 dk9_dX11_component_0_0.2 4 (95, .aload_n 3, 1) rfl
theorem dX11_component_96 : decode cX11_component 96 = .ok (.getfield 162, 3) := dr9 dk9_dX11_component_0_0.2 5 (96, .getfield 162, 3) rfl
theorem dX11_component_99 : decode cX11_component 99 = .ok (.ireturn, 1) := dr9 dk9_dX11_component_0_0.2 6 (99, .ireturn, 1) rfl
theorem dX11_component_100 : decode cX11_component 100 = .ok (.aload_n 3, 1) := dr9 dk9_dX11_component_0_0.2 7 (100, .aload_n 3, 1) rfl
theorem dX11_component_101 : decode cX11_component 101 = .ok (.getfield 165, 3) := dr9 dk9_dX11_component_0_0.2 8 (101, .getfield 165, 3) rfl
theorem dX11_component_104 : decode cX11_component 104 = .ok (.ireturn, 1) := dr9 dk9_dX11_component_0_0.2 9 (104, .ireturn, 1) rfl
theorem dX11_component_105 : decode cX11_component 105 = .ok (.new 140, 3) := dr9 dk9_dX11_component_0_0.2 10 (105, .new 140, 3) rfl
theorem dX11_component_108 : decode cX11_component 108 = .ok (.dup, 1) := dr9 dk9_dX11_component_0_0.2 11 (108, .dup, 1) rfl
theorem dX11_component_109 : decode cX11_component 109 = .ok (.ldc 168, 2) := dr9 dk9_dX11_component_0_0.2 12 (109, .ldc 168, 2) rfl
theorem dX11_component_111 : decode cX11_component 111 = .ok (.invokespecial 144, 3) := dr9 dk9_dX11_component_0_0.2 13 (111, .invokespecial 144, 3) rfl
theorem dX11_component_114 : decode cX11_component 114 = .ok (.athrow, 1) := dr9 dk9_dX11_component_0_0.2 14 (114, .athrow, 1) rfl
theorem dX11_component_11 : decode cX11_component 11 = .ok (.new 140, 3) := dr9 dk9_dX11_component_0_0.2 15 (11, .new 140, 3) rfl
theorem dX11_component_14 : decode cX11_component 14 = .ok (.dup, 1) := dr9 dk9_dX11_component_0_0.2 16 (14, .dup, 1) rfl
theorem dX11_component_15 : decode cX11_component 15 = .ok (.ldc 142, 2) := dr9 dk9_dX11_component_0_0.2 17 (15, .ldc 142, 2) rfl
theorem dX11_component_17 : decode cX11_component 17 = .ok (.invokespecial 144, 3) := dr9 dk9_dX11_component_0_0.2 18 (17, .invokespecial 144, 3) rfl
theorem dX11_component_20 : decode cX11_component 20 = .ok (.athrow, 1) := dr9 dk9_dX11_component_0_0.2 19 (20, .athrow, 1) rfl
theorem dk9_dX11_object_0_0 : dOk cX11_object [(0, .aload_n 0, 1), (1, .getfield 35, 3), (4, .iload_n 1, 1), (5, .invokevirtual 251, 3), (8, .ifCond .ne 13, 3), (21, .iload_n 2, 1), (22, .tableswitch 56 0 2 #[26, 36, 46], 26), (48, .aload_n 0, 1), (49, .getfield 35, 3), (52, .getfield 254, 3), (55, .iload_n 1, 1), (56, .iaload, 1), (57, .ireturn, 1), (58, .aload_n 0, 1), (59, .getfield 35, 3), (62, .getfield 256, 3), (65, .iload_n 1, 1), (66, .iaload, 1), (67, .ireturn, 1), (68, .aload_n 0, 1), (69, .getfield 35, 3), (72, .getfield 259, 3), (75, .iload_n 1, 1), (76, .iaload, 1)] = true ∧ dOk cX11_object [(77, .ireturn, 1), (78, .new 140, 3), (81, .dup, 1), (82, .ldc_w 262, 3), (85, .invokespecial 144, 3), (88, .athrow, 1), (11, .new 140, 3), (14, .dup, 1), (15, .ldc 252, 2), (17, .invokespecial 144, 3), (20, .athrow, 1)] = true := by decide +kernel
theorem dX11_object_0 : decode cX11_object 0 = .ok (.aload_n 0, 1) := dr9 dk9_dX11_object_0_0.1 0 (0, .aload_n 0, 1) rfl
theorem dX11_object_1 : decode cX11_object 1 = .ok (.getfield 35, 3) := dr9 dk9_dX11_object_0_0.1 1 (1, .getfield 35, 3) rfl
theorem dX11_object_4 : decode cX11_object 4 = .ok (.iload_n 1, 1) := dr9 dk9_dX11_object_0_0.1 2 (4, .iload_n 1, 1) rfl
theorem dX11_object_5 : decode cX11_object 5 = .ok (.invokevirtual 251, 3) := dr9 dk9_dX11_object_0_0.1 3 (5, .invokevirtual 251, 3) rfl
theorem dX11_object_8 : decode cX11_object 8 = .ok (.ifCond .ne 13, 3) := dr9 dk9_dX11_object_0_0.1 4 (8, .ifCond .ne 13, 3) rfl
theorem dX11_object_21 : decode cX11_object 21 = .ok (.iload_n 2, 1) := dr9 dk9_dX11_object_0_0.1 5 (21, .iload_n 2, 1) rfl
theorem dX11_object_22 : decode cX11_object 22 = .ok (.tableswitch 56 0 2 #[26, 36, 46], 26) := dr9 dk9_dX11_object_0_0.1 6 (22, .tableswitch 56 0 2 #[26, 36, 46], 26) rfl
theorem dX11_object_48 : decode cX11_object 48 = .ok (.aload_n 0, 1) := dr9 dk9_dX11_object_0_0.1 7 (48, .aload_n 0, 1) rfl
theorem dX11_object_49 : decode cX11_object 49 = .ok (.getfield 35, 3) := dr9 dk9_dX11_object_0_0.1 8 (49, .getfield 35, 3) rfl
theorem dX11_object_52 : decode cX11_object 52 = .ok (.getfield 254, 3) := dr9 dk9_dX11_object_0_0.1 9 (52, .getfield 254, 3) rfl
theorem dX11_object_55 : decode cX11_object 55 = .ok (.iload_n 1, 1) := dr9 dk9_dX11_object_0_0.1 10 (55, .iload_n 1, 1) rfl
theorem dX11_object_56 : decode cX11_object 56 = .ok (.iaload, 1) := dr9 dk9_dX11_object_0_0.1 11 (56, .iaload, 1) rfl
theorem dX11_object_57 : decode cX11_object 57 = .ok (.ireturn, 1) := dr9 dk9_dX11_object_0_0.1 12 (57, .ireturn, 1) rfl
theorem dX11_object_58 : decode cX11_object 58 = .ok (.aload_n 0, 1) := dr9 dk9_dX11_object_0_0.1 13 (58, .aload_n 0, 1) rfl
theorem dX11_object_59 : decode cX11_object 59 = .ok (.getfield 35, 3) := dr9 dk9_dX11_object_0_0.1 14 (59, .getfield 35, 3) rfl
theorem dX11_object_62 : decode cX11_object 62 = .ok (.getfield 256, 3) := dr9 dk9_dX11_object_0_0.1 15 (62, .getfield 256, 3) rfl
theorem dX11_object_65 : decode cX11_object 65 = .ok (.iload_n 1, 1) := dr9 dk9_dX11_object_0_0.1 16 (65, .iload_n 1, 1) rfl
theorem dX11_object_66 : decode cX11_object 66 = .ok (.iaload, 1) := dr9 dk9_dX11_object_0_0.1 17 (66, .iaload, 1) rfl
theorem dX11_object_67 : decode cX11_object 67 = .ok (.ireturn, 1) := dr9 dk9_dX11_object_0_0.1 18 (67, .ireturn, 1) rfl
theorem dX11_object_68 : decode cX11_object 68 = .ok (.aload_n 0, 1) := dr9 dk9_dX11_object_0_0.1 19 (68, .aload_n 0, 1) rfl
theorem dX11_object_69 : decode cX11_object 69 = .ok (.getfield 35, 3) := dr9 dk9_dX11_object_0_0.1 20 (69, .getfield 35, 3) rfl
theorem dX11_object_72 : decode cX11_object 72 = .ok (.getfield 259, 3) := dr9 dk9_dX11_object_0_0.1 21 (72, .getfield 259, 3) rfl
theorem dX11_object_75 : decode cX11_object 75 = .ok (.iload_n 1, 1) := dr9 dk9_dX11_object_0_0.1 22 (75, .iload_n 1, 1) rfl
theorem dX11_object_76 : decode cX11_object 76 = .ok (.iaload, 1) := dr9 dk9_dX11_object_0_0.1 23 (76, .iaload, 1) rfl
theorem dX11_object_77 : decode cX11_object 77 = .ok (.ireturn, 1) := dr9 dk9_dX11_object_0_0.2 0 (77, .ireturn, 1) rfl
theorem dX11_object_78 : decode cX11_object 78 = .ok (.new 140, 3) := dr9 dk9_dX11_object_0_0.2 1 (78, .new 140, 3) rfl
theorem dX11_object_81 : decode cX11_object 81 = .ok (.dup, 1) := dr9 dk9_dX11_object_0_0.2 2 (81, .dup, 1) rfl
theorem dX11_object_82 : decode cX11_object 82 = .ok (.ldc_w 262, 3) := dr9 dk9_dX11_object_0_0.2 3 (82, .ldc_w 262, 3) rfl
theorem dX11_object_85 : decode cX11_object 85 = .ok (.invokespecial 144, 3) := dr9 dk9_dX11_object_0_0.2 4 (85, .invokespecial 144, 3) rfl
theorem dX11_object_88 : decode cX11_object 88 = .ok (.athrow, 1) := dr9 dk9_dX11_object_0_0.2 5 (88, .athrow, 1) rfl
theorem dX11_object_11 : decode cX11_object 11 = .ok (.new 140, 3) := dr9 dk9_dX11_object_0_0.2 6 (11, .new 140, 3) rfl
theorem dX11_object_14 : decode cX11_object 14 = .ok (.dup, 1) := dr9 dk9_dX11_object_0_0.2 7 (14, .dup, 1) rfl
theorem dX11_object_15 : decode cX11_object 15 = .ok (.ldc 252, 2) := dr9 dk9_dX11_object_0_0.2 8 (15, .ldc 252, 2) rfl
theorem dX11_object_17 : decode cX11_object 17 = .ok (.invokespecial 144, 3) := dr9 dk9_dX11_object_0_0.2 9 (17, .invokespecial 144, 3) rfl
theorem dX11_object_20 : decode cX11_object 20 = .ok (.athrow, 1) := dr9 dk9_dX11_object_0_0.2 10 (20, .athrow, 1) rfl
abbrev r_x_h_component : Room := { frames := 10, cells := 1, slots := 6, locals := 200 }
abbrev q_x_h_component (D : va_G) (ks : KS) (ad : Nat → Nat) (kk : Nat → ClassId) (V : Vf) (L : Lf) (Z : XZ) (p0 : Int32) (p1 : Int32) (b : Nat) (A : Nat → Prop) : Array Value → State → Outcome → State → Prop := va_Qi (fun (r : Int32) (_ : Unit) => True) (fun _ t => gq D A (xw ad kk V L Z) (xty kk Z) t) A
set_option maxHeartbeats 4000000 in
set_option maxRecDepth 100000 in
theorem x_h_component (l : Launch) (hst : l.stackTraces = false) (D : va_G) (ks : KS) (kx : KX) (sz : Nat) (ad : Nat → Nat) (kk : Nat → ClassId) (V : Vf) (L : Lf) (Z : XZ) (p0 : Int32) (p1 : Int32) (b : Nat) (hMV : rgd bX V) (hb2 : b < 2) (shk : (V 0 6).toInt = (b : Int))  : vx_Met l yX11_component (Cond.code yX11_component cX11_component 4 (some .int) :: GW) r_x_h_component (va_Pc [.ref (ad 0), .int p0, .int p1] (gpx D ks kx (xw ad kk V L Z) (xty kk Z) sz)) (q_x_h_component D ks ad kk V L Z p0 p1 b (va_A (xw ad kk V L Z) sz)) (vx_X (fun _ : Unit => True) (fun E _ t => E = nseN ∧ gq D (va_A (xw ad kk V L Z) sz) (xw ad kk V L Z) (xty kk Z) t) (va_A (xw ad kk V L Z) sz)) 1 6 (va_A (xw ad kk V L Z) sz) := by
  refine g_metX (q_x_h_component D ks ad kk V L Z p0 p1 b) (fun A => vx_X (fun _ : Unit => True) (fun E _ t => E = nseN ∧ gq D A (xw ad kk V L Z) (xty kk Z) t) A) (by decide) (Nat.le_of_ble_eq_true rfl) ?_
  intro p e s m below meth c A ls H locs hx hb hr hml hown hg hlocks hnw hgk hgx hnt hP hK hD hS hA hl
  have hown : s.vm.findClass RX11 = some m.cls := hown
  have hl : lv_has ls 4 [(0, .ref (ad 0)), (1, .int p0), (2, .int p1)] := hl
  have hP : va_P D vwCl (xw ad kk V L Z) H := hP
  have hD : va_D A (xw ad kk V L Z) := hD
  have hK : va_K D vwCl (xty kk Z) s := hK
  have r1 : 0 ≤ ((V 0 6)).toInt ∧ ((V 0 6)).toInt ≤ 1 := hMV 0 6
  refine lv_aload_n hx hb dX11_component_0 rfl (lv_at hl 0 rfl) ?_
  refine va_get (D := D) (ci := 11) (v := .ref (ad (38 + Int32.toNatClampNeg (V 0 6)))) (fs := (xfHouse ad V L Z)) (C := RX11) (T := TX11) (N := 10) hx hb hg inX11 hown hK hP 0 xgHouse rfl 6 (by decide) (hg _ w721) (fun _ h9 => h9) rfl dX11_component_1 ?_
  refine g_topv (v := .ref (ad (38 + b))) (rfP (by omega)) ?_
  refine lv_iload_n hx hb dX11_component_4 rfl (lv_at hl 1 rfl) ?_
  refine gA_int (gA_runV (As := [.int p0]) (rest := []) (ci := 0) (q0 := (38 + b)) hx hb hml hown hg hP hD hK hS hA hnw hgk (x_bhas l D ks H.size ad kk V L Z p0 (b) hMV (show b < 2 from by (first | exact om_f940a4667dd6 hb2 | omega))) w1137 w1138 w1139 w167 w1140 rfl (xgBook hb2) hdV_yX0_has ⟨Nat.le_of_ble_eq_true rfl, Nat.le_of_ble_eq_true rfl⟩ rfl hl.1 rfl (Nat.le_of_ble_eq_true rfl) dX11_component_5 ⟨Nat.le_of_ble_eq_true rfl, Nat.le_of_ble_eq_true rfl⟩) hP hD hK hS hA (fun z2 u3 H locs w4 hP hD hK hS => ?_)
  obtain ⟨rgz2, t5⟩ := w4
  have rgz2 : 0 ≤ z2.toInt ∧ z2.toInt ≤ 1 := rgz2
  have t5 : Imp (z2.toInt = 1) (0 ≤ p0.toInt ∧ p0.toInt < (V 43 (5 * b + 2)).toInt) := t5
  refine lv_if_ne (tgt := 21) hx hb dX11_component_8 (by decide) (fun c6 => ?_) (fun c6 => ?_)
  · skip
    have f7 : z2.toInt ≠ 0 := b_neq rfl (by decide) c6
    have rh8 := Imp.go t5 (by (first | exact om_2ebe32d50835 rgz2.1 rgz2.2 f7 | omega))
    have r9 : 0 ≤ ((V 43 (5 * b + 2))).toInt ∧ ((V 43 (5 * b + 2))).toInt ≤ ((xcap (5 * b + 2) : Nat) : Int) := hMV 43 (5 * b + 2)
    have r10 : xcap (5 * b + 2) = 24 := xcap_2
    refine lv_aload_n hx hb dX11_component_21 rfl (lv_at hl 0 rfl) ?_
    refine va_get (D := D) (ci := 11) (v := .ref (ad (38 + Int32.toNatClampNeg (V 0 6)))) (fs := (xfHouse ad V L Z)) (C := RX11) (T := TX11) (N := 10) hx hb hg inX11 hown hK hP 0 xgHouse rfl 6 (by decide) (hg _ w721) (fun _ h9 => h9) rfl dX11_component_22 ?_
    refine g_topv (v := .ref (ad (38 + b))) (rfP (by first | omega | ((try (have i_t5 := Imp.go t5 (by omega))); omega))) ?_
    refine va_getN (D := D) (ci := 0) (v := .ref (ad (64 + b))) (fs := (xfBook ad V b)) (C := RX0) (T := TX0) (N := 13) hx hb hg inX0 hown hK hP (38 + b) (xgBook hb2) rfl 7 (by decide) (hnw.use 617 n617 rfl) (fun _ h9 => h9) rfl dX11_component_25 ?_
    refine lv_iload_n hx hb dX11_component_28 rfl (lv_at hl 1 rfl) ?_
    have il11 : b < 2 := by first | exact om_f940a4667dd6 hb2 | first | omega | ((try (have i_t5 := Imp.go t5 (by omega))); omega)
    refine va_aldq (D := D) (i := p0) hx hb hK hP (64 + b) (57 + b) (xgcomps il11) (xtcomps il11) (i_in (a := p0.toInt) rfl (by first | exact om_9f35ed8d252f rh8.1 r9.2 r10 ((Imp.go t5 (imp_a (rgz2.1) (rgz2.2) (f7))).2) | first | omega | ((try (have i_t5 := Imp.go t5 (by omega))); omega))) dX11_component_29 ?_
    have kc12 := i_clamp (x := p0) rfl (by first | exact om_eafa9039069c ((Imp.go t5 (imp_a (rgz2.1) (rgz2.2) (f7))).1) | first | omega | ((try (have i_t5 := Imp.go t5 (by omega))); omega))
    refine g_topv (v := .ref (ad (72 + (24 * b + (Int32.toNatClampNeg p0))))) (congrArg va_rf (if_pos (by first | omega | ((try (have i_t5 := Imp.go t5 (by omega))); omega)))) ?_
    have il13 : (24 * b + (Int32.toNatClampNeg p0)) < 48 := by first | exact om_4f3e21c63296 hb2 r9.2 r10 kc12 ((Imp.go t5 (imp_a (rgz2.1) (rgz2.2) (f7))).2) | first | omega | ((try (have i_t5 := Imp.go t5 (by omega))); omega)
    refine lv_astore_n (lv' := [(3, .ref (ad (72 + (24 * b + (Int32.toNatClampNeg p0))))), (0, .ref (ad 0)), (1, .int p0), (2, .int p1)]) hx hb dX11_component_30 rfl hl (by decide) rfl (fun ls hl => ?_)
    refine lv_iload_n hx hb dX11_component_31 rfl (lv_at hl 3 rfl) ?_
    by_cases q14 : p1 = 0
    · refine g_top (v := 0) q14 ?_
      have fq14 : p1.toInt = 0 := b_eq rfl (by decide) q14
      refine lv_tableIn (x := 0) (off := 36) (tgt := 68) hx hb dX11_component_32 (by decide) (by decide) (by decide) (by decide) ?_
      refine lv_aload_n hx hb dX11_component_68 rfl (lv_at hl 0 rfl) ?_
      refine va_getN (D := D) (ci := 3) (v := .int (V 51 (24 * b + (Int32.toNatClampNeg p0)))) (fs := (xfComp ad V (24 * b + (Int32.toNatClampNeg p0)))) (C := RX3) (T := TX3) (N := 13) hx hb hg inX3 hown hK hP (72 + (24 * b + (Int32.toNatClampNeg p0))) (xgComp il13) rfl 6 (by decide) (hnw.use 521 n521 rfl) (fun _ h9 => h9) rfl dX11_component_69 ?_
      have r15 : 0 ≤ ((V 51 (24 * b + (Int32.toNatClampNeg p0)))).toInt ∧ ((V 51 (24 * b + (Int32.toNatClampNeg p0)))).toInt ≤ 3 := hMV 51 (24 * b + (Int32.toNatClampNeg p0))
      refine vx_ret ?_
      refine W.widen (k := 1) (n := 6) (Nat.le_of_ble_eq_true rfl) (Nat.le_of_ble_eq_true rfl) ?_
      exact W.iret (v := (V 51 (24 * b + (Int32.toNatClampNeg p0)))) hx hb hr (fun t ht hW => ⟨⟨(V 51 (24 * b + (Int32.toNatClampNeg p0))), (), rfl, trivial, by rw [ht]; exact hP, va_K.moved hW.alike hK, hD⟩, hS.F ht⟩) hS.2.2 dX11_component_72
    by_cases q16 : p1 = 1
    · refine g_top (v := 1) q16 ?_
      have fq16 : p1.toInt = 1 := b_eq rfl (by decide) q16
      refine lv_tableIn (x := 1) (off := 41) (tgt := 73) hx hb dX11_component_32 (by decide) (by decide) (by decide) (by decide) ?_
      refine lv_aload_n hx hb dX11_component_73 rfl (lv_at hl 0 rfl) ?_
      refine va_getN (D := D) (ci := 3) (v := .int (V 53 (24 * b + (Int32.toNatClampNeg p0)))) (fs := (xfComp ad V (24 * b + (Int32.toNatClampNeg p0)))) (C := RX3) (T := TX3) (N := 13) hx hb hg inX3 hown hK hP (72 + (24 * b + (Int32.toNatClampNeg p0))) (xgComp il13) rfl 8 (by decide) (hnw.use 530 n530 rfl) (fun _ h9 => h9) rfl dX11_component_74 ?_
      refine vx_ret ?_
      refine W.widen (k := 1) (n := 6) (Nat.le_of_ble_eq_true rfl) (Nat.le_of_ble_eq_true rfl) ?_
      exact W.iret (v := (V 53 (24 * b + (Int32.toNatClampNeg p0)))) hx hb hr (fun t ht hW => ⟨⟨(V 53 (24 * b + (Int32.toNatClampNeg p0))), (), rfl, trivial, by rw [ht]; exact hP, va_K.moved hW.alike hK, hD⟩, hS.F ht⟩) hS.2.2 dX11_component_77
    by_cases q17 : p1 = 2
    · refine g_top (v := 2) q17 ?_
      have fq17 : p1.toInt = 2 := b_eq rfl (by decide) q17
      refine lv_tableIn (x := 2) (off := 46) (tgt := 78) hx hb dX11_component_32 (by decide) (by decide) (by decide) (by decide) ?_
      refine lv_aload_n hx hb dX11_component_78 rfl (lv_at hl 1 rfl) ?_
      refine va_get (D := D) (ci := 11) (v := .ref (ad (38 + Int32.toNatClampNeg (V 0 6)))) (fs := (xfHouse ad V L Z)) (C := RX11) (T := TX11) (N := 10) hx hb hg inX11 hown hK hP 0 xgHouse rfl 6 (by decide) (hg _ w721) (fun _ h9 => h9) rfl dX11_component_79 ?_
      refine g_topv (v := .ref (ad (38 + b))) (rfP (by first | omega | ((try (have i_t5 := Imp.go t5 (by omega))); omega))) ?_
      refine lv_iload_n hx hb dX11_component_82 rfl (lv_at hl 2 rfl) ?_
      refine gA_int (gA_runV (As := [.int p0]) (rest := []) (ci := 0) (q0 := (38 + b)) hx hb hml hown hg hP hD hK hS hA hnw hgk (x_isThere l D ks H.size ad kk V L Z p0 (b) hMV (by first | exact om_bf3d98df3a8e r9.2 r10 ((Imp.go t5 (imp_a (rgz2.1) (rgz2.2) (f7))).1) ((Imp.go t5 (imp_a (rgz2.1) (rgz2.2) (f7))).2) | first | omega | ((try (have i_t5 := Imp.go t5 (by omega))); omega)) (show b < 2 from by first | exact om_f940a4667dd6 hb2 | first | omega | ((try (have i_t5 := Imp.go t5 (by omega))); omega))) w1175 w1070 w1071 w167 w1072 rfl (xgBook hb2) hdV_yX0_isThere ⟨Nat.le_of_ble_eq_true rfl, Nat.le_of_ble_eq_true rfl⟩ rfl hl.1 rfl (Nat.le_of_ble_eq_true rfl) dX11_component_83 ⟨Nat.le_of_ble_eq_true rfl, Nat.le_of_ble_eq_true rfl⟩) hP hD hK hS hA (fun z18 u19 H locs w20 hP hD hK hS => ?_)
      have rgz18 := w20
      have rgz18 : 0 ≤ z18.toInt ∧ z18.toInt ≤ 1 := rgz18
      refine lv_if_eq (tgt := 93) hx hb dX11_component_86 (by decide) (fun c21 => ?_) (fun c21 => ?_)
      · skip
        have f22 : z18.toInt = 0 := b_eq rfl (by decide) c21
        refine lv_iconst (v := 0) hx hb dX11_component_93 (by decide) ?_
        refine vx_ret ?_
        refine W.widen (k := 1) (n := 6) (Nat.le_of_ble_eq_true rfl) (Nat.le_of_ble_eq_true rfl) ?_
        exact W.iret (v := 0) hx hb hr (fun t ht hW => ⟨⟨0, (), rfl, trivial, by rw [ht]; exact hP, va_K.moved hW.alike hK, hD⟩, hS.F ht⟩) hS.2.2 dX11_component_94
      · skip
        have f23 : z18.toInt ≠ 0 := b_neq rfl (by decide) c21
        refine lv_iconst (v := 1) hx hb dX11_component_89 (by decide) ?_
        refine lv_goto (tgt := 94) hx hb dX11_component_90 (by decide) ?_
        refine vx_ret ?_
        refine W.widen (k := 1) (n := 6) (Nat.le_of_ble_eq_true rfl) (Nat.le_of_ble_eq_true rfl) ?_
        exact W.iret (v := 1) hx hb hr (fun t ht hW => ⟨⟨1, (), rfl, trivial, by rw [ht]; exact hP, va_K.moved hW.alike hK, hD⟩, hS.F ht⟩) hS.2.2 dX11_component_94
    by_cases q24 : p1 = 3
    · refine g_top (v := 3) q24 ?_
      have fq24 : p1.toInt = 3 := b_eq rfl (by decide) q24
      refine lv_tableIn (x := 3) (off := 63) (tgt := 95) hx hb dX11_component_32 (by decide) (by decide) (by decide) (by decide) ?_
      refine lv_aload_n hx hb dX11_component_95 rfl (lv_at hl 0 rfl) ?_
      refine va_getN (D := D) (ci := 3) (v := .int (V 49 (24 * b + (Int32.toNatClampNeg p0)))) (fs := (xfComp ad V (24 * b + (Int32.toNatClampNeg p0)))) (C := RX3) (T := TX3) (N := 13) hx hb hg inX3 hown hK hP (72 + (24 * b + (Int32.toNatClampNeg p0))) (xgComp il13) rfl 4 (by decide) (hnw.use 512 n512 rfl) (fun _ h9 => h9) rfl dX11_component_96 ?_
      have r25 : 0 ≤ ((V 49 (24 * b + (Int32.toNatClampNeg p0)))).toInt ∧ ((V 49 (24 * b + (Int32.toNatClampNeg p0)))).toInt ≤ 8 := hMV 49 (24 * b + (Int32.toNatClampNeg p0))
      refine vx_ret ?_
      refine W.widen (k := 1) (n := 6) (Nat.le_of_ble_eq_true rfl) (Nat.le_of_ble_eq_true rfl) ?_
      exact W.iret (v := (V 49 (24 * b + (Int32.toNatClampNeg p0)))) hx hb hr (fun t ht hW => ⟨⟨(V 49 (24 * b + (Int32.toNatClampNeg p0))), (), rfl, trivial, by rw [ht]; exact hP, va_K.moved hW.alike hK, hD⟩, hS.F ht⟩) hS.2.2 dX11_component_99
    by_cases q26 : p1 = 4
    · refine g_top (v := 4) q26 ?_
      have fq26 : p1.toInt = 4 := b_eq rfl (by decide) q26
      refine lv_tableIn (x := 4) (off := 68) (tgt := 100) hx hb dX11_component_32 (by decide) (by decide) (by decide) (by decide) ?_
      refine lv_aload_n hx hb dX11_component_100 rfl (lv_at hl 0 rfl) ?_
      refine va_getN (D := D) (ci := 3) (v := .int (V 52 (24 * b + (Int32.toNatClampNeg p0)))) (fs := (xfComp ad V (24 * b + (Int32.toNatClampNeg p0)))) (C := RX3) (T := TX3) (N := 13) hx hb hg inX3 hown hK hP (72 + (24 * b + (Int32.toNatClampNeg p0))) (xgComp il13) rfl 7 (by decide) (hnw.use 526 n526 rfl) (fun _ h9 => h9) rfl dX11_component_101 ?_
      refine vx_ret ?_
      refine W.widen (k := 1) (n := 6) (Nat.le_of_ble_eq_true rfl) (Nat.le_of_ble_eq_true rfl) ?_
      exact W.iret (v := (V 52 (24 * b + (Int32.toNatClampNeg p0)))) hx hb hr (fun t ht hW => ⟨⟨(V 52 (24 * b + (Int32.toNatClampNeg p0))), (), rfl, trivial, by rw [ht]; exact hP, va_K.moved hW.alike hK, hD⟩, hS.F ht⟩) hS.2.2 dX11_component_104
    refine lv_tableOut (x := p1) (tgt := 105) hx hb dX11_component_32 (tab_out p1 4 (by decide) (fun k hk => match k, hk with | 0, _ => q14 | 1, _ => q16 | 2, _ => q17 | 3, _ => q24 | 4, _ => q26 | k + 5, hk => absurd hk (by omega))) (by decide) ?_
    exact g_throw (XC := fun _ _ _ => True) (is := 168) (sa := kx.2.1) hx hb hst hown hg w1605 w179 hgx hgx.1.2.1 hP hD hK hS (by rw [hml]; exact hl.1) dX11_component_105 dX11_component_108 dX11_component_109 dX11_component_111 dX11_component_114 hnt (Nat.le_of_ble_eq_true rfl) (Nat.le_of_ble_eq_true rfl) (Nat.le_of_ble_eq_true rfl) (Nat.le_of_ble_eq_true rfl) hlocks (Nat.le_of_ble_eq_true rfl) (Nat.le_of_ble_eq_true rfl)
  · skip
    have f27 : z2.toInt = 0 := b_eq rfl (by decide) c6
    exact g_throw (XC := fun _ _ _ => True) (is := 142) (sa := kx.1) hx hb hst hown hg w1605 w179 hgx hgx.1.1 hP hD hK hS (by rw [hml]; exact hl.1) dX11_component_11 dX11_component_14 dX11_component_15 dX11_component_17 dX11_component_20 hnt (Nat.le_of_ble_eq_true rfl) (Nat.le_of_ble_eq_true rfl) (Nat.le_of_ble_eq_true rfl) (Nat.le_of_ble_eq_true rfl) hlocks (Nat.le_of_ble_eq_true rfl) (Nat.le_of_ble_eq_true rfl)
abbrev r_x_h_object : Room := { frames := 10, cells := 1, slots := 6, locals := 200 }
abbrev q_x_h_object (D : va_G) (ks : KS) (ad : Nat → Nat) (kk : Nat → ClassId) (V : Vf) (L : Lf) (Z : XZ) (p0 : Int32) (p1 : Int32) (A : Nat → Prop) : Array Value → State → Outcome → State → Prop := va_Qi (fun (r : Int32) (_ : Unit) => True) (fun _ t => gq D A (xw ad kk V L Z) (xty kk Z) t) A
set_option maxHeartbeats 4000000 in
set_option maxRecDepth 100000 in
theorem x_h_object (l : Launch) (hst : l.stackTraces = false) (D : va_G) (ks : KS) (kx : KX) (sz : Nat) (ad : Nat → Nat) (kk : Nat → ClassId) (V : Vf) (L : Lf) (Z : XZ) (p0 : Int32) (p1 : Int32) (hMV : rgd bX V)  : vx_Met l yX11_object (Cond.code yX11_object cX11_object 3 (some .int) :: GW) r_x_h_object (va_Pc [.ref (ad 0), .int p0, .int p1] (gpx D ks kx (xw ad kk V L Z) (xty kk Z) sz)) (q_x_h_object D ks ad kk V L Z p0 p1 (va_A (xw ad kk V L Z) sz)) (vx_X (fun _ : Unit => True) (fun E _ t => E = nseN ∧ gq D (va_A (xw ad kk V L Z) sz) (xw ad kk V L Z) (xty kk Z) t) (va_A (xw ad kk V L Z) sz)) 1 6 (va_A (xw ad kk V L Z) sz) := by
  refine g_metX (q_x_h_object D ks ad kk V L Z p0 p1) (fun A => vx_X (fun _ : Unit => True) (fun E _ t => E = nseN ∧ gq D A (xw ad kk V L Z) (xty kk Z) t) A) (by decide) (Nat.le_of_ble_eq_true rfl) ?_
  intro p e s m below meth c A ls H locs hx hb hr hml hown hg hlocks hnw hgk hgx hnt hP hK hD hS hA hl
  have hown : s.vm.findClass RX11 = some m.cls := hown
  have hl : lv_has ls 3 [(0, .ref (ad 0)), (1, .int p0), (2, .int p1)] := hl
  have hP : va_P D vwCl (xw ad kk V L Z) H := hP
  have hD : va_D A (xw ad kk V L Z) := hD
  have hK : va_K D vwCl (xty kk Z) s := hK
  refine lv_aload_n hx hb dX11_object_0 rfl (lv_at hl 0 rfl) ?_
  refine va_get (D := D) (ci := 11) (v := .ref (ad 3)) (fs := (xfHouse ad V L Z)) (C := RX11) (T := TX11) (N := 10) hx hb hg inX11 hown hK hP 0 xgHouse rfl 3 (by decide) (hg _ w718) (fun _ h9 => h9) rfl dX11_object_1 ?_
  refine lv_iload_n hx hb dX11_object_4 rfl (lv_at hl 1 rfl) ?_
  refine gA_int (gA_runV (As := [.int p0]) (rest := []) (ci := 8) (q0 := 3) hx hb hml hown hg hP hD hK hS hA hnw hgk (x_has2 l D ks H.size ad kk V L Z p0 hMV ) w1678 w1301 w1302 w164 w1303 rfl xgStock hdV_yX8_has ⟨Nat.le_of_ble_eq_true rfl, Nat.le_of_ble_eq_true rfl⟩ rfl hl.1 rfl (Nat.le_of_ble_eq_true rfl) dX11_object_5 ⟨Nat.le_of_ble_eq_true rfl, Nat.le_of_ble_eq_true rfl⟩) hP hD hK hS hA (fun z1 u2 H locs w3 hP hD hK hS => ?_)
  obtain ⟨rgz1, t4, t5⟩ := w3
  have rgz1 : 0 ≤ z1.toInt ∧ z1.toInt ≤ 1 := rgz1
  have t4 : Imp (z1.toInt = 1) (0 ≤ p0.toInt ∧ p0.toInt < (V 3 13).toInt) := t4
  have t5 : Imp (z1.toInt = 0) (p0.toInt < 0 ∨ (V 3 13).toInt ≤ p0.toInt) := t5
  have r6 : 0 ≤ ((V 3 13)).toInt ∧ ((V 3 13)).toInt ≤ 300 := hMV 3 13
  refine lv_if_ne (tgt := 21) hx hb dX11_object_8 (by decide) (fun c7 => ?_) (fun c7 => ?_)
  · skip
    have f8 : z1.toInt ≠ 0 := b_neq rfl (by decide) c7
    have rh9 := Imp.go t4 (by (first | exact om_2ebe32d50835 rgz1.1 rgz1.2 f8 | omega))
    refine lv_iload_n hx hb dX11_object_21 rfl (lv_at hl 2 rfl) ?_
    by_cases q10 : p1 = 0
    · refine g_top (v := 0) q10 ?_
      have fq10 : p1.toInt = 0 := b_eq rfl (by decide) q10
      refine lv_tableIn (x := 0) (off := 26) (tgt := 48) hx hb dX11_object_22 (by decide) (by decide) (by decide) (by decide) ?_
      refine lv_aload_n hx hb dX11_object_48 rfl (lv_at hl 0 rfl) ?_
      refine va_get (D := D) (ci := 11) (v := .ref (ad 3)) (fs := (xfHouse ad V L Z)) (C := RX11) (T := TX11) (N := 10) hx hb hg inX11 hown hK hP 0 xgHouse rfl 3 (by decide) (hg _ w718) (fun _ h9 => h9) rfl dX11_object_49 ?_
      refine va_getN (D := D) (ci := 8) (v := .ref (ad 23)) (fs := (xfStock ad V L Z)) (C := RX8) (T := TX8) (N := 16) hx hb hg inX8 hown hK hP 3 xgStock rfl 5 (by decide) (hnw.use 380 n380 rfl) (fun _ h9 => h9) rfl dX11_object_52 ?_
      refine lv_iload_n hx hb dX11_object_55 rfl (lv_at hl 1 rfl) ?_
      refine va_iald (D := D) (i := p0) hx hb hK hP 23 16 rfl rfl (i_in (a := p0.toInt) rfl (by first | exact om_e23680f16df4 r6.2 rh9.1 ((Imp.go t4 (imp_a (rgz1.1) (rgz1.2) (f8))).2) | first | omega | ((try (have i_t5 := Imp.go t5 (by omega))); (try (have i_t4 := Imp.go t4 (by omega))); (try (have i_t4 := Imp.go t4 (by omega))); (try (have i_t5 := Imp.go t5 (by omega))); omega))) dX11_object_56 ?_
      have r11 : 0 ≤ ((V 26 (Int32.toNatClampNeg p0))).toInt ∧ ((V 26 (Int32.toNatClampNeg p0))).toInt ≤ 23 := hMV 26 (Int32.toNatClampNeg p0)
      refine vx_ret ?_
      refine W.widen (k := 1) (n := 6) (Nat.le_of_ble_eq_true rfl) (Nat.le_of_ble_eq_true rfl) ?_
      exact W.iret (v := (V 26 (Int32.toNatClampNeg p0))) hx hb hr (fun t ht hW => ⟨⟨(V 26 (Int32.toNatClampNeg p0)), (), rfl, trivial, by rw [ht]; exact hP, va_K.moved hW.alike hK, hD⟩, hS.F ht⟩) hS.2.2 dX11_object_57
    by_cases q12 : p1 = 1
    · refine g_top (v := 1) q12 ?_
      have fq12 : p1.toInt = 1 := b_eq rfl (by decide) q12
      refine lv_tableIn (x := 1) (off := 36) (tgt := 58) hx hb dX11_object_22 (by decide) (by decide) (by decide) (by decide) ?_
      refine lv_aload_n hx hb dX11_object_58 rfl (lv_at hl 0 rfl) ?_
      refine va_get (D := D) (ci := 11) (v := .ref (ad 3)) (fs := (xfHouse ad V L Z)) (C := RX11) (T := TX11) (N := 10) hx hb hg inX11 hown hK hP 0 xgHouse rfl 3 (by decide) (hg _ w718) (fun _ h9 => h9) rfl dX11_object_59 ?_
      refine va_getN (D := D) (ci := 8) (v := .ref (ad 24)) (fs := (xfStock ad V L Z)) (C := RX8) (T := TX8) (N := 16) hx hb hg inX8 hown hK hP 3 xgStock rfl 6 (by decide) (hnw.use 383 n383 rfl) (fun _ h9 => h9) rfl dX11_object_62 ?_
      refine lv_iload_n hx hb dX11_object_65 rfl (lv_at hl 1 rfl) ?_
      refine va_iald (D := D) (i := p0) hx hb hK hP 24 17 rfl rfl (i_in (a := p0.toInt) rfl (by first | exact om_e23680f16df4 r6.2 rh9.1 ((Imp.go t4 (imp_a (rgz1.1) (rgz1.2) (f8))).2) | first | omega | ((try (have i_t5 := Imp.go t5 (by omega))); (try (have i_t4 := Imp.go t4 (by omega))); (try (have i_t4 := Imp.go t4 (by omega))); (try (have i_t5 := Imp.go t5 (by omega))); omega))) dX11_object_66 ?_
      have r13 : 0 ≤ ((V 27 (Int32.toNatClampNeg p0))).toInt ∧ ((V 27 (Int32.toNatClampNeg p0))).toInt ≤ 39 := hMV 27 (Int32.toNatClampNeg p0)
      refine vx_ret ?_
      refine W.widen (k := 1) (n := 6) (Nat.le_of_ble_eq_true rfl) (Nat.le_of_ble_eq_true rfl) ?_
      exact W.iret (v := (V 27 (Int32.toNatClampNeg p0))) hx hb hr (fun t ht hW => ⟨⟨(V 27 (Int32.toNatClampNeg p0)), (), rfl, trivial, by rw [ht]; exact hP, va_K.moved hW.alike hK, hD⟩, hS.F ht⟩) hS.2.2 dX11_object_67
    by_cases q14 : p1 = 2
    · refine g_top (v := 2) q14 ?_
      have fq14 : p1.toInt = 2 := b_eq rfl (by decide) q14
      refine lv_tableIn (x := 2) (off := 46) (tgt := 68) hx hb dX11_object_22 (by decide) (by decide) (by decide) (by decide) ?_
      refine lv_aload_n hx hb dX11_object_68 rfl (lv_at hl 0 rfl) ?_
      refine va_get (D := D) (ci := 11) (v := .ref (ad 3)) (fs := (xfHouse ad V L Z)) (C := RX11) (T := TX11) (N := 10) hx hb hg inX11 hown hK hP 0 xgHouse rfl 3 (by decide) (hg _ w718) (fun _ h9 => h9) rfl dX11_object_69 ?_
      refine va_getN (D := D) (ci := 8) (v := .ref (ad 25)) (fs := (xfStock ad V L Z)) (C := RX8) (T := TX8) (N := 16) hx hb hg inX8 hown hK hP 3 xgStock rfl 7 (by decide) (hnw.use 385 n385 rfl) (fun _ h9 => h9) rfl dX11_object_72 ?_
      refine lv_iload_n hx hb dX11_object_75 rfl (lv_at hl 1 rfl) ?_
      refine va_iald (D := D) (i := p0) hx hb hK hP 25 18 rfl rfl (i_in (a := p0.toInt) rfl (by first | exact om_e23680f16df4 r6.2 rh9.1 ((Imp.go t4 (imp_a (rgz1.1) (rgz1.2) (f8))).2) | first | omega | ((try (have i_t5 := Imp.go t5 (by omega))); (try (have i_t4 := Imp.go t4 (by omega))); (try (have i_t4 := Imp.go t4 (by omega))); (try (have i_t5 := Imp.go t5 (by omega))); omega))) dX11_object_76 ?_
      refine vx_ret ?_
      refine W.widen (k := 1) (n := 6) (Nat.le_of_ble_eq_true rfl) (Nat.le_of_ble_eq_true rfl) ?_
      exact W.iret (v := (V 28 (Int32.toNatClampNeg p0))) hx hb hr (fun t ht hW => ⟨⟨(V 28 (Int32.toNatClampNeg p0)), (), rfl, trivial, by rw [ht]; exact hP, va_K.moved hW.alike hK, hD⟩, hS.F ht⟩) hS.2.2 dX11_object_77
    refine lv_tableOut (x := p1) (tgt := 78) hx hb dX11_object_22 (tab_out p1 2 (by decide) (fun k hk => match k, hk with | 0, _ => q10 | 1, _ => q12 | 2, _ => q14 | k + 3, hk => absurd hk (by omega))) (by decide) ?_
    exact g_throwW (XC := fun _ _ _ => True) (is := 262) (sa := kx.2.2.2) hx hb hst hown hg w1605 w179 hgx hgx.1.2.2.2 hP hD hK hS (by rw [hml]; exact hl.1) dX11_object_78 dX11_object_81 dX11_object_82 dX11_object_85 dX11_object_88 hnt (Nat.le_of_ble_eq_true rfl) (Nat.le_of_ble_eq_true rfl) (Nat.le_of_ble_eq_true rfl) (Nat.le_of_ble_eq_true rfl) hlocks (Nat.le_of_ble_eq_true rfl) (Nat.le_of_ble_eq_true rfl)
  · skip
    have f15 : z1.toInt = 0 := b_eq rfl (by decide) c7
    exact g_throw (XC := fun _ _ _ => True) (is := 252) (sa := kx.2.2.1) hx hb hst hown hg w1605 w179 hgx hgx.1.2.2.1 hP hD hK hS (by rw [hml]; exact hl.1) dX11_object_11 dX11_object_14 dX11_object_15 dX11_object_17 dX11_object_20 hnt (Nat.le_of_ble_eq_true rfl) (Nat.le_of_ble_eq_true rfl) (Nat.le_of_ble_eq_true rfl) (Nat.le_of_ble_eq_true rfl) hlocks (Nat.le_of_ble_eq_true rfl) (Nat.le_of_ble_eq_true rfl)
end
section
/-! worlds side by side: the class's, the reference's, the array of the answers -/
def dj (w1 w2 : va_W) : Prop := ∀ (i j : Nat) (p q : Nat × va_E), w1[i]? = some p → w2[j]? = some q → p.1 ≠ q.1
theorem dj.sy {w1 w2 : va_W} (h : dj w1 w2) : dj w2 w1 := fun i j p q h1 h2 e => h j i q p h2 h1 e.symm
theorem va_Ptl {D : va_G} {x : Nat × va_E} {ws : va_W} {H : Heap} (h : va_P D vwCl (x :: ws) H) : va_P D vwCl ws H := fun k q hq => h (k + 1) q (by rw [List.getElem?_cons_succ]; exact hq)
theorem va_Phd {D : va_G} {x : Nat × va_E} {ws : va_W} {H : Heap} (h : va_P D vwCl (x :: ws) H) : va_P D vwCl [x] H := by
  intro k q hq
  cases k with
  | zero => exact h 0 q hq
  | succ k => rw [List.getElem?_cons_succ] at hq; cases hq
theorem va_Pcn {D : va_G} {x : Nat × va_E} {ws : va_W} {H : Heap} (h0 : va_P D vwCl [x] H) (h : va_P D vwCl ws H) : va_P D vwCl (x :: ws) H := by
  intro k q hq
  cases k with
  | zero => exact h0 0 q hq
  | succ k => rw [List.getElem?_cons_succ] at hq; exact h k q hq
theorem va_Dtl {A : Nat → Prop} {x : Nat × va_E} {ws : va_W} (h : va_D A (x :: ws)) : va_D A ws :=
  ⟨fun i j p q h1 h2 e => Nat.succ.inj (h.1 (i + 1) (j + 1) p q (by rw [List.getElem?_cons_succ]; exact h1) (by rw [List.getElem?_cons_succ]; exact h2) e), fun k q hq => h.2 (k + 1) q (by rw [List.getElem?_cons_succ]; exact hq)⟩
theorem va_Dhd {A : Nat → Prop} {x : Nat × va_E} {ws : va_W} (h : va_D A (x :: ws)) : va_D A [x] := by
  refine ⟨fun i j p q h1 h2 _ => ?_, fun k q hq => ?_⟩
  · cases i with
    | zero => cases j with
      | zero => rfl
      | succ j => rw [List.getElem?_cons_succ] at h2; cases h2
    | succ i => rw [List.getElem?_cons_succ] at h1; cases h1
  · cases k with
    | zero => exact h.2 0 q hq
    | succ k => rw [List.getElem?_cons_succ] at hq; cases hq
theorem dj_hd {A : Nat → Prop} {x : Nat × va_E} {ws : va_W} (h : va_D A (x :: ws)) : dj [x] ws := by
  intro i j p q h1 h2 e
  cases i with
  | zero => exact absurd (h.1 0 (j + 1) p q h1 (by rw [List.getElem?_cons_succ]; exact h2) e) (by omega)
  | succ i => rw [List.getElem?_cons_succ] at h1; cases h1
theorem va_Dcn {A : Nat → Prop} {x : Nat × va_E} {ws : va_W} (h0 : va_D A [x]) (h : va_D A ws) (hd : dj [x] ws) : va_D A (x :: ws) := by
  refine ⟨fun i j p q h1 h2 e => ?_, fun k q hq => ?_⟩
  · cases i with
    | zero => cases j with
      | zero => rfl
      | succ j => rw [List.getElem?_cons_succ] at h2; exact absurd e (hd 0 j p q h1 h2)
    | succ i => cases j with
      | zero => rw [List.getElem?_cons_succ] at h1; exact absurd e.symm (hd 0 i q p h2 h1)
      | succ j => rw [List.getElem?_cons_succ] at h1 h2; exact congrArg Nat.succ (h.1 i j p q h1 h2 e)
  · cases k with
    | zero => exact h0.2 0 q hq
    | succ k => rw [List.getElem?_cons_succ] at hq; exact h.2 k q hq
theorem dj_cn {x : Nat × va_E} {ws w2 : va_W} (h0 : dj [x] w2) (h : dj ws w2) : dj (x :: ws) w2 := by
  intro i j p q h1 h2
  cases i with
  | zero => exact h0 0 j p q h1 h2
  | succ i => rw [List.getElem?_cons_succ] at h1; exact h i j p q h1 h2
theorem dj_h1 {x : Nat × va_E} {ws w2 : va_W} (h : dj (x :: ws) w2) : dj [x] w2 := by
  intro i j p q h1 h2
  cases i with
  | zero => exact h 0 j p q h1 h2
  | succ i => rw [List.getElem?_cons_succ] at h1; cases h1
theorem va_side {D : va_G} {wc w2 : va_W} {H H1 : Heap} (hP2 : va_P D vwCl w2 H) (hx : dj wc w2) (hk : ∀ q : Nat, q < H.size → ¬ va_A wc H.size q → H1[q]? = H[q]?) : va_P D vwCl w2 H1 :=
  fun k q h => (hP2 k q h).kept (hk q.1 (hP2 k q h).lt (fun z => z.elim (fun ⟨i, e, w⟩ => hx i k (q.1, e) q w h rfl) (fun w => absurd (hP2 k q h).lt (Nat.not_lt.mpr w))))
theorem dj_side {D : va_G} {wc w1 w2 : va_W} {H : Heap} (hP2 : va_P D vwCl w2 H) (hx : dj wc w2) (hD1 : va_D (va_A wc H.size) w1) : dj w1 w2 := by
  intro i j p q h1 h2 e
  rcases hD1.2 i p h1 with ⟨k, e', w⟩ | w
  · exact hx k j (p.1, e') q w h2 e
  · have := (hP2 j q h2).lt
    rw [← e] at this
    exact absurd this (Nat.not_lt.mpr w)
def LI (D : va_G) (A : Nat → Prop) (H : Heap) (wx wm wo : va_W) : Prop := (va_P D vwCl wx H ∧ va_P D vwCl wm H ∧ va_P D vwCl wo H) ∧ (va_D A wx ∧ va_D A wm ∧ va_D A wo) ∧ dj wx wm ∧ dj wo wx ∧ dj wo wm
theorem LI.sw {D : va_G} {A : Nat → Prop} {H : Heap} {wx wm wo : va_W} (h : LI D A H wx wm wo) : LI D A H wm wx wo := ⟨⟨h.1.2.1, h.1.1, h.1.2.2⟩, ⟨h.2.1.2.1, h.2.1.1, h.2.1.2.2⟩, h.2.2.1.sy, h.2.2.2.2, h.2.2.2.1⟩
theorem LI.x {D : va_G} {A : Nat → Prop} {H H1 : Heap} {wx wm wo w1 : va_W} (h : LI D A H wx wm wo) (hk : ∀ q : Nat, q < H.size → ¬ va_A wx H.size q → H1[q]? = H[q]?) (hP : va_P D vwCl w1 H1) (hD : va_D (va_A wx H.size) w1) (hF : ∀ q, va_A wx H.size q → A q) : LI D A H1 w1 wm wo :=
  ⟨⟨hP, va_side h.1.2.1 h.2.2.1 hk, va_side h.1.2.2 h.2.2.2.1.sy hk⟩, ⟨hD.weaken (fun _ _ _ h => hF _ h), h.2.1.2.1, h.2.1.2.2⟩, dj_side h.1.2.1 h.2.2.1 hD, (dj_side h.1.2.2 h.2.2.2.1.sy hD).sy, h.2.2.2.2⟩
theorem LI.hD {D : va_G} {A : Nat → Prop} {H : Heap} {wx wm : va_W} {o : Nat × va_E} (h : LI D A H wx wm [o]) : va_D A (o :: wx) := va_Dcn h.2.1.2.2 h.2.1.1 h.2.2.2.1
theorem LI.hP {D : va_G} {A : Nat → Prop} {H : Heap} {wx wm : va_W} {o : Nat × va_E} (h : LI D A H wx wm [o]) : va_P D vwCl (o :: wx) H := va_Pcn h.1.2.2 h.1.1
theorem LI.h {D : va_G} {A : Nat → Prop} {H H1 : Heap} {wx wm : va_W} {o o1 : Nat × va_E} (h : LI D A H wx wm [o]) (hk : ∀ q : Nat, q < H.size → ¬ va_A (o :: wx) H.size q → H1[q]? = H[q]?) (hP : va_P D vwCl (o1 :: wx) H1) (hD : va_D (va_A (o :: wx) H.size) (o1 :: wx)) (hF : ∀ q, va_A (o :: wx) H.size q → A q) : LI D A H1 wx wm [o1] := by
  have hx : dj (o :: wx) wm := dj_cn h.2.2.2.2 h.2.2.1
  have hd := dj_side h.1.2.1 hx hD
  have hA := hD.weaken (B := A) (fun _ _ _ h => hF _ h)
  exact ⟨⟨va_Ptl hP, va_side h.1.2.1 hx hk, va_Phd hP⟩, ⟨va_Dtl hA, h.2.1.2.1, va_Dhd hA⟩, h.2.2.1, dj_hd hA, dj_h1 hd⟩
section GL
variable {p : Program} {l : Launch} {e : Env} {R : Room} {s : State} {m : MethodId} {args : Array Value} {below : List Frame} {meth : Method} {c : Code} {H : Heap} {locs : List Loc} {cells slots : Nat} {Q : State → Prop}
variable {pc : Nat} {ls : Array Slot} {st0 rest : List Value} {D : va_G} {A : Nat → Prop} {tys : List (ClassId × FieldType)} {wx wm wo : va_W}
theorem gL_int {S : Type} {post : Int32 → S → Prop} {wq : S → va_W} {mc ms : Nat} {av : Array Value} (hr : va_Run p l e R s m args below meth c H locs cells slots mc ms (F0 m pc ls st0) rest (va_Qi post (fun u t => gq D (va_A wx H.size) (wq u) tys t) (va_A wx H.size) av) (va_A wx H.size))
    (hL : LI D A H wx wm wo) (hS : va_S A s.heap H locs) (hA : ∀ q, s.heap.size ≤ q → A q)
    (kk : ∀ (r : Int32) (u : S) (H1 : Heap) (locs1 : List Loc), post r u → LI D A H1 (wq u) wm wo → va_S A s.heap H1 locs1 → W p l e R s m args below meth c H1 locs1 (cells + mc) (slots + ms) Q (F0 m (pc + 3) ls (.int r :: rest))) : W p l e R s m args below meth c H locs cells slots Q (F0 m pc ls st0) := by
  have hF := gA_free hL.2.1.1 hS hA
  refine va_calli hr hS (fun q _ h => hF q h) hF (fun r u t H1 locs ht hvm hw hB hz1 hk1 hS => ?_)
  obtain ⟨hP1, hK1, hD1⟩ := hB
  rw [ht] at hP1
  exact kk r u H1 locs hw (hL.x hk1 hP1 hD1 hF) hS
theorem gLh_int {S : Type} {post : Int32 → S → Prop} {oq : S → Nat × va_E} {o : Nat × va_E} {mc ms : Nat} {av : Array Value} (hr : va_Run p l e R s m args below meth c H locs cells slots mc ms (F0 m pc ls st0) rest (va_Qi post (fun u t => gq D (va_A (o :: wx) H.size) (oq u :: wx) tys t) (va_A (o :: wx) H.size) av) (va_A (o :: wx) H.size))
    (hL : LI D A H wx wm [o]) (hS : va_S A s.heap H locs) (hA : ∀ q, s.heap.size ≤ q → A q)
    (kk : ∀ (r : Int32) (u : S) (H1 : Heap) (locs1 : List Loc), post r u → LI D A H1 wx wm [oq u] → va_S A s.heap H1 locs1 → W p l e R s m args below meth c H1 locs1 (cells + mc) (slots + ms) Q (F0 m (pc + 3) ls (.int r :: rest))) : W p l e R s m args below meth c H locs cells slots Q (F0 m pc ls st0) := by
  have hF := gA_free hL.hD hS hA
  refine va_calli hr hS (fun q _ h => hF q h) hF (fun r u t H1 locs ht hvm hw hB hz1 hk1 hS => ?_)
  obtain ⟨hP1, hK1, hD1⟩ := hB
  rw [ht] at hP1
  exact kk r u H1 locs hw (hL.h hk1 hP1 hD1 hF) hS
theorem gLZ_int {S : Type} {post : Int32 → S → Prop} {wq : S → va_W} {tq : S → List (ClassId × FieldType)} {zc zs : S → Nat} {mc ms : Nat} {av : Array Value} (hr : va_Run p l e R s m args below meth c H locs cells slots mc ms (F0 m pc ls st0) rest (qZi D post wq tq zc zs (va_A wx H.size) av) (va_A wx H.size))
    (hL : LI D A H wx wm wo) (hS : va_S A s.heap H locs) (hA : ∀ q, s.heap.size ≤ q → A q)
    (kk : ∀ (r : Int32) (u : S) (H1 : Heap) (locs1 : List Loc), post r u → LI D A H1 (wq u) wm wo → va_K D vwCl (tq u) s → va_S A s.heap H1 locs1 → H1.size ≤ H.size + zc u → tot H1 ≤ tot H + zs u → W p l e R s m args below meth c H1 locs1 (cells + mc) (slots + ms) Q (F0 m (pc + 3) ls (.int r :: rest))) : W p l e R s m args below meth c H locs cells slots Q (F0 m pc ls st0) := by
  have hF := gA_free hL.2.1.1 hS hA
  intro T hT X
  obtain ⟨v, st₀, t, T', L, h0, X', hL2, e1, e2, ⟨⟨r, u, hv, hp, hb, y1, y2⟩, hz, hk⟩, st⟩ := hr T hT X
  cases hv
  rw [h0] at hz hk y1 y2
  obtain ⟨hP1, hK1, hD1⟩ := hb
  have hvm : s.vm.Alike t.vm := by rw [← e2]; exact X'.warmed.alike
  obtain ⟨t2, a1, b1⟩ := kk r u T'.heap (locs ++ L) hp (hL.x (fun q h1 h2 => by rw [e1]; exact hk q h1 h2) (by rw [e1]; exact hP1) hD1 hF) (va_K.moved hvm.symm hK1)
    ⟨Nat.le_trans hS.1 (by rw [e1]; exact hz), fun q h1 h2 => by rw [e1, hk q (Nat.lt_of_lt_of_le h1 hS.1) (fun z => h2 (hF q z))]; exact hS.2.1 q h1 h2, fun q hq => by
      rcases List.mem_append.mp hq with h | h
      · exact hS.2.2 q h
      · exact hF _ (hL2 q h)⟩ (by rw [e1]; exact y1) (by rw [e1]; exact y2) T' rfl X'
  exact ⟨t2, st t2 a1, b1⟩
end GL

theorem w753 : Cond.code yX9_append cX9_append 6 none ∈ GW := gw_k tk9_3 118 (rfl) rfl
theorem w750 : Cond.methodLink RX11 65 yX9_append ∈ GW := gw_k tk9_3 115 (by decide +kernel) rfl
theorem w751 : Cond.instanceMethod yX9_append ∈ GW := gw_k tk9_3 116 (by decide +kernel) rfl
theorem w752 : Cond.selects RX9 yX9_append yX9_append ∈ GW := gw_k tk9_3 117 (by decide +kernel) rfl
theorem hdV_yX9_append : yX9_append.cls = RX9 ∧ yX9_append.cls ≠ "java/lang/invoke/MethodHandle" ∧ yX9_append.cls ≠ "java/lang/invoke/VarHandle" ∧ (parseMethodDescriptor yX9_append.desc).map (fun d => d.parameters.length) = some 1 := by decide +kernel
theorem w1601 : Cond.methodLink RL 7 yX11_component ∈ GW := gw_k tk9_7 6 (by decide +kernel) rfl
theorem w1602 : Cond.instanceMethod yX11_component ∈ GW := gw_k tk9_7 7 (by decide +kernel) rfl
theorem w1603 : Cond.selects RX11 yX11_component yX11_component ∈ GW := gw_k tk9_7 8 (by decide +kernel) rfl
theorem w1604 : Cond.code yX11_component cX11_component 4 (some .int) ∈ GW := gw_k tk9_7 9 (rfl) rfl
theorem w1600 : Cond.classLink RL 13 nseN ∈ GW := gw_k tk9_7 5 (by decide +kernel) rfl
theorem hdV_yX11_component : yX11_component.cls = RX11 ∧ yX11_component.cls ≠ "java/lang/invoke/MethodHandle" ∧ yX11_component.cls ≠ "java/lang/invoke/VarHandle" ∧ (parseMethodDescriptor yX11_component.desc).map (fun d => d.parameters.length) = some 2 := by decide +kernel
theorem w1674 : Cond.methodLink RL 15 yX11_object ∈ GW := gw_k tk9_7 79 (by decide +kernel) rfl
theorem w1675 : Cond.instanceMethod yX11_object ∈ GW := gw_k tk9_7 80 (by decide +kernel) rfl
theorem w1676 : Cond.selects RX11 yX11_object yX11_object ∈ GW := gw_k tk9_7 81 (by decide +kernel) rfl
theorem w1677 : Cond.code yX11_object cX11_object 3 (some .int) ∈ GW := gw_k tk9_7 82 (rfl) rfl
theorem hdV_yX11_object : yX11_object.cls = RX11 ∧ yX11_object.cls ≠ "java/lang/invoke/MethodHandle" ∧ yX11_object.cls ≠ "java/lang/invoke/VarHandle" ∧ (parseMethodDescriptor yX11_object.desc).map (fun d => d.parameters.length) = some 2 := by decide +kernel
theorem dk9_dX11_feed_0_0 : dOk cX11_feed [(0, .aload_n 0, 1), (1, .getfield 10, 3), (4, .lload_n 1, 1), (5, .invokevirtual 65, 3), (8, .aload_n 0, 1), (9, .getfield 10, 3), (12, .lload_n 3, 1), (13, .invokevirtual 65, 3), (16, .aload_n 0, 1), (17, .getfield 10, 3), (20, .lload 5, 2), (22, .invokevirtual 65, 3), (25, .aload_n 0, 1), (26, .getfield 10, 3), (29, .getfield 69, 3), (32, .ireturn, 1)] = true := by decide +kernel
theorem dX11_feed_0 : decode cX11_feed 0 = .ok (.aload_n 0, 1) := dr9 dk9_dX11_feed_0_0 0 (0, .aload_n 0, 1) rfl
theorem dX11_feed_1 : decode cX11_feed 1 = .ok (.getfield 10, 3) := dr9 dk9_dX11_feed_0_0 1 (1, .getfield 10, 3) rfl
theorem dX11_feed_4 : decode cX11_feed 4 = .ok (.lload_n 1, 1) := dr9 dk9_dX11_feed_0_0 2 (4, .lload_n 1, 1) rfl
theorem dX11_feed_5 : decode cX11_feed 5 = .ok (.invokevirtual 65, 3) := dr9 dk9_dX11_feed_0_0 3 (5, .invokevirtual 65, 3) rfl
theorem dX11_feed_8 : decode cX11_feed 8 = .ok (.aload_n 0, 1) := dr9 dk9_dX11_feed_0_0 4 (8, .aload_n 0, 1) rfl
theorem dX11_feed_9 : decode cX11_feed 9 = .ok (.getfield 10, 3) := dr9 dk9_dX11_feed_0_0 5 (9, .getfield 10, 3) rfl
theorem dX11_feed_12 : decode cX11_feed 12 = .ok (.lload_n 3, 1) := dr9 dk9_dX11_feed_0_0 6 (12, .lload_n 3, 1) rfl
theorem dX11_feed_13 : decode cX11_feed 13 = .ok (.invokevirtual 65, 3) := dr9 dk9_dX11_feed_0_0 7 (13, .invokevirtual 65, 3) rfl
theorem dX11_feed_16 : decode cX11_feed 16 = .ok (.aload_n 0, 1) := dr9 dk9_dX11_feed_0_0 8 (16, .aload_n 0, 1) rfl
theorem dX11_feed_17 : decode cX11_feed 17 = .ok (.getfield 10, 3) := dr9 dk9_dX11_feed_0_0 9 (17, .getfield 10, 3) rfl
theorem dX11_feed_20 : decode cX11_feed 20 = .ok (.lload 5, 2) := dr9 dk9_dX11_feed_0_0 10 (20, .lload 5, 2) rfl
theorem dX11_feed_22 : decode cX11_feed 22 = .ok (.invokevirtual 65, 3) := dr9 dk9_dX11_feed_0_0 11 (22, .invokevirtual 65, 3) rfl
theorem dX11_feed_25 : decode cX11_feed 25 = .ok (.aload_n 0, 1) := dr9 dk9_dX11_feed_0_0 12 (25, .aload_n 0, 1) rfl
theorem dX11_feed_26 : decode cX11_feed 26 = .ok (.getfield 10, 3) := dr9 dk9_dX11_feed_0_0 13 (26, .getfield 10, 3) rfl
theorem dX11_feed_29 : decode cX11_feed 29 = .ok (.getfield 69, 3) := dr9 dk9_dX11_feed_0_0 14 (29, .getfield 69, 3) rfl
theorem dX11_feed_32 : decode cX11_feed 32 = .ok (.ireturn, 1) := dr9 dk9_dX11_feed_0_0 15 (32, .ireturn, 1) rfl
theorem dk9_dL_component_0_0 : dOk cL_component [(0, .aload_n 3, 1), (1, .iconst 0, 1), (2, .aload_n 0, 1), (3, .iload_n 1, 1), (4, .iload_n 2, 1), (5, .invokevirtual 7, 3), (8, .i2l, 1), (9, .lastore, 1), (10, .goto 7, 3), (13, .astore 4, 2), (15, .iconst 1, 1), (16, .ireturn, 1), (17, .iconst 0, 1), (18, .ireturn, 1)] = true := by decide +kernel
theorem dL_component_0 : decode cL_component 0 = .ok (.aload_n 3, 1) := dr9 dk9_dL_component_0_0 0 (0, .aload_n 3, 1) rfl
theorem dL_component_1 : decode cL_component 1 = .ok (.iconst 0, 1) := dr9 dk9_dL_component_0_0 1 (1, .iconst 0, 1) rfl
theorem dL_component_2 : decode cL_component 2 = .ok (.aload_n 0, 1) := dr9 dk9_dL_component_0_0 2 (2, .aload_n 0, 1) rfl
theorem dL_component_3 : decode cL_component 3 = .ok (.iload_n 1, 1) := dr9 dk9_dL_component_0_0 3 (3, .iload_n 1, 1) rfl
theorem dL_component_4 : decode cL_component 4 = .ok (.iload_n 2, 1) := dr9 dk9_dL_component_0_0 4 (4, .iload_n 2, 1) rfl
theorem dL_component_5 : decode cL_component 5 = .ok (.invokevirtual 7, 3) := dr9 dk9_dL_component_0_0 5 (5, .invokevirtual 7, 3) rfl
theorem dL_component_8 : decode cL_component 8 = .ok (.i2l, 1) := dr9 dk9_dL_component_0_0 6 (8, .i2l, 1) rfl
theorem dL_component_9 : decode cL_component 9 = .ok (.lastore, 1) := dr9 dk9_dL_component_0_0 7 (9, .lastore, 1) rfl
theorem dL_component_10 : decode cL_component 10 = .ok (.goto 7, 3) := dr9 dk9_dL_component_0_0 8 (10, .goto 7, 3) rfl
theorem dL_component_13 : decode cL_component 13 = .ok (.astore 4, 2) := dr9 dk9_dL_component_0_0 9 (13, .astore 4, 2) rfl
theorem dL_component_15 : decode cL_component 15 = .ok (.iconst 1, 1) := dr9 dk9_dL_component_0_0 10 (15, .iconst 1, 1) rfl
theorem dL_component_16 : decode cL_component 16 = .ok (.ireturn, 1) := dr9 dk9_dL_component_0_0 11 (16, .ireturn, 1) rfl
theorem dL_component_17 : decode cL_component 17 = .ok (.iconst 0, 1) := dr9 dk9_dL_component_0_0 12 (17, .iconst 0, 1) rfl
theorem dL_component_18 : decode cL_component 18 = .ok (.ireturn, 1) := dr9 dk9_dL_component_0_0 13 (18, .ireturn, 1) rfl
theorem dk9_dL_object_0_0 : dOk cL_object [(0, .aload_n 3, 1), (1, .iconst 0, 1), (2, .aload_n 0, 1), (3, .iload_n 1, 1), (4, .iload_n 2, 1), (5, .invokevirtual 15, 3), (8, .i2l, 1), (9, .lastore, 1), (10, .goto 7, 3), (13, .astore 4, 2), (15, .iconst 1, 1), (16, .ireturn, 1), (17, .iconst 0, 1), (18, .ireturn, 1)] = true := by decide +kernel
theorem dL_object_0 : decode cL_object 0 = .ok (.aload_n 3, 1) := dr9 dk9_dL_object_0_0 0 (0, .aload_n 3, 1) rfl
theorem dL_object_1 : decode cL_object 1 = .ok (.iconst 0, 1) := dr9 dk9_dL_object_0_0 1 (1, .iconst 0, 1) rfl
theorem dL_object_2 : decode cL_object 2 = .ok (.aload_n 0, 1) := dr9 dk9_dL_object_0_0 2 (2, .aload_n 0, 1) rfl
theorem dL_object_3 : decode cL_object 3 = .ok (.iload_n 1, 1) := dr9 dk9_dL_object_0_0 3 (3, .iload_n 1, 1) rfl
theorem dL_object_4 : decode cL_object 4 = .ok (.iload_n 2, 1) := dr9 dk9_dL_object_0_0 4 (4, .iload_n 2, 1) rfl
theorem dL_object_5 : decode cL_object 5 = .ok (.invokevirtual 15, 3) := dr9 dk9_dL_object_0_0 5 (5, .invokevirtual 15, 3) rfl
theorem dL_object_8 : decode cL_object 8 = .ok (.i2l, 1) := dr9 dk9_dL_object_0_0 6 (8, .i2l, 1) rfl
theorem dL_object_9 : decode cL_object 9 = .ok (.lastore, 1) := dr9 dk9_dL_object_0_0 7 (9, .lastore, 1) rfl
theorem dL_object_10 : decode cL_object 10 = .ok (.goto 7, 3) := dr9 dk9_dL_object_0_0 8 (10, .goto 7, 3) rfl
theorem dL_object_13 : decode cL_object 13 = .ok (.astore 4, 2) := dr9 dk9_dL_object_0_0 9 (13, .astore 4, 2) rfl
theorem dL_object_15 : decode cL_object 15 = .ok (.iconst 1, 1) := dr9 dk9_dL_object_0_0 10 (15, .iconst 1, 1) rfl
theorem dL_object_16 : decode cL_object 16 = .ok (.ireturn, 1) := dr9 dk9_dL_object_0_0 11 (16, .ireturn, 1) rfl
theorem dL_object_17 : decode cL_object 17 = .ok (.iconst 0, 1) := dr9 dk9_dL_object_0_0 12 (17, .iconst 0, 1) rfl
theorem dL_object_18 : decode cL_object 18 = .ok (.ireturn, 1) := dr9 dk9_dL_object_0_0 13 (18, .ireturn, 1) rfl
abbrev r_x_h_feed : Room := { frames := 1, cells := 0, slots := 0, locals := 25 }
abbrev q_x_h_feed (D : va_G) (ks : KS) (ad : Nat → Nat) (kk : Nat → ClassId) (V : Vf) (L : Lf) (Z : XZ) (p0 : Int64) (p1 : Int64) (p2 : Int64) (k0 : Nat) (A : Nat → Prop) : Array Value → State → Outcome → State → Prop := va_Qi (fun (r : Int32) (u : Vf × Lf) => rgd bX u.1 ∧ agr [(6, 5)] [10] V u.1 ∧ u.2 = L ∧ (r.toInt = ((apk 8 p2 (apk 8 p1 (apk 8 p0 k0)) : Nat) : Int)) ∧ ((u.1 6 5).toInt = ((apk 8 p2 (apk 8 p1 (apk 8 p0 k0)) : Nat) : Int))) (fun u t => gq D A (xw ad kk u.1 u.2 Z) (xty kk Z) t) A
abbrev r_x_h_named2 : Room := { frames := 6, cells := 0, slots := 0, locals := 133 }
abbrev q_x_h_named2 (D : va_G) (ks : KS) (ad : Nat → Nat) (kk : Nat → ClassId) (V : Vf) (L : Lf) (Z : XZ) (p0 : Int32) (b : Nat) (A : Nat → Prop) : Array Value → State → Outcome → State → Prop := va_Qi (fun (r : Int32) (u : Vf × Lf) => rgd bX u.1 ∧ agr [(6, 5), (6, 6), (6, 7), (6, 8), (6, 9), (6, 10)] [12, 13, 14] V u.1 ∧ agL [6, 14] L u.2 ∧ ((u.1 6 5).toInt = 0)) (fun u t => gq D A (xw ad kk u.1 u.2 Z) (xty kk Z) t) A
set_option maxHeartbeats 4000000 in
set_option maxRecDepth 100000 in
theorem x_h_named2 (l : Launch) (D : va_G) (ks : KS) (sz : Nat) (ad : Nat → Nat) (kk : Nat → ClassId) (V : Vf) (L : Lf) (Z : XZ) (p0 : Int32) (b : Nat) (hMV : rgd bX V) (hb2 : b < 2) (shk : (V 0 6).toInt = (b : Int))  : Met l yX11_named (Cond.code yX11_named cX11_named 6 (some .int) :: GW) r_x_h_named2 (va_Pc [.ref (ad 0), .int p0] (gp D ks (xw ad kk V L Z) (xty kk Z) sz)) (q_x_h_named2 D ks ad kk V L Z p0 b (va_A (xw ad kk V L Z) sz)) 0 0 (va_A (xw ad kk V L Z) sz) := by
  refine g_met (q_x_h_named2 D ks ad kk V L Z p0 b) (by decide) (Nat.le_of_ble_eq_true rfl) ?_
  intro p e s m below meth c A ls H locs hx hb hr hml hown hg hlocks hin hnw hgk hP hK hD hS hA hl
  have hown : s.vm.findClass RX11 = some m.cls := hown
  have hl : lv_has ls 6 [(0, .ref (ad 0)), (1, .int p0)] := hl
  have hP : va_P D vwCl (xw ad kk V L Z) H := hP
  have hD : va_D A (xw ad kk V L Z) := hD
  have hK : va_K D vwCl (xty kk Z) s := hK
  have agV : agr [(6, 5), (6, 6), (6, 7), (6, 8), (6, 9), (6, 10)] [12, 13, 14] V V := agr.rf
  have alL : agL [6, 14] L L := agL.rf
  have r1 : 0 ≤ ((V 0 6)).toInt ∧ ((V 0 6)).toInt ≤ 1 := hMV 0 6
  refine lv_aload_n hx hb dX11_named_0 rfl (lv_at hl 0 rfl) ?_
  refine va_get (D := D) (ci := 11) (v := .ref (ad 6)) (fs := (xfHouse ad V L Z)) (C := RX11) (T := TX11) (N := 10) hx hb hg inX11 hown hK hP 0 xgHouse rfl 0 (by decide) (hg _ w715) (fun _ h9 => h9) rfl dX11_named_1 ?_
  refine gA_void (gA_runV (As := []) (rest := []) (ci := 9) (q0 := 6) hx hb hml hown hg hP hD hK hS hA hnw hgk (x_begin l D ks H.size ad kk V L Z  hMV ) w1051 w767 w768 w157 w769 rfl xgTape hdV_yX9_begin ⟨Nat.le_of_ble_eq_true rfl, Nat.le_of_ble_eq_true rfl⟩ rfl hl.1 rfl (Nat.le_of_ble_eq_true rfl) dX11_named_4 ⟨Nat.le_of_ble_eq_true rfl, Nat.le_of_ble_eq_true rfl⟩) hP hD hK hS hA (fun u3 H locs w4 hP hD hK hS => ?_)
  obtain ⟨V5, L6⟩ := u3
  obtain ⟨hMV5, ajV5, axL6⟩ := w4
  have alL6 : agL [6, 14] L L6 := agL.tr alL axL6 (by decide)
  have hP : va_P D vwCl (xw ad kk V5 L6 Z) H := hP
  have hD : va_D A (xw ad kk V5 L6 Z) := hD
  have hMV5 : rgd bX V5 := hMV5
  have ajV5 : agr [(6, 6), (6, 7), (6, 8), (6, 9), (6, 10)] [12, 13, 14] V V5 := ajV5
  have agV5 : agr [(6, 5), (6, 6), (6, 7), (6, 8), (6, 9), (6, 10)] [12, 13, 14] V V5 := agV.tr ajV5 (by decide) (by decide)
  refine lv_aload_n hx hb dX11_named_7 rfl (lv_at hl 0 rfl) ?_
  refine va_get (D := D) (ci := 11) (v := .ref (ad 6)) (fs := (xfHouse ad V5 L6 Z)) (C := RX11) (T := TX11) (N := 10) hx hb hg inX11 hown hK hP 0 xgHouse rfl 0 (by decide) (hg _ w715) (fun _ h9 => h9) rfl dX11_named_8 ?_
  refine va_getN (D := D) (ci := 9) (v := .int (V5 6 9)) (fs := (xfTape ad V5 L6 Z)) (C := RX9) (T := TX9) (N := 12) hx hb hg inX9 hown hK hP 6 xgTape rfl 9 (by decide) (hnw.use 263 n263 rfl) (fun _ h9 => h9) rfl dX11_named_11 ?_
  refine lv_iconst (v := 3) hx hb dX11_named_14 (by decide) ?_
  refine lv_icmp_ne (tgt := 22) hx hb dX11_named_15 (by decide) (fun c7 => ?_) (fun c7 => ?_)
  · skip
    have f8 : ((V5 6 9)).toInt ≠ 3 := b_neq rfl (by decide) c7
    refine lv_iconst (v := 0) hx hb dX11_named_22 (by decide) ?_
    refine lv_istore_n (lv' := [(2, .int 0), (0, .ref (ad 0)), (1, .int p0)]) hx hb dX11_named_23 rfl hl (by decide) rfl (fun ls hl => ?_)
    refine lv_aload_n hx hb dX11_named_24 rfl (lv_at hl 1 rfl) ?_
    refine va_get (D := D) (ci := 11) (v := .ref (ad 6)) (fs := (xfHouse ad V5 L6 Z)) (C := RX11) (T := TX11) (N := 10) hx hb hg inX11 hown hK hP 0 xgHouse rfl 0 (by decide) (hg _ w715) (fun _ h9 => h9) rfl dX11_named_25 ?_
    refine va_getN (D := D) (ci := 9) (v := .long (L6 6 11)) (fs := (xfTape ad V5 L6 Z)) (C := RX9) (T := TX9) (N := 12) hx hb hg inX9 hown hK hP 6 xgTape rfl 11 (by decide) (hnw.use 267 n267 rfl) (fun _ h9 => h9) rfl dX11_named_28 ?_
    refine lv_topl (fun w9 ew9 => ?_)
    refine lv_lstore_n (lv' := [(3, .long w9), (2, .int 0), (0, .ref (ad 0)), (1, .int p0)]) hx hb dX11_named_31 rfl hl (by decide) rfl (fun ls hl => ?_)
    refine lv_aload_n hx hb dX11_named_32 rfl (lv_at hl 2 rfl) ?_
    refine va_get (D := D) (ci := 11) (v := .ref (ad 6)) (fs := (xfHouse ad V5 L6 Z)) (C := RX11) (T := TX11) (N := 10) hx hb hg inX11 hown hK hP 0 xgHouse rfl 0 (by decide) (hg _ w715) (fun _ h9 => h9) rfl dX11_named_33 ?_
    refine gA_void (gA_runV (As := []) (rest := []) (ci := 9) (q0 := 6) hx hb hml hown hg hP hD hK hS hA hnw hgk (x_next l D ks H.size ad kk V5 L6 Z  hMV5 ) w1052 w852 w853 w157 w854 rfl xgTape hdV_yX9_next ⟨Nat.le_of_ble_eq_true rfl, Nat.le_of_ble_eq_true rfl⟩ rfl hl.1 rfl (Nat.le_of_ble_eq_true rfl) dX11_named_36 ⟨Nat.le_of_ble_eq_true rfl, Nat.le_of_ble_eq_true rfl⟩) hP hD hK hS hA (fun u11 H locs w12 hP hD hK hS => ?_)
    obtain ⟨V13, L14⟩ := u11
    obtain ⟨hMV13, ajV13, axL14⟩ := w12
    have alL14 : agL [6, 14] L L14 := agL.tr alL6 axL14 (by decide)
    have hP : va_P D vwCl (xw ad kk V13 L14 Z) H := hP
    have hD : va_D A (xw ad kk V13 L14 Z) := hD
    have hMV13 : rgd bX V13 := hMV13
    have ajV13 : agr [(6, 8), (6, 9), (6, 10)] [] V5 V13 := ajV13
    have agV13 : agr [(6, 5), (6, 6), (6, 7), (6, 8), (6, 9), (6, 10)] [12, 13, 14] V V13 := agV5.tr ajV13 (by decide) (by decide)
    refine lv_aload_n hx hb dX11_named_39 rfl (lv_at hl 2 rfl) ?_
    refine va_get (D := D) (ci := 11) (v := .ref (ad 6)) (fs := (xfHouse ad V13 L14 Z)) (C := RX11) (T := TX11) (N := 10) hx hb hg inX11 hown hK hP 0 xgHouse rfl 0 (by decide) (hg _ w715) (fun _ h9 => h9) rfl dX11_named_40 ?_
    refine va_getN (D := D) (ci := 9) (v := .int (V13 6 9)) (fs := (xfTape ad V13 L14 Z)) (C := RX9) (T := TX9) (N := 12) hx hb hg inX9 hown hK hP 6 xgTape rfl 9 (by decide) (hnw.use 263 n263 rfl) (fun _ h9 => h9) rfl dX11_named_43 ?_
    refine lv_if_ne (tgt := 53) hx hb dX11_named_46 (by decide) (fun c15 => ?_) (fun c15 => ?_)
    · skip
      have f16 : ((V13 6 9)).toInt ≠ 0 := b_neq rfl (by decide) c15
      refine lv_iconst (v := 0) hx hb dX11_named_53 (by decide) ?_
      refine lv_istore (lv' := [(5, .int 0), (3, .long w9), (2, .int 0), (0, .ref (ad 0)), (1, .int p0)]) hx hb dX11_named_54 hl (by decide) rfl (fun ls hl => ?_)
      refine lv_aload_n hx hb dX11_named_56 rfl (lv_at hl 3 rfl) ?_
      refine va_get (D := D) (ci := 11) (v := .ref (ad 6)) (fs := (xfHouse ad V13 L14 Z)) (C := RX11) (T := TX11) (N := 10) hx hb hg inX11 hown hK hP 0 xgHouse rfl 0 (by decide) (hg _ w715) (fun _ h9 => h9) rfl dX11_named_57 ?_
      refine gA_void (gA_runV (As := []) (rest := []) (ci := 9) (q0 := 6) hx hb hml hown hg hP hD hK hS hA hnw hgk (x_empty l D ks H.size ad kk V13 L14 Z  hMV13 ) w1019 w1020 w1021 w157 w1022 rfl xgTape hdV_yX9_empty ⟨Nat.le_of_ble_eq_true rfl, Nat.le_of_ble_eq_true rfl⟩ rfl hl.1 rfl (Nat.le_of_ble_eq_true rfl) dX11_named_60 ⟨Nat.le_of_ble_eq_true rfl, Nat.le_of_ble_eq_true rfl⟩) hP hD hK hS hA (fun u18 H locs w19 hP hD hK hS => ?_)
      obtain ⟨V21, L22⟩ := u18
      obtain ⟨hMV21, ajV21, axL22, t20⟩ := w19
      have axL22 : L14 = L22 := Eq.symm axL22
      subst axL22
      have hP : va_P D vwCl (xw ad kk V21 L14 Z) H := hP
      have hD : va_D A (xw ad kk V21 L14 Z) := hD
      have hMV21 : rgd bX V21 := hMV21
      have ajV21 : agr [(6, 5)] [] V13 V21 := ajV21
      have agV21 : agr [(6, 5), (6, 6), (6, 7), (6, 8), (6, 9), (6, 10)] [12, 13, 14] V V21 := agV13.tr ajV21 (by decide) (by decide)
      have t20 : (V21 6 5).toInt = 0 := t20
      have r23 : 0 ≤ ((V21 6 5)).toInt ∧ ((V21 6 5)).toInt ≤ 4000 := hMV21 6 5
      refine lv_iload_n hx hb dX11_named_63 rfl (lv_at hl 2 rfl) ?_
      refine lv_if_eq (tgt := 84) hx hb dX11_named_64 (by decide) (fun _ => ?_) (fun q => absurd (by decide) q)
      refine lv_iconst (v := (-1)) hx hb dX11_named_84 (by decide) ?_
      exact W.iret (v := (-1)) hx hb hr (fun t ht hW => ⟨⟨(-1), (V21, L14), rfl, ⟨hMV21, agV21, alL14, (show (V21 6 5).toInt = 0 from by (first | exact om_b66ba74381d5 t20 | omega))⟩, by rw [ht]; exact hP, va_K.moved hW.alike hK, hD⟩, hS.F ht⟩) hS.2.2 dX11_named_85
    · skip
      have f24 : ((V13 6 9)).toInt = 0 := b_eq rfl (by decide) c15
      refine lv_iconst (v := 1) hx hb dX11_named_49 (by decide) ?_
      refine lv_goto (tgt := 54) hx hb dX11_named_50 (by decide) ?_
      refine lv_istore (lv' := [(5, .int 1), (3, .long w9), (2, .int 0), (0, .ref (ad 0)), (1, .int p0)]) hx hb dX11_named_54 hl (by decide) rfl (fun ls hl => ?_)
      refine lv_aload_n hx hb dX11_named_56 rfl (lv_at hl 3 rfl) ?_
      refine va_get (D := D) (ci := 11) (v := .ref (ad 6)) (fs := (xfHouse ad V13 L14 Z)) (C := RX11) (T := TX11) (N := 10) hx hb hg inX11 hown hK hP 0 xgHouse rfl 0 (by decide) (hg _ w715) (fun _ h9 => h9) rfl dX11_named_57 ?_
      refine gA_void (gA_runV (As := []) (rest := []) (ci := 9) (q0 := 6) hx hb hml hown hg hP hD hK hS hA hnw hgk (x_empty l D ks H.size ad kk V13 L14 Z  hMV13 ) w1019 w1020 w1021 w157 w1022 rfl xgTape hdV_yX9_empty ⟨Nat.le_of_ble_eq_true rfl, Nat.le_of_ble_eq_true rfl⟩ rfl hl.1 rfl (Nat.le_of_ble_eq_true rfl) dX11_named_60 ⟨Nat.le_of_ble_eq_true rfl, Nat.le_of_ble_eq_true rfl⟩) hP hD hK hS hA (fun u26 H locs w27 hP hD hK hS => ?_)
      obtain ⟨V29, L30⟩ := u26
      obtain ⟨hMV29, ajV29, axL30, t28⟩ := w27
      have axL30 : L14 = L30 := Eq.symm axL30
      subst axL30
      have hP : va_P D vwCl (xw ad kk V29 L14 Z) H := hP
      have hD : va_D A (xw ad kk V29 L14 Z) := hD
      have hMV29 : rgd bX V29 := hMV29
      have ajV29 : agr [(6, 5)] [] V13 V29 := ajV29
      have agV29 : agr [(6, 5), (6, 6), (6, 7), (6, 8), (6, 9), (6, 10)] [12, 13, 14] V V29 := agV13.tr ajV29 (by decide) (by decide)
      have t28 : (V29 6 5).toInt = 0 := t28
      have r31 : 0 ≤ ((V29 6 5)).toInt ∧ ((V29 6 5)).toInt ≤ 4000 := hMV29 6 5
      refine lv_iload_n hx hb dX11_named_63 rfl (lv_at hl 2 rfl) ?_
      refine lv_if_eq (tgt := 84) hx hb dX11_named_64 (by decide) (fun _ => ?_) (fun q => absurd (by decide) q)
      refine lv_iconst (v := (-1)) hx hb dX11_named_84 (by decide) ?_
      exact W.iret (v := (-1)) hx hb hr (fun t ht hW => ⟨⟨(-1), (V29, L14), rfl, ⟨hMV29, agV29, alL14, (show (V29 6 5).toInt = 0 from by (first | exact om_b66ba74381d5 t28 | omega))⟩, by rw [ht]; exact hP, va_K.moved hW.alike hK, hD⟩, hS.F ht⟩) hS.2.2 dX11_named_85
  · skip
    have f32 : ((V5 6 9)).toInt = 3 := b_eq rfl (by decide) c7
    refine lv_iconst (v := 1) hx hb dX11_named_18 (by decide) ?_
    refine lv_goto (tgt := 23) hx hb dX11_named_19 (by decide) ?_
    refine lv_istore_n (lv' := [(2, .int 1), (0, .ref (ad 0)), (1, .int p0)]) hx hb dX11_named_23 rfl hl (by decide) rfl (fun ls hl => ?_)
    refine lv_aload_n hx hb dX11_named_24 rfl (lv_at hl 1 rfl) ?_
    refine va_get (D := D) (ci := 11) (v := .ref (ad 6)) (fs := (xfHouse ad V5 L6 Z)) (C := RX11) (T := TX11) (N := 10) hx hb hg inX11 hown hK hP 0 xgHouse rfl 0 (by decide) (hg _ w715) (fun _ h9 => h9) rfl dX11_named_25 ?_
    refine va_getN (D := D) (ci := 9) (v := .long (L6 6 11)) (fs := (xfTape ad V5 L6 Z)) (C := RX9) (T := TX9) (N := 12) hx hb hg inX9 hown hK hP 6 xgTape rfl 11 (by decide) (hnw.use 267 n267 rfl) (fun _ h9 => h9) rfl dX11_named_28 ?_
    refine lv_topl (fun w33 ew33 => ?_)
    refine lv_lstore_n (lv' := [(3, .long w33), (2, .int 1), (0, .ref (ad 0)), (1, .int p0)]) hx hb dX11_named_31 rfl hl (by decide) rfl (fun ls hl => ?_)
    refine lv_aload_n hx hb dX11_named_32 rfl (lv_at hl 2 rfl) ?_
    refine va_get (D := D) (ci := 11) (v := .ref (ad 6)) (fs := (xfHouse ad V5 L6 Z)) (C := RX11) (T := TX11) (N := 10) hx hb hg inX11 hown hK hP 0 xgHouse rfl 0 (by decide) (hg _ w715) (fun _ h9 => h9) rfl dX11_named_33 ?_
    refine gA_void (gA_runV (As := []) (rest := []) (ci := 9) (q0 := 6) hx hb hml hown hg hP hD hK hS hA hnw hgk (x_next l D ks H.size ad kk V5 L6 Z  hMV5 ) w1052 w852 w853 w157 w854 rfl xgTape hdV_yX9_next ⟨Nat.le_of_ble_eq_true rfl, Nat.le_of_ble_eq_true rfl⟩ rfl hl.1 rfl (Nat.le_of_ble_eq_true rfl) dX11_named_36 ⟨Nat.le_of_ble_eq_true rfl, Nat.le_of_ble_eq_true rfl⟩) hP hD hK hS hA (fun u35 H locs w36 hP hD hK hS => ?_)
    obtain ⟨V37, L38⟩ := u35
    obtain ⟨hMV37, ajV37, axL38⟩ := w36
    have alL38 : agL [6, 14] L L38 := agL.tr alL6 axL38 (by decide)
    have hP : va_P D vwCl (xw ad kk V37 L38 Z) H := hP
    have hD : va_D A (xw ad kk V37 L38 Z) := hD
    have hMV37 : rgd bX V37 := hMV37
    have ajV37 : agr [(6, 8), (6, 9), (6, 10)] [] V5 V37 := ajV37
    have agV37 : agr [(6, 5), (6, 6), (6, 7), (6, 8), (6, 9), (6, 10)] [12, 13, 14] V V37 := agV5.tr ajV37 (by decide) (by decide)
    refine lv_aload_n hx hb dX11_named_39 rfl (lv_at hl 2 rfl) ?_
    refine va_get (D := D) (ci := 11) (v := .ref (ad 6)) (fs := (xfHouse ad V37 L38 Z)) (C := RX11) (T := TX11) (N := 10) hx hb hg inX11 hown hK hP 0 xgHouse rfl 0 (by decide) (hg _ w715) (fun _ h9 => h9) rfl dX11_named_40 ?_
    refine va_getN (D := D) (ci := 9) (v := .int (V37 6 9)) (fs := (xfTape ad V37 L38 Z)) (C := RX9) (T := TX9) (N := 12) hx hb hg inX9 hown hK hP 6 xgTape rfl 9 (by decide) (hnw.use 263 n263 rfl) (fun _ h9 => h9) rfl dX11_named_43 ?_
    refine lv_if_ne (tgt := 53) hx hb dX11_named_46 (by decide) (fun c39 => ?_) (fun c39 => ?_)
    · skip
      have f40 : ((V37 6 9)).toInt ≠ 0 := b_neq rfl (by decide) c39
      refine lv_iconst (v := 0) hx hb dX11_named_53 (by decide) ?_
      refine lv_istore (lv' := [(5, .int 0), (3, .long w33), (2, .int 1), (0, .ref (ad 0)), (1, .int p0)]) hx hb dX11_named_54 hl (by decide) rfl (fun ls hl => ?_)
      refine lv_aload_n hx hb dX11_named_56 rfl (lv_at hl 3 rfl) ?_
      refine va_get (D := D) (ci := 11) (v := .ref (ad 6)) (fs := (xfHouse ad V37 L38 Z)) (C := RX11) (T := TX11) (N := 10) hx hb hg inX11 hown hK hP 0 xgHouse rfl 0 (by decide) (hg _ w715) (fun _ h9 => h9) rfl dX11_named_57 ?_
      refine gA_void (gA_runV (As := []) (rest := []) (ci := 9) (q0 := 6) hx hb hml hown hg hP hD hK hS hA hnw hgk (x_empty l D ks H.size ad kk V37 L38 Z  hMV37 ) w1019 w1020 w1021 w157 w1022 rfl xgTape hdV_yX9_empty ⟨Nat.le_of_ble_eq_true rfl, Nat.le_of_ble_eq_true rfl⟩ rfl hl.1 rfl (Nat.le_of_ble_eq_true rfl) dX11_named_60 ⟨Nat.le_of_ble_eq_true rfl, Nat.le_of_ble_eq_true rfl⟩) hP hD hK hS hA (fun u42 H locs w43 hP hD hK hS => ?_)
      obtain ⟨V45, L46⟩ := u42
      obtain ⟨hMV45, ajV45, axL46, t44⟩ := w43
      have axL46 : L38 = L46 := Eq.symm axL46
      subst axL46
      have hP : va_P D vwCl (xw ad kk V45 L38 Z) H := hP
      have hD : va_D A (xw ad kk V45 L38 Z) := hD
      have hMV45 : rgd bX V45 := hMV45
      have ajV45 : agr [(6, 5)] [] V37 V45 := ajV45
      have agV45 : agr [(6, 5), (6, 6), (6, 7), (6, 8), (6, 9), (6, 10)] [12, 13, 14] V V45 := agV37.tr ajV45 (by decide) (by decide)
      have t44 : (V45 6 5).toInt = 0 := t44
      have r47 : 0 ≤ ((V45 6 5)).toInt ∧ ((V45 6 5)).toInt ≤ 4000 := hMV45 6 5
      refine lv_iload_n hx hb dX11_named_63 rfl (lv_at hl 2 rfl) ?_
      refine lv_if_eq (tgt := 84) hx hb dX11_named_64 (by decide) (fun q => absurd q (by decide)) (fun _ => ?_)
      refine lv_iload hx hb dX11_named_67 (lv_at hl 0 rfl) ?_
      refine lv_if_eq (tgt := 84) hx hb dX11_named_69 (by decide) (fun _ => ?_) (fun q => absurd (by decide) q)
      refine lv_iconst (v := (-1)) hx hb dX11_named_84 (by decide) ?_
      exact W.iret (v := (-1)) hx hb hr (fun t ht hW => ⟨⟨(-1), (V45, L38), rfl, ⟨hMV45, agV45, alL38, (show (V45 6 5).toInt = 0 from by (first | exact om_b66ba74381d5 t44 | omega))⟩, by rw [ht]; exact hP, va_K.moved hW.alike hK, hD⟩, hS.F ht⟩) hS.2.2 dX11_named_85
    · skip
      have f48 : ((V37 6 9)).toInt = 0 := b_eq rfl (by decide) c39
      refine lv_iconst (v := 1) hx hb dX11_named_49 (by decide) ?_
      refine lv_goto (tgt := 54) hx hb dX11_named_50 (by decide) ?_
      refine lv_istore (lv' := [(5, .int 1), (3, .long w33), (2, .int 1), (0, .ref (ad 0)), (1, .int p0)]) hx hb dX11_named_54 hl (by decide) rfl (fun ls hl => ?_)
      refine lv_aload_n hx hb dX11_named_56 rfl (lv_at hl 3 rfl) ?_
      refine va_get (D := D) (ci := 11) (v := .ref (ad 6)) (fs := (xfHouse ad V37 L38 Z)) (C := RX11) (T := TX11) (N := 10) hx hb hg inX11 hown hK hP 0 xgHouse rfl 0 (by decide) (hg _ w715) (fun _ h9 => h9) rfl dX11_named_57 ?_
      refine gA_void (gA_runV (As := []) (rest := []) (ci := 9) (q0 := 6) hx hb hml hown hg hP hD hK hS hA hnw hgk (x_empty l D ks H.size ad kk V37 L38 Z  hMV37 ) w1019 w1020 w1021 w157 w1022 rfl xgTape hdV_yX9_empty ⟨Nat.le_of_ble_eq_true rfl, Nat.le_of_ble_eq_true rfl⟩ rfl hl.1 rfl (Nat.le_of_ble_eq_true rfl) dX11_named_60 ⟨Nat.le_of_ble_eq_true rfl, Nat.le_of_ble_eq_true rfl⟩) hP hD hK hS hA (fun u50 H locs w51 hP hD hK hS => ?_)
      obtain ⟨V53, L54⟩ := u50
      obtain ⟨hMV53, ajV53, axL54, t52⟩ := w51
      have axL54 : L38 = L54 := Eq.symm axL54
      subst axL54
      have hP : va_P D vwCl (xw ad kk V53 L38 Z) H := hP
      have hD : va_D A (xw ad kk V53 L38 Z) := hD
      have hMV53 : rgd bX V53 := hMV53
      have ajV53 : agr [(6, 5)] [] V37 V53 := ajV53
      have agV53 : agr [(6, 5), (6, 6), (6, 7), (6, 8), (6, 9), (6, 10)] [12, 13, 14] V V53 := agV37.tr ajV53 (by decide) (by decide)
      have t52 : (V53 6 5).toInt = 0 := t52
      have r55 : 0 ≤ ((V53 6 5)).toInt ∧ ((V53 6 5)).toInt ≤ 4000 := hMV53 6 5
      refine lv_iload_n hx hb dX11_named_63 rfl (lv_at hl 2 rfl) ?_
      refine lv_if_eq (tgt := 84) hx hb dX11_named_64 (by decide) (fun q => absurd q (by decide)) (fun _ => ?_)
      refine lv_iload hx hb dX11_named_67 (lv_at hl 0 rfl) ?_
      refine lv_if_eq (tgt := 84) hx hb dX11_named_69 (by decide) (fun q => absurd q (by decide)) (fun _ => ?_)
      refine lv_aload_n hx hb dX11_named_72 rfl (lv_at hl 3 rfl) ?_
      refine va_get (D := D) (ci := 11) (v := .ref (ad (38 + Int32.toNatClampNeg (V53 0 6)))) (fs := (xfHouse ad V53 L38 Z)) (C := RX11) (T := TX11) (N := 10) hx hb hg inX11 hown hK hP 0 xgHouse rfl 6 (by decide) (hg _ w721) (fun _ h9 => h9) rfl dX11_named_73 ?_
      have pq56 : (V53 0 6).toInt = ((V 0 6)).toInt := congrArg Int32.toInt ((ajV53 0 6 rfl).trans ((ajV37 0 6 rfl).trans (ajV5 0 6 rfl)))
      refine g_topv (v := .ref (ad (38 + b))) (rfP (by omega)) ?_
      refine lv_lload_n hx hb dX11_named_76 rfl (lv_at hl 1 rfl) ?_
      refine lv_iload_n hx hb dX11_named_77 rfl (lv_at hl 4 rfl) ?_
      refine gA_int (gA_runV (As := [.long w33, .int p0]) (rest := []) (ci := 0) (q0 := (38 + b)) hx hb hml hown hg hP hD hK hS hA hnw hgk (x_numberOf l D ks H.size ad kk V53 L38 Z w33 p0 (b) hMV53 (show b < 2 from by (first | exact om_f940a4667dd6 hb2 | omega))) w1053 w1054 w1055 w167 w1056 rfl (xgBook hb2) hdV_yX0_numberOf ⟨Nat.le_of_ble_eq_true rfl, Nat.le_of_ble_eq_true rfl⟩ rfl hl.1 rfl (Nat.le_of_ble_eq_true rfl) dX11_named_78 ⟨Nat.le_of_ble_eq_true rfl, Nat.le_of_ble_eq_true rfl⟩) hP hD hK hS hA (fun z57 u58 H locs w59 hP hD hK hS => ?_)
      refine lv_goto (tgt := 85) hx hb dX11_named_81 (by decide) ?_
      exact W.iret (v := z57) hx hb hr (fun t ht hW => ⟨⟨z57, (V53, L38), rfl, ⟨hMV53, agV53, alL38, (show (V53 6 5).toInt = 0 from by (first | exact om_b66ba74381d5 t52 | omega))⟩, by rw [ht]; exact hP, va_K.moved hW.alike hK, hD⟩, hS.F ht⟩) hS.2.2 dX11_named_85
abbrev r_x_L_component : Room := { frames := 20, cells := 1, slots := 6, locals := 300 }
abbrev q_x_L_component (D : va_G) (ad : Nat → Nat) (kk : Nat → ClassId) (V : Vf) (L : Lf) (Z : XZ) (ao : Nat) (ka : ClassId) (A : Nat → Prop) : Array Value → State → Outcome → State → Prop := va_Qi (fun (_ : Int32) (_ : Nat → Int64) => True) (fun u t => gq D A ((ao, .inl (ka, 1, .inr (.inl u))) :: xw ad kk V L Z) ((ka, .long) :: xty kk Z) t) A
set_option maxHeartbeats 4000000 in
set_option maxRecDepth 100000 in
theorem x_L_component (l : Launch) (hst : l.stackTraces = false) (D : va_G) (ks : KS) (kx : KX) (sz : Nat) (ad : Nat → Nat) (kk : Nat → ClassId) (V : Vf) (L : Lf) (Z : XZ) (p0 p1 : Int32) (b : Nat) (ao : Nat) (ka : ClassId) (f : Nat → Int64) (hMV : rgd bX V) (hb2 : b < 2) (shk : (V 0 6).toInt = (b : Int)) : Met l yL_component (Cond.codeWith yL_component cL_component 5 (some .int) [(0, 10, 13, 13)] :: GW) r_x_L_component (va_Pc [.ref (ad 0), .int p0, .int p1, .ref ao] (gpx D ks kx ((ao, .inl (ka, 1, .inr (.inl f))) :: xw ad kk V L Z) ((ka, .long) :: xty kk Z) sz)) (q_x_L_component D ad kk V L Z ao ka (va_A ((ao, .inl (ka, 1, .inr (.inl f))) :: xw ad kk V L Z) sz)) 1 6 (va_A ((ao, .inl (ka, 1, .inr (.inl f))) :: xw ad kk V L Z) sz) := by
  refine g_metW (q_x_L_component D ad kk V L Z ao ka) (by decide) (Nat.le_of_ble_eq_true rfl) ?_
  intro p e s m below meth c A ls H locs hx hb hr hml hown hg hlocks hnw hgk hgx hT hP hK hD hS hA hl
  have hown : s.vm.findClass RL = some m.cls := hown
  have hl : lv_has ls 5 [(0, .ref (ad 0)), (1, .int p0), (2, .int p1), (3, .ref ao)] := hl
  have hP : va_P D vwCl ((ao, .inl (ka, 1, .inr (.inl f))) :: xw ad kk V L Z) H := hP
  have hD : va_D A ((ao, .inl (ka, 1, .inr (.inl f))) :: xw ad kk V L Z) := hD
  have hK : va_K D vwCl ((ka, .long) :: xty kk Z) s := hK
  refine lv_aload_n hx hb dL_component_0 rfl (lv_at hl 3 rfl) ?_
  refine lv_iconst (v := 0) hx hb dL_component_1 (by decide) ?_
  refine lv_aload_n hx hb dL_component_2 rfl (lv_at hl 0 rfl) ?_
  refine lv_iload_n hx hb dL_component_3 rfl (lv_at hl 1 rfl) ?_
  refine lv_iload_n hx hb dL_component_4 rfl (lv_at hl 2 rfl) ?_
  have hPx := va_Ptl hP
  have hDx := va_Dtl hD
  have hKx : va_K D vwCl (xty kk Z) s := ⟨hK.1, fun k q h => hK.2 (k + 1) q (by rw [List.getElem?_cons_succ]; exact h)⟩
  have hF := gA_free hDx hS hA
  refine vx_calli (gA_runX (As := [.int p0, .int p1]) (rest := [.int 0, .ref ao]) (ci := 11) (q0 := 0) hx hb hml hown hg hPx hDx hKx hS hA hnw hgk hgx (x_h_component l hst D ks kx H.size ad kk V L Z p0 p1 b hMV hb2 shk) w1601 w1602 w1603 w156 w1604 rfl xgHouse hdV_yX11_component ⟨Nat.le_of_ble_eq_true rfl, Nat.le_of_ble_eq_true rfl⟩ rfl hl.1 rfl (Nat.le_of_ble_eq_true rfl) dL_component_5 ⟨Nat.le_of_ble_eq_true rfl, Nat.le_of_ble_eq_true rfl⟩) hS (fun q _ h => hF q h) hF (fun q _ h => hF q h) (fun E ce q9 u t H1 locs1 ht hvm hpx hBX hz hk1 hS hce hcv hcl => ?_) (fun r u t H1 locs1 ht hvm hw hB hz hk1 hS => ?_)
  · have hBX : E = nseN ∧ gq D (va_A (xw ad kk V L Z) H.size) (xw ad kk V L Z) (xty kk Z) t := hBX
    obtain ⟨hE, hP1, hK1, hD1⟩ := hBX
    subst hE
    rw [ht] at hP1
    have hP : va_P D vwCl ((ao, .inl (ka, 1, .inr (.inl f))) :: xw ad kk V L Z) H1 := va_Pcn (va_side (va_Phd hP) (dj_hd hD).sy hk1) hP1
    refine vx_catch hown [] { startPc := 0, endPc := 10, handlerPc := 13, catchType := 13 } [] hT (fun z hz => by cases hz) (by decide) (by decide) (hg _ w1600) (va_Nw.use rfl (hgx.2.2 _ (by decide))) hce hcv hcl ?_
    refine lv_astore (lv' := (4, .ref q9) :: [(0, .ref (ad 0)), (1, .int p0), (2, .int p1), (3, .ref ao)]) hx hb dL_component_13 hl (by decide) rfl (fun ls hl => ?_)
    refine lv_iconst (v := 1) hx hb dL_component_15 (by decide) ?_
    refine W.widen (k := 1) (n := 6) (Nat.le_of_ble_eq_true rfl) (Nat.le_of_ble_eq_true rfl) ?_
    exact W.iret (v := 1) hx hb hr (fun t ht hW => ⟨⟨1, f, rfl, trivial, by rw [ht]; exact hP, va_K.moved hW.alike hK, hD⟩, hS.F ht⟩) hS.2.2 dL_component_16
  · obtain ⟨hP1, hK1, hD1⟩ := hB
    rw [ht] at hP1
    have hP : va_P D vwCl ((ao, .inl (ka, 1, .inr (.inl f))) :: xw ad kk V L Z) H1 := va_Pcn (va_side (va_Phd hP) (dj_hd hD).sy hk1) hP1
    refine lv_i2l hx hb dL_component_8 rfl ?_
    refine va_last (D := D) (i := 0) hx hb hK hP hD hS 0 0 rfl rfl (i_in (a := 0) (by decide) (by decide)) dL_component_9 (fun H locs hP hD hS => ?_)
    have hP : va_P D vwCl ((ao, .inl (ka, 1, .inr (.inl (vp_updL f (Int32.toNatClampNeg 0) r.toInt64)))) :: xw ad kk V L Z) H := hP
    have hD : va_D A ((ao, .inl (ka, 1, .inr (.inl (vp_updL f (Int32.toNatClampNeg 0) r.toInt64)))) :: xw ad kk V L Z) := hD
    refine lv_goto (tgt := 17) hx hb dL_component_10 (by decide) ?_
    refine lv_iconst (v := 0) hx hb dL_component_17 (by decide) ?_
    refine W.widen (k := 1) (n := 6) (Nat.le_of_ble_eq_true rfl) (Nat.le_of_ble_eq_true rfl) ?_
    exact W.iret (v := 0) hx hb hr (fun t ht hW => ⟨⟨0, vp_updL f (Int32.toNatClampNeg 0) r.toInt64, rfl, trivial, by rw [ht]; exact hP, va_K.moved hW.alike hK, hD⟩, hS.F ht⟩) hS.2.2 dL_component_18
abbrev r_x_L_object : Room := { frames := 20, cells := 1, slots := 6, locals := 300 }
abbrev q_x_L_object (D : va_G) (ad : Nat → Nat) (kk : Nat → ClassId) (V : Vf) (L : Lf) (Z : XZ) (ao : Nat) (ka : ClassId) (A : Nat → Prop) : Array Value → State → Outcome → State → Prop := va_Qi (fun (_ : Int32) (_ : Nat → Int64) => True) (fun u t => gq D A ((ao, .inl (ka, 1, .inr (.inl u))) :: xw ad kk V L Z) ((ka, .long) :: xty kk Z) t) A
set_option maxHeartbeats 4000000 in
set_option maxRecDepth 100000 in
theorem x_L_object (l : Launch) (hst : l.stackTraces = false) (D : va_G) (ks : KS) (kx : KX) (sz : Nat) (ad : Nat → Nat) (kk : Nat → ClassId) (V : Vf) (L : Lf) (Z : XZ) (p0 p1 : Int32)  (ao : Nat) (ka : ClassId) (f : Nat → Int64) (hMV : rgd bX V)  : Met l yL_object (Cond.codeWith yL_object cL_object 5 (some .int) [(0, 10, 13, 13)] :: GW) r_x_L_object (va_Pc [.ref (ad 0), .int p0, .int p1, .ref ao] (gpx D ks kx ((ao, .inl (ka, 1, .inr (.inl f))) :: xw ad kk V L Z) ((ka, .long) :: xty kk Z) sz)) (q_x_L_object D ad kk V L Z ao ka (va_A ((ao, .inl (ka, 1, .inr (.inl f))) :: xw ad kk V L Z) sz)) 1 6 (va_A ((ao, .inl (ka, 1, .inr (.inl f))) :: xw ad kk V L Z) sz) := by
  refine g_metW (q_x_L_object D ad kk V L Z ao ka) (by decide) (Nat.le_of_ble_eq_true rfl) ?_
  intro p e s m below meth c A ls H locs hx hb hr hml hown hg hlocks hnw hgk hgx hT hP hK hD hS hA hl
  have hown : s.vm.findClass RL = some m.cls := hown
  have hl : lv_has ls 5 [(0, .ref (ad 0)), (1, .int p0), (2, .int p1), (3, .ref ao)] := hl
  have hP : va_P D vwCl ((ao, .inl (ka, 1, .inr (.inl f))) :: xw ad kk V L Z) H := hP
  have hD : va_D A ((ao, .inl (ka, 1, .inr (.inl f))) :: xw ad kk V L Z) := hD
  have hK : va_K D vwCl ((ka, .long) :: xty kk Z) s := hK
  refine lv_aload_n hx hb dL_object_0 rfl (lv_at hl 3 rfl) ?_
  refine lv_iconst (v := 0) hx hb dL_object_1 (by decide) ?_
  refine lv_aload_n hx hb dL_object_2 rfl (lv_at hl 0 rfl) ?_
  refine lv_iload_n hx hb dL_object_3 rfl (lv_at hl 1 rfl) ?_
  refine lv_iload_n hx hb dL_object_4 rfl (lv_at hl 2 rfl) ?_
  have hPx := va_Ptl hP
  have hDx := va_Dtl hD
  have hKx : va_K D vwCl (xty kk Z) s := ⟨hK.1, fun k q h => hK.2 (k + 1) q (by rw [List.getElem?_cons_succ]; exact h)⟩
  have hF := gA_free hDx hS hA
  refine vx_calli (gA_runX (As := [.int p0, .int p1]) (rest := [.int 0, .ref ao]) (ci := 11) (q0 := 0) hx hb hml hown hg hPx hDx hKx hS hA hnw hgk hgx (x_h_object l hst D ks kx H.size ad kk V L Z p0 p1  hMV ) w1674 w1675 w1676 w156 w1677 rfl xgHouse hdV_yX11_object ⟨Nat.le_of_ble_eq_true rfl, Nat.le_of_ble_eq_true rfl⟩ rfl hl.1 rfl (Nat.le_of_ble_eq_true rfl) dL_object_5 ⟨Nat.le_of_ble_eq_true rfl, Nat.le_of_ble_eq_true rfl⟩) hS (fun q _ h => hF q h) hF (fun q _ h => hF q h) (fun E ce q9 u t H1 locs1 ht hvm hpx hBX hz hk1 hS hce hcv hcl => ?_) (fun r u t H1 locs1 ht hvm hw hB hz hk1 hS => ?_)
  · have hBX : E = nseN ∧ gq D (va_A (xw ad kk V L Z) H.size) (xw ad kk V L Z) (xty kk Z) t := hBX
    obtain ⟨hE, hP1, hK1, hD1⟩ := hBX
    subst hE
    rw [ht] at hP1
    have hP : va_P D vwCl ((ao, .inl (ka, 1, .inr (.inl f))) :: xw ad kk V L Z) H1 := va_Pcn (va_side (va_Phd hP) (dj_hd hD).sy hk1) hP1
    refine vx_catch hown [] { startPc := 0, endPc := 10, handlerPc := 13, catchType := 13 } [] hT (fun z hz => by cases hz) (by decide) (by decide) (hg _ w1600) (va_Nw.use rfl (hgx.2.2 _ (by decide))) hce hcv hcl ?_
    refine lv_astore (lv' := (4, .ref q9) :: [(0, .ref (ad 0)), (1, .int p0), (2, .int p1), (3, .ref ao)]) hx hb dL_object_13 hl (by decide) rfl (fun ls hl => ?_)
    refine lv_iconst (v := 1) hx hb dL_object_15 (by decide) ?_
    refine W.widen (k := 1) (n := 6) (Nat.le_of_ble_eq_true rfl) (Nat.le_of_ble_eq_true rfl) ?_
    exact W.iret (v := 1) hx hb hr (fun t ht hW => ⟨⟨1, f, rfl, trivial, by rw [ht]; exact hP, va_K.moved hW.alike hK, hD⟩, hS.F ht⟩) hS.2.2 dL_object_16
  · obtain ⟨hP1, hK1, hD1⟩ := hB
    rw [ht] at hP1
    have hP : va_P D vwCl ((ao, .inl (ka, 1, .inr (.inl f))) :: xw ad kk V L Z) H1 := va_Pcn (va_side (va_Phd hP) (dj_hd hD).sy hk1) hP1
    refine lv_i2l hx hb dL_object_8 rfl ?_
    refine va_last (D := D) (i := 0) hx hb hK hP hD hS 0 0 rfl rfl (i_in (a := 0) (by decide) (by decide)) dL_object_9 (fun H locs hP hD hS => ?_)
    have hP : va_P D vwCl ((ao, .inl (ka, 1, .inr (.inl (vp_updL f (Int32.toNatClampNeg 0) r.toInt64)))) :: xw ad kk V L Z) H := hP
    have hD : va_D A ((ao, .inl (ka, 1, .inr (.inl (vp_updL f (Int32.toNatClampNeg 0) r.toInt64)))) :: xw ad kk V L Z) := hD
    refine lv_goto (tgt := 17) hx hb dL_object_10 (by decide) ?_
    refine lv_iconst (v := 0) hx hb dL_object_17 (by decide) ?_
    refine W.widen (k := 1) (n := 6) (Nat.le_of_ble_eq_true rfl) (Nat.le_of_ble_eq_true rfl) ?_
    exact W.iret (v := 0) hx hb hr (fun t ht hW => ⟨⟨0, vp_updL f (Int32.toNatClampNeg 0) r.toInt64, rfl, trivial, by rw [ht]; exact hP, va_K.moved hW.alike hK, hD⟩, hS.F ht⟩) hS.2.2 dL_object_18
end
section
theorem fill_up {f g h : Nat → Int32} {i : Nat} {pv : Int32} (hg : ∀ q : Nat, g q = if q < i then pv else f q) (e : h = upd g i pv) : ∀ q : Nat, h q = if q < i + 1 then pv else f q := by
  intro q
  rw [e]
  show (if q = i then pv else g q) = _
  by_cases z : q = i
  · rw [if_pos z, if_pos (by omega)]
  · rw [if_neg z, hg q]
    by_cases y : q < i
    · rw [if_pos y, if_pos (by omega)]
    · rw [if_neg y, if_neg (by omega)]
theorem kw48 : ∀ i, i < 155 → ¬ kwc i = 32 → ¬ kwc i < 48 := by decide +kernel
theorem kw57 : ∀ i, i < 155 → ¬ kwc i = 32 → kwc i > 57 := by decide +kernel
theorem sp_lt : ∀ i, i < 155 → sp i < 28 := by decide +kernel
def kc : Nat → Nat → Int64
  | 0, _ => 0
  | i + 1, j => if kwc i = 32 then kc i j else (if j = sp i then kc i j * 37 + Int32.toInt64 (kwc i - 97 + 1) else kc i j)
theorem kc_kg : ∀ j, j < 28 → kc 155 j = kg 155 j := by decide +kernel
theorem kc_p {i : Nat} (h : kwc i = 32) (j : Nat) : kc (i + 1) j = kc i j := if_pos h
theorem kc_n {i : Nat} (h : ¬ kwc i = 32) (j : Nat) : kc (i + 1) j = if j = sp i then kc i j * 37 + Int32.toInt64 (kwc i - 97 + 1) else kc i j := if_neg h
theorem kc_up {i k : Nat} {g : Nat → Int64} (hk : k = sp i) (hg : ∀ j : Nat, g j = kc i j) (j : Nat) : vp_updL g k (g k * 37 + Int32.toInt64 (kwc i - 97 + 1)) j = if j = sp i then kc i j * 37 + Int32.toInt64 (kwc i - 97 + 1) else kc i j := by
  unfold vp_updL
  rw [← hk]
  by_cases h : j = k
  · rw [if_pos h, if_pos h, h, hg k]
  · rw [if_neg h, if_neg h]
    exact hg j

theorem w478 : Cond.methodLink RX6 3 objectInit ∈ GW := gw_k tk9_2 83 (by decide +kernel) rfl
theorem w574 : Cond.methodLink RX10 1 objectInit ∈ GW := gw_k tk9_2 179 (by decide +kernel) rfl
theorem w498 : Cond.methodLink RX3 3 objectInit ∈ GW := gw_k tk9_2 103 (by decide +kernel) rfl
theorem w434 : Cond.methodLink RX7 3 objectInit ∈ GW := gw_k tk9_2 39 (by decide +kernel) rfl
theorem w337 : Cond.methodLink RX2 3 objectInit ∈ GW := gw_k tk9_1 182 (by decide +kernel) rfl
theorem w303 : Cond.methodLink RX1 3 objectInit ∈ GW := gw_k tk9_1 148 (by decide +kernel) rfl
theorem w664 : Cond.methodLink RX5 3 objectInit ∈ GW := gw_k tk9_3 29 (by decide +kernel) rfl
theorem w369 : Cond.methodLink RX8 3 objectInit ∈ GW := gw_k tk9_1 214 (by decide +kernel) rfl
theorem w195 : Cond.methodLink RX9 3 objectInit ∈ GW := gw_k tk9_1 40 (by decide +kernel) rfl
theorem w295 : Cond.arrayClass .byte ∈ GW := gw_k tk9_1 140 (by decide +kernel) rfl
theorem w197 : Cond.methodLink RX9 31 yJ0_length_8abf5 ∈ GW := gw_k tk9_1 42 (by decide +kernel) rfl
theorem w207 : Cond.methodLink RX9 37 yJ0_charAt_5068e ∈ GW := gw_k tk9_1 52 (by decide +kernel) rfl
theorem dk9_dX6_init_0_0 : dOk cX6_init [(0, .aload_n 0, 1), (1, .invokespecial 3, 3), (4, .aload_n 0, 1), (5, .iload_n 1, 1), (6, .ifCond .le 7, 3), (9, .iload_n 1, 1), (10, .goto 4, 3), (14, .newarray .long, 2), (16, .putfield 9, 3), (19, .return_, 1)] = true := by decide +kernel
theorem dX6_init_0 : decode cX6_init 0 = .ok (.aload_n 0, 1) := dr9 dk9_dX6_init_0_0 0 (0, .aload_n 0, 1) rfl
theorem dX6_init_1 : decode cX6_init 1 = .ok (.invokespecial 3, 3) := dr9 dk9_dX6_init_0_0 1 (1, .invokespecial 3, 3) rfl
theorem dX6_init_4 : decode cX6_init 4 = .ok (.aload_n 0, 1) := dr9 dk9_dX6_init_0_0 2 (4, .aload_n 0, 1) rfl
theorem dX6_init_5 : decode cX6_init 5 = .ok (.iload_n 1, 1) := dr9 dk9_dX6_init_0_0 3 (5, .iload_n 1, 1) rfl
theorem dX6_init_6 : decode cX6_init 6 = .ok (.ifCond .le 7, 3) := dr9 dk9_dX6_init_0_0 4 (6, .ifCond .le 7, 3) rfl
theorem dX6_init_9 : decode cX6_init 9 = .ok (.iload_n 1, 1) := dr9 dk9_dX6_init_0_0 5 (9, .iload_n 1, 1) rfl
theorem dX6_init_10 : decode cX6_init 10 = .ok (.goto 4, 3) := dr9 dk9_dX6_init_0_0 6 (10, .goto 4, 3) rfl
theorem dX6_init_14 : decode cX6_init 14 = .ok (.newarray .long, 2) := dr9 dk9_dX6_init_0_0 7 (14, .newarray .long, 2) rfl
theorem dX6_init_16 : decode cX6_init 16 = .ok (.putfield 9, 3) := dr9 dk9_dX6_init_0_0 8 (16, .putfield 9, 3) rfl
theorem dX6_init_19 : decode cX6_init 19 = .ok (.return_, 1) := dr9 dk9_dX6_init_0_0 9 (19, .return_, 1) rfl
theorem dk9_dX10_init_0_0 : dOk cX10_init [(0, .aload_n 0, 1), (1, .invokespecial 1, 3), (4, .return_, 1)] = true := by decide +kernel
theorem dX10_init_0 : decode cX10_init 0 = .ok (.aload_n 0, 1) := dr9 dk9_dX10_init_0_0 0 (0, .aload_n 0, 1) rfl
theorem dX10_init_1 : decode cX10_init 1 = .ok (.invokespecial 1, 3) := dr9 dk9_dX10_init_0_0 1 (1, .invokespecial 1, 3) rfl
theorem dX10_init_4 : decode cX10_init 4 = .ok (.return_, 1) := dr9 dk9_dX10_init_0_0 2 (4, .return_, 1) rfl
theorem dk9_dX3_init_0_0 : dOk cX3_init [(0, .aload_n 0, 1), (1, .invokespecial 3, 3), (4, .aload_n 0, 1), (5, .bipush 8, 2), (7, .newarray .int, 2), (9, .putfield 9, 3), (12, .aload_n 0, 1), (13, .bipush 8, 2), (15, .newarray .int, 2), (17, .putfield 15, 3), (20, .aload_n 0, 1), (21, .bipush 8, 2), (23, .newarray .int, 2), (25, .putfield 18, 3), (28, .aload_n 0, 1), (29, .bipush 20, 2), (31, .newarray .int, 2), (33, .putfield 21, 3), (36, .return_, 1)] = true := by decide +kernel
theorem dX3_init_0 : decode cX3_init 0 = .ok (.aload_n 0, 1) := dr9 dk9_dX3_init_0_0 0 (0, .aload_n 0, 1) rfl
theorem dX3_init_1 : decode cX3_init 1 = .ok (.invokespecial 3, 3) := dr9 dk9_dX3_init_0_0 1 (1, .invokespecial 3, 3) rfl
theorem dX3_init_4 : decode cX3_init 4 = .ok (.aload_n 0, 1) := dr9 dk9_dX3_init_0_0 2 (4, .aload_n 0, 1) rfl
theorem dX3_init_5 : decode cX3_init 5 = .ok (.bipush 8, 2) := dr9 dk9_dX3_init_0_0 3 (5, .bipush 8, 2) rfl
theorem dX3_init_7 : decode cX3_init 7 = .ok (.newarray .int, 2) := dr9 dk9_dX3_init_0_0 4 (7, .newarray .int, 2) rfl
theorem dX3_init_9 : decode cX3_init 9 = .ok (.putfield 9, 3) := dr9 dk9_dX3_init_0_0 5 (9, .putfield 9, 3) rfl
theorem dX3_init_12 : decode cX3_init 12 = .ok (.aload_n 0, 1) := dr9 dk9_dX3_init_0_0 6 (12, .aload_n 0, 1) rfl
theorem dX3_init_13 : decode cX3_init 13 = .ok (.bipush 8, 2) := dr9 dk9_dX3_init_0_0 7 (13, .bipush 8, 2) rfl
theorem dX3_init_15 : decode cX3_init 15 = .ok (.newarray .int, 2) := dr9 dk9_dX3_init_0_0 8 (15, .newarray .int, 2) rfl
theorem dX3_init_17 : decode cX3_init 17 = .ok (.putfield 15, 3) := dr9 dk9_dX3_init_0_0 9 (17, .putfield 15, 3) rfl
theorem dX3_init_20 : decode cX3_init 20 = .ok (.aload_n 0, 1) := dr9 dk9_dX3_init_0_0 10 (20, .aload_n 0, 1) rfl
theorem dX3_init_21 : decode cX3_init 21 = .ok (.bipush 8, 2) := dr9 dk9_dX3_init_0_0 11 (21, .bipush 8, 2) rfl
theorem dX3_init_23 : decode cX3_init 23 = .ok (.newarray .int, 2) := dr9 dk9_dX3_init_0_0 12 (23, .newarray .int, 2) rfl
theorem dX3_init_25 : decode cX3_init 25 = .ok (.putfield 18, 3) := dr9 dk9_dX3_init_0_0 13 (25, .putfield 18, 3) rfl
theorem dX3_init_28 : decode cX3_init 28 = .ok (.aload_n 0, 1) := dr9 dk9_dX3_init_0_0 14 (28, .aload_n 0, 1) rfl
theorem dX3_init_29 : decode cX3_init 29 = .ok (.bipush 20, 2) := dr9 dk9_dX3_init_0_0 15 (29, .bipush 20, 2) rfl
theorem dX3_init_31 : decode cX3_init 31 = .ok (.newarray .int, 2) := dr9 dk9_dX3_init_0_0 16 (31, .newarray .int, 2) rfl
theorem dX3_init_33 : decode cX3_init 33 = .ok (.putfield 21, 3) := dr9 dk9_dX3_init_0_0 17 (33, .putfield 21, 3) rfl
theorem dX3_init_36 : decode cX3_init 36 = .ok (.return_, 1) := dr9 dk9_dX3_init_0_0 18 (36, .return_, 1) rfl
theorem dk9_dX7_init_0_0 : dOk cX7_init [(0, .aload_n 0, 1), (1, .invokespecial 3, 3), (4, .aload_n 0, 1), (5, .bipush 100, 2), (7, .newarray .int, 2), (9, .putfield 9, 3), (12, .aload_n 0, 1), (13, .bipush 100, 2), (15, .newarray .int, 2), (17, .putfield 15, 3), (20, .aload_n 0, 1), (21, .bipush 100, 2), (23, .newarray .int, 2), (25, .putfield 18, 3), (28, .aload_n 0, 1), (29, .sipush 300, 3), (32, .newarray .int, 2), (34, .putfield 21, 3), (37, .aload_n 0, 1), (38, .sipush 300, 3), (41, .newarray .int, 2), (43, .putfield 24, 3), (46, .return_, 1)] = true := by decide +kernel
theorem dX7_init_0 : decode cX7_init 0 = .ok (.aload_n 0, 1) := dr9 dk9_dX7_init_0_0 0 (0, .aload_n 0, 1) rfl
theorem dX7_init_1 : decode cX7_init 1 = .ok (.invokespecial 3, 3) := dr9 dk9_dX7_init_0_0 1 (1, .invokespecial 3, 3) rfl
theorem dX7_init_4 : decode cX7_init 4 = .ok (.aload_n 0, 1) := dr9 dk9_dX7_init_0_0 2 (4, .aload_n 0, 1) rfl
theorem dX7_init_5 : decode cX7_init 5 = .ok (.bipush 100, 2) := dr9 dk9_dX7_init_0_0 3 (5, .bipush 100, 2) rfl
theorem dX7_init_7 : decode cX7_init 7 = .ok (.newarray .int, 2) := dr9 dk9_dX7_init_0_0 4 (7, .newarray .int, 2) rfl
theorem dX7_init_9 : decode cX7_init 9 = .ok (.putfield 9, 3) := dr9 dk9_dX7_init_0_0 5 (9, .putfield 9, 3) rfl
theorem dX7_init_12 : decode cX7_init 12 = .ok (.aload_n 0, 1) := dr9 dk9_dX7_init_0_0 6 (12, .aload_n 0, 1) rfl
theorem dX7_init_13 : decode cX7_init 13 = .ok (.bipush 100, 2) := dr9 dk9_dX7_init_0_0 7 (13, .bipush 100, 2) rfl
theorem dX7_init_15 : decode cX7_init 15 = .ok (.newarray .int, 2) := dr9 dk9_dX7_init_0_0 8 (15, .newarray .int, 2) rfl
theorem dX7_init_17 : decode cX7_init 17 = .ok (.putfield 15, 3) := dr9 dk9_dX7_init_0_0 9 (17, .putfield 15, 3) rfl
theorem dX7_init_20 : decode cX7_init 20 = .ok (.aload_n 0, 1) := dr9 dk9_dX7_init_0_0 10 (20, .aload_n 0, 1) rfl
theorem dX7_init_21 : decode cX7_init 21 = .ok (.bipush 100, 2) := dr9 dk9_dX7_init_0_0 11 (21, .bipush 100, 2) rfl
theorem dX7_init_23 : decode cX7_init 23 = .ok (.newarray .int, 2) := dr9 dk9_dX7_init_0_0 12 (23, .newarray .int, 2) rfl
theorem dX7_init_25 : decode cX7_init 25 = .ok (.putfield 18, 3) := dr9 dk9_dX7_init_0_0 13 (25, .putfield 18, 3) rfl
theorem dX7_init_28 : decode cX7_init 28 = .ok (.aload_n 0, 1) := dr9 dk9_dX7_init_0_0 14 (28, .aload_n 0, 1) rfl
theorem dX7_init_29 : decode cX7_init 29 = .ok (.sipush 300, 3) := dr9 dk9_dX7_init_0_0 15 (29, .sipush 300, 3) rfl
theorem dX7_init_32 : decode cX7_init 32 = .ok (.newarray .int, 2) := dr9 dk9_dX7_init_0_0 16 (32, .newarray .int, 2) rfl
theorem dX7_init_34 : decode cX7_init 34 = .ok (.putfield 21, 3) := dr9 dk9_dX7_init_0_0 17 (34, .putfield 21, 3) rfl
theorem dX7_init_37 : decode cX7_init 37 = .ok (.aload_n 0, 1) := dr9 dk9_dX7_init_0_0 18 (37, .aload_n 0, 1) rfl
theorem dX7_init_38 : decode cX7_init 38 = .ok (.sipush 300, 3) := dr9 dk9_dX7_init_0_0 19 (38, .sipush 300, 3) rfl
theorem dX7_init_41 : decode cX7_init 41 = .ok (.newarray .int, 2) := dr9 dk9_dX7_init_0_0 20 (41, .newarray .int, 2) rfl
theorem dX7_init_43 : decode cX7_init 43 = .ok (.putfield 24, 3) := dr9 dk9_dX7_init_0_0 21 (43, .putfield 24, 3) rfl
theorem dX7_init_46 : decode cX7_init 46 = .ok (.return_, 1) := dr9 dk9_dX7_init_0_0 22 (46, .return_, 1) rfl
theorem dk9_dX2_init_0_0 : dOk cX2_init [(0, .aload_n 0, 1), (1, .invokespecial 3, 3), (4, .aload_n 0, 1), (5, .bipush 100, 2), (7, .newarray .int, 2), (9, .putfield 9, 3), (12, .aload_n 0, 1), (13, .bipush 100, 2), (15, .newarray .int, 2), (17, .putfield 15, 3), (20, .aload_n 0, 1), (21, .bipush 100, 2), (23, .newarray .int, 2), (25, .putfield 18, 3), (28, .aload_n 0, 1), (29, .sipush 2400, 3), (32, .newarray .int, 2), (34, .putfield 21, 3), (37, .aload_n 0, 1), (38, .bipush 24, 2), (40, .newarray .int, 2), (42, .putfield 24, 3), (45, .aload_n 0, 1), (46, .bipush 24, 2)] = true ∧ dOk cX2_init [(48, .newarray .int, 2), (50, .putfield 27, 3), (53, .return_, 1)] = true := by decide +kernel
theorem dX2_init_0 : decode cX2_init 0 = .ok (.aload_n 0, 1) := dr9 dk9_dX2_init_0_0.1 0 (0, .aload_n 0, 1) rfl
theorem dX2_init_1 : decode cX2_init 1 = .ok (.invokespecial 3, 3) := dr9 dk9_dX2_init_0_0.1 1 (1, .invokespecial 3, 3) rfl
theorem dX2_init_4 : decode cX2_init 4 = .ok (.aload_n 0, 1) := dr9 dk9_dX2_init_0_0.1 2 (4, .aload_n 0, 1) rfl
theorem dX2_init_5 : decode cX2_init 5 = .ok (.bipush 100, 2) := dr9 dk9_dX2_init_0_0.1 3 (5, .bipush 100, 2) rfl
theorem dX2_init_7 : decode cX2_init 7 = .ok (.newarray .int, 2) := dr9 dk9_dX2_init_0_0.1 4 (7, .newarray .int, 2) rfl
theorem dX2_init_9 : decode cX2_init 9 = .ok (.putfield 9, 3) := dr9 dk9_dX2_init_0_0.1 5 (9, .putfield 9, 3) rfl
theorem dX2_init_12 : decode cX2_init 12 = .ok (.aload_n 0, 1) := dr9 dk9_dX2_init_0_0.1 6 (12, .aload_n 0, 1) rfl
theorem dX2_init_13 : decode cX2_init 13 = .ok (.bipush 100, 2) := dr9 dk9_dX2_init_0_0.1 7 (13, .bipush 100, 2) rfl
theorem dX2_init_15 : decode cX2_init 15 = .ok (.newarray .int, 2) := dr9 dk9_dX2_init_0_0.1 8 (15, .newarray .int, 2) rfl
theorem dX2_init_17 : decode cX2_init 17 = .ok (.putfield 15, 3) := dr9 dk9_dX2_init_0_0.1 9 (17, .putfield 15, 3) rfl
theorem dX2_init_20 : decode cX2_init 20 = .ok (.aload_n 0, 1) := dr9 dk9_dX2_init_0_0.1 10 (20, .aload_n 0, 1) rfl
theorem dX2_init_21 : decode cX2_init 21 = .ok (.bipush 100, 2) := dr9 dk9_dX2_init_0_0.1 11 (21, .bipush 100, 2) rfl
theorem dX2_init_23 : decode cX2_init 23 = .ok (.newarray .int, 2) := dr9 dk9_dX2_init_0_0.1 12 (23, .newarray .int, 2) rfl
theorem dX2_init_25 : decode cX2_init 25 = .ok (.putfield 18, 3) := dr9 dk9_dX2_init_0_0.1 13 (25, .putfield 18, 3) rfl
theorem dX2_init_28 : decode cX2_init 28 = .ok (.aload_n 0, 1) := dr9 dk9_dX2_init_0_0.1 14 (28, .aload_n 0, 1) rfl
theorem dX2_init_29 : decode cX2_init 29 = .ok (.sipush 2400, 3) := dr9 dk9_dX2_init_0_0.1 15 (29, .sipush 2400, 3) rfl
theorem dX2_init_32 : decode cX2_init 32 = .ok (.newarray .int, 2) := dr9 dk9_dX2_init_0_0.1 16 (32, .newarray .int, 2) rfl
theorem dX2_init_34 : decode cX2_init 34 = .ok (.putfield 21, 3) := dr9 dk9_dX2_init_0_0.1 17 (34, .putfield 21, 3) rfl
theorem dX2_init_37 : decode cX2_init 37 = .ok (.aload_n 0, 1) := dr9 dk9_dX2_init_0_0.1 18 (37, .aload_n 0, 1) rfl
theorem dX2_init_38 : decode cX2_init 38 = .ok (.bipush 24, 2) := dr9 dk9_dX2_init_0_0.1 19 (38, .bipush 24, 2) rfl
theorem dX2_init_40 : decode cX2_init 40 = .ok (.newarray .int, 2) := dr9 dk9_dX2_init_0_0.1 20 (40, .newarray .int, 2) rfl
theorem dX2_init_42 : decode cX2_init 42 = .ok (.putfield 24, 3) := dr9 dk9_dX2_init_0_0.1 21 (42, .putfield 24, 3) rfl
theorem dX2_init_45 : decode cX2_init 45 = .ok (.aload_n 0, 1) := dr9 dk9_dX2_init_0_0.1 22 (45, .aload_n 0, 1) rfl
theorem dX2_init_46 : decode cX2_init 46 = .ok (.bipush 24, 2) := dr9 dk9_dX2_init_0_0.1 23 (46, .bipush 24, 2) rfl
theorem dX2_init_48 : decode cX2_init 48 = .ok (.newarray .int, 2) := dr9 dk9_dX2_init_0_0.2 0 (48, .newarray .int, 2) rfl
theorem dX2_init_50 : decode cX2_init 50 = .ok (.putfield 27, 3) := dr9 dk9_dX2_init_0_0.2 1 (50, .putfield 27, 3) rfl
theorem dX2_init_53 : decode cX2_init 53 = .ok (.return_, 1) := dr9 dk9_dX2_init_0_0.2 2 (53, .return_, 1) rfl
theorem dk9_dX1_init_0_0 : dOk cX1_init [(0, .aload_n 0, 1), (1, .invokespecial 3, 3), (4, .aload_n 0, 1), (5, .aload_n 1, 1), (6, .putfield 9, 3), (9, .return_, 1)] = true := by decide +kernel
theorem dX1_init_0 : decode cX1_init 0 = .ok (.aload_n 0, 1) := dr9 dk9_dX1_init_0_0 0 (0, .aload_n 0, 1) rfl
theorem dX1_init_1 : decode cX1_init 1 = .ok (.invokespecial 3, 3) := dr9 dk9_dX1_init_0_0 1 (1, .invokespecial 3, 3) rfl
theorem dX1_init_4 : decode cX1_init 4 = .ok (.aload_n 0, 1) := dr9 dk9_dX1_init_0_0 2 (4, .aload_n 0, 1) rfl
theorem dX1_init_5 : decode cX1_init 5 = .ok (.aload_n 1, 1) := dr9 dk9_dX1_init_0_0 3 (5, .aload_n 1, 1) rfl
theorem dX1_init_6 : decode cX1_init 6 = .ok (.putfield 9, 3) := dr9 dk9_dX1_init_0_0 4 (6, .putfield 9, 3) rfl
theorem dX1_init_9 : decode cX1_init 9 = .ok (.return_, 1) := dr9 dk9_dX1_init_0_0 5 (9, .return_, 1) rfl
theorem dk9_dX5_init_0_0 : dOk cX5_init [(0, .aload_n 0, 1), (1, .invokespecial 3, 3), (4, .aload_n 0, 1), (5, .sipush 400, 3), (8, .anewarray 11, 3), (11, .putfield 13, 3), (14, .aload_n 0, 1), (15, .sipush 2048, 3), (18, .newarray .int, 2), (20, .putfield 17, 3), (23, .aload_n 0, 1), (24, .sipush 300, 3), (27, .newarray .int, 2), (29, .putfield 21, 3), (32, .aload_n 0, 1), (33, .aload_n 1, 1), (34, .putfield 24, 3), (37, .aload_n 0, 1), (38, .aload_n 2, 1), (39, .putfield 28, 3), (42, .aload_n 0, 1), (43, .aload_n 3, 1), (44, .putfield 32, 3), (47, .return_, 1)] = true := by decide +kernel
theorem dX5_init_0 : decode cX5_init 0 = .ok (.aload_n 0, 1) := dr9 dk9_dX5_init_0_0 0 (0, .aload_n 0, 1) rfl
theorem dX5_init_1 : decode cX5_init 1 = .ok (.invokespecial 3, 3) := dr9 dk9_dX5_init_0_0 1 (1, .invokespecial 3, 3) rfl
theorem dX5_init_4 : decode cX5_init 4 = .ok (.aload_n 0, 1) := dr9 dk9_dX5_init_0_0 2 (4, .aload_n 0, 1) rfl
theorem dX5_init_5 : decode cX5_init 5 = .ok (.sipush 400, 3) := dr9 dk9_dX5_init_0_0 3 (5, .sipush 400, 3) rfl
theorem dX5_init_8 : decode cX5_init 8 = .ok (.anewarray 11, 3) := dr9 dk9_dX5_init_0_0 4 (8, .anewarray 11, 3) rfl
theorem dX5_init_11 : decode cX5_init 11 = .ok (.putfield 13, 3) := dr9 dk9_dX5_init_0_0 5 (11, .putfield 13, 3) rfl
theorem dX5_init_14 : decode cX5_init 14 = .ok (.aload_n 0, 1) := dr9 dk9_dX5_init_0_0 6 (14, .aload_n 0, 1) rfl
theorem dX5_init_15 : decode cX5_init 15 = .ok (.sipush 2048, 3) := dr9 dk9_dX5_init_0_0 7 (15, .sipush 2048, 3) rfl
theorem dX5_init_18 : decode cX5_init 18 = .ok (.newarray .int, 2) := dr9 dk9_dX5_init_0_0 8 (18, .newarray .int, 2) rfl
theorem dX5_init_20 : decode cX5_init 20 = .ok (.putfield 17, 3) := dr9 dk9_dX5_init_0_0 9 (20, .putfield 17, 3) rfl
theorem dX5_init_23 : decode cX5_init 23 = .ok (.aload_n 0, 1) := dr9 dk9_dX5_init_0_0 10 (23, .aload_n 0, 1) rfl
theorem dX5_init_24 : decode cX5_init 24 = .ok (.sipush 300, 3) := dr9 dk9_dX5_init_0_0 11 (24, .sipush 300, 3) rfl
theorem dX5_init_27 : decode cX5_init 27 = .ok (.newarray .int, 2) := dr9 dk9_dX5_init_0_0 12 (27, .newarray .int, 2) rfl
theorem dX5_init_29 : decode cX5_init 29 = .ok (.putfield 21, 3) := dr9 dk9_dX5_init_0_0 13 (29, .putfield 21, 3) rfl
theorem dX5_init_32 : decode cX5_init 32 = .ok (.aload_n 0, 1) := dr9 dk9_dX5_init_0_0 14 (32, .aload_n 0, 1) rfl
theorem dX5_init_33 : decode cX5_init 33 = .ok (.aload_n 1, 1) := dr9 dk9_dX5_init_0_0 15 (33, .aload_n 1, 1) rfl
theorem dX5_init_34 : decode cX5_init 34 = .ok (.putfield 24, 3) := dr9 dk9_dX5_init_0_0 16 (34, .putfield 24, 3) rfl
theorem dX5_init_37 : decode cX5_init 37 = .ok (.aload_n 0, 1) := dr9 dk9_dX5_init_0_0 17 (37, .aload_n 0, 1) rfl
theorem dX5_init_38 : decode cX5_init 38 = .ok (.aload_n 2, 1) := dr9 dk9_dX5_init_0_0 18 (38, .aload_n 2, 1) rfl
theorem dX5_init_39 : decode cX5_init 39 = .ok (.putfield 28, 3) := dr9 dk9_dX5_init_0_0 19 (39, .putfield 28, 3) rfl
theorem dX5_init_42 : decode cX5_init 42 = .ok (.aload_n 0, 1) := dr9 dk9_dX5_init_0_0 20 (42, .aload_n 0, 1) rfl
theorem dX5_init_43 : decode cX5_init 43 = .ok (.aload_n 3, 1) := dr9 dk9_dX5_init_0_0 21 (43, .aload_n 3, 1) rfl
theorem dX5_init_44 : decode cX5_init 44 = .ok (.putfield 32, 3) := dr9 dk9_dX5_init_0_0 22 (44, .putfield 32, 3) rfl
theorem dX5_init_47 : decode cX5_init 47 = .ok (.return_, 1) := dr9 dk9_dX5_init_0_0 23 (47, .return_, 1) rfl
theorem dk9_dX8_init_0_0 : dOk cX8_init [(0, .aload_n 0, 1), (1, .invokespecial 3, 3), (4, .aload_n 0, 1), (5, .bipush 40, 2), (7, .newarray .int, 2), (9, .putfield 9, 3), (12, .aload_n 0, 1), (13, .bipush 40, 2), (15, .newarray .int, 2), (17, .putfield 15, 3), (20, .aload_n 0, 1), (21, .bipush 40, 2), (23, .newarray .boolean, 2), (25, .putfield 18, 3), (28, .aload_n 0, 1), (29, .bipush 40, 2), (31, .newarray .int, 2), (33, .putfield 22, 3), (36, .aload_n 0, 1), (37, .sipush 960, 3), (40, .newarray .int, 2), (42, .putfield 25, 3), (45, .aload_n 0, 1), (46, .sipush 300, 3)] = true ∧ dOk cX8_init [(49, .newarray .int, 2), (51, .putfield 28, 3), (54, .aload_n 0, 1), (55, .sipush 300, 3), (58, .newarray .int, 2), (60, .putfield 31, 3), (63, .aload_n 0, 1), (64, .sipush 300, 3), (67, .newarray .int, 2), (69, .putfield 34, 3), (72, .aload_n 0, 1), (73, .sipush 300, 3), (76, .newarray .int, 2), (78, .putfield 37, 3), (81, .aload_n 0, 1), (82, .sipush 2400, 3), (85, .newarray .int, 2), (87, .putfield 40, 3), (90, .aload_n 0, 1), (91, .sipush 512, 3), (94, .newarray .int, 2), (96, .putfield 43, 3), (99, .aload_n 0, 1), (100, .sipush 512, 3)] = true ∧ dOk cX8_init [(103, .newarray .int, 2), (105, .putfield 46, 3), (108, .aload_n 0, 1), (109, .getfield 25, 3), (112, .iconst (-1), 1), (113, .invokestatic 49, 3), (116, .aload_n 0, 1), (117, .getfield 18, 3), (120, .iconst 0, 1), (121, .iconst 1, 1), (122, .bastore, 1), (123, .aload_n 0, 1), (124, .iconst 1, 1), (125, .putfield 55, 3), (128, .return_, 1)] = true := by decide +kernel
theorem dX8_init_0 : decode cX8_init 0 = .ok (.aload_n 0, 1) := dr9 dk9_dX8_init_0_0.1 0 (0, .aload_n 0, 1) rfl
theorem dX8_init_1 : decode cX8_init 1 = .ok (.invokespecial 3, 3) := dr9 dk9_dX8_init_0_0.1 1 (1, .invokespecial 3, 3) rfl
theorem dX8_init_4 : decode cX8_init 4 = .ok (.aload_n 0, 1) := dr9 dk9_dX8_init_0_0.1 2 (4, .aload_n 0, 1) rfl
theorem dX8_init_5 : decode cX8_init 5 = .ok (.bipush 40, 2) := dr9 dk9_dX8_init_0_0.1 3 (5, .bipush 40, 2) rfl
theorem dX8_init_7 : decode cX8_init 7 = .ok (.newarray .int, 2) := dr9 dk9_dX8_init_0_0.1 4 (7, .newarray .int, 2) rfl
theorem dX8_init_9 : decode cX8_init 9 = .ok (.putfield 9, 3) := dr9 dk9_dX8_init_0_0.1 5 (9, .putfield 9, 3) rfl
theorem dX8_init_12 : decode cX8_init 12 = .ok (.aload_n 0, 1) := dr9 dk9_dX8_init_0_0.1 6 (12, .aload_n 0, 1) rfl
theorem dX8_init_13 : decode cX8_init 13 = .ok (.bipush 40, 2) := dr9 dk9_dX8_init_0_0.1 7 (13, .bipush 40, 2) rfl
theorem dX8_init_15 : decode cX8_init 15 = .ok (.newarray .int, 2) := dr9 dk9_dX8_init_0_0.1 8 (15, .newarray .int, 2) rfl
theorem dX8_init_17 : decode cX8_init 17 = .ok (.putfield 15, 3) := dr9 dk9_dX8_init_0_0.1 9 (17, .putfield 15, 3) rfl
theorem dX8_init_20 : decode cX8_init 20 = .ok (.aload_n 0, 1) := dr9 dk9_dX8_init_0_0.1 10 (20, .aload_n 0, 1) rfl
theorem dX8_init_21 : decode cX8_init 21 = .ok (.bipush 40, 2) := dr9 dk9_dX8_init_0_0.1 11 (21, .bipush 40, 2) rfl
theorem dX8_init_23 : decode cX8_init 23 = .ok (.newarray .boolean, 2) := dr9 dk9_dX8_init_0_0.1 12 (23, .newarray .boolean, 2) rfl
theorem dX8_init_25 : decode cX8_init 25 = .ok (.putfield 18, 3) := dr9 dk9_dX8_init_0_0.1 13 (25, .putfield 18, 3) rfl
theorem dX8_init_28 : decode cX8_init 28 = .ok (.aload_n 0, 1) := dr9 dk9_dX8_init_0_0.1 14 (28, .aload_n 0, 1) rfl
theorem dX8_init_29 : decode cX8_init 29 = .ok (.bipush 40, 2) := dr9 dk9_dX8_init_0_0.1 15 (29, .bipush 40, 2) rfl
theorem dX8_init_31 : decode cX8_init 31 = .ok (.newarray .int, 2) := dr9 dk9_dX8_init_0_0.1 16 (31, .newarray .int, 2) rfl
theorem dX8_init_33 : decode cX8_init 33 = .ok (.putfield 22, 3) := dr9 dk9_dX8_init_0_0.1 17 (33, .putfield 22, 3) rfl
theorem dX8_init_36 : decode cX8_init 36 = .ok (.aload_n 0, 1) := dr9 dk9_dX8_init_0_0.1 18 (36, .aload_n 0, 1) rfl
theorem dX8_init_37 : decode cX8_init 37 = .ok (.sipush 960, 3) := dr9 dk9_dX8_init_0_0.1 19 (37, .sipush 960, 3) rfl
theorem dX8_init_40 : decode cX8_init 40 = .ok (.newarray .int, 2) := dr9 dk9_dX8_init_0_0.1 20 (40, .newarray .int, 2) rfl
theorem dX8_init_42 : decode cX8_init 42 = .ok (.putfield 25, 3) := dr9 dk9_dX8_init_0_0.1 21 (42, .putfield 25, 3) rfl
theorem dX8_init_45 : decode cX8_init 45 = .ok (.aload_n 0, 1) := dr9 dk9_dX8_init_0_0.1 22 (45, .aload_n 0, 1) rfl
theorem dX8_init_46 : decode cX8_init 46 = .ok (.sipush 300, 3) := dr9 dk9_dX8_init_0_0.1 23 (46, .sipush 300, 3) rfl
theorem dX8_init_49 : decode cX8_init 49 = .ok (.newarray .int, 2) := dr9 dk9_dX8_init_0_0.2.1 0 (49, .newarray .int, 2) rfl
theorem dX8_init_51 : decode cX8_init 51 = .ok (.putfield 28, 3) := dr9 dk9_dX8_init_0_0.2.1 1 (51, .putfield 28, 3) rfl
theorem dX8_init_54 : decode cX8_init 54 = .ok (.aload_n 0, 1) := dr9 dk9_dX8_init_0_0.2.1 2 (54, .aload_n 0, 1) rfl
theorem dX8_init_55 : decode cX8_init 55 = .ok (.sipush 300, 3) := dr9 dk9_dX8_init_0_0.2.1 3 (55, .sipush 300, 3) rfl
theorem dX8_init_58 : decode cX8_init 58 = .ok (.newarray .int, 2) := dr9 dk9_dX8_init_0_0.2.1 4 (58, .newarray .int, 2) rfl
theorem dX8_init_60 : decode cX8_init 60 = .ok (.putfield 31, 3) := dr9 dk9_dX8_init_0_0.2.1 5 (60, .putfield 31, 3) rfl
theorem dX8_init_63 : decode cX8_init 63 = .ok (.aload_n 0, 1) := dr9 dk9_dX8_init_0_0.2.1 6 (63, .aload_n 0, 1) rfl
theorem dX8_init_64 : decode cX8_init 64 = .ok (.sipush 300, 3) := dr9 dk9_dX8_init_0_0.2.1 7 (64, .sipush 300, 3) rfl
theorem dX8_init_67 : decode cX8_init 67 = .ok (.newarray .int, 2) := dr9 dk9_dX8_init_0_0.2.1 8 (67, .newarray .int, 2) rfl
theorem dX8_init_69 : decode cX8_init 69 = .ok (.putfield 34, 3) := dr9 dk9_dX8_init_0_0.2.1 9 (69, .putfield 34, 3) rfl
theorem dX8_init_72 : decode cX8_init 72 = .ok (.aload_n 0, 1) := dr9 dk9_dX8_init_0_0.2.1 10 (72, .aload_n 0, 1) rfl
theorem dX8_init_73 : decode cX8_init 73 = .ok (.sipush 300, 3) := dr9 dk9_dX8_init_0_0.2.1 11 (73, .sipush 300, 3) rfl
theorem dX8_init_76 : decode cX8_init 76 = .ok (.newarray .int, 2) := dr9 dk9_dX8_init_0_0.2.1 12 (76, .newarray .int, 2) rfl
theorem dX8_init_78 : decode cX8_init 78 = .ok (.putfield 37, 3) := dr9 dk9_dX8_init_0_0.2.1 13 (78, .putfield 37, 3) rfl
theorem dX8_init_81 : decode cX8_init 81 = .ok (.aload_n 0, 1) := dr9 dk9_dX8_init_0_0.2.1 14 (81, .aload_n 0, 1) rfl
theorem dX8_init_82 : decode cX8_init 82 = .ok (.sipush 2400, 3) := dr9 dk9_dX8_init_0_0.2.1 15 (82, .sipush 2400, 3) rfl
theorem dX8_init_85 : decode cX8_init 85 = .ok (.newarray .int, 2) := dr9 dk9_dX8_init_0_0.2.1 16 (85, .newarray .int, 2) rfl
theorem dX8_init_87 : decode cX8_init 87 = .ok (.putfield 40, 3) := dr9 dk9_dX8_init_0_0.2.1 17 (87, .putfield 40, 3) rfl
theorem dX8_init_90 : decode cX8_init 90 = .ok (.aload_n 0, 1) := dr9 dk9_dX8_init_0_0.2.1 18 (90, .aload_n 0, 1) rfl
theorem dX8_init_91 : decode cX8_init 91 = .ok (.sipush 512, 3) := dr9 dk9_dX8_init_0_0.2.1 19 (91, .sipush 512, 3) rfl
theorem dX8_init_94 : decode cX8_init 94 = .ok (.newarray .int, 2) := dr9 dk9_dX8_init_0_0.2.1 20 (94, .newarray .int, 2) rfl
theorem dX8_init_96 : decode cX8_init 96 = .ok (.putfield 43, 3) := dr9 dk9_dX8_init_0_0.2.1 21 (96, .putfield 43, 3) rfl
theorem dX8_init_99 : decode cX8_init 99 = .ok (.aload_n 0, 1) := dr9 dk9_dX8_init_0_0.2.1 22 (99, .aload_n 0, 1) rfl
theorem dX8_init_100 : decode cX8_init 100 = .ok (.sipush 512, 3) := dr9 dk9_dX8_init_0_0.2.1 23 (100, .sipush 512, 3) rfl
theorem dX8_init_103 : decode cX8_init 103 = .ok (.newarray .int, 2) := dr9 dk9_dX8_init_0_0.2.2 0 (103, .newarray .int, 2) rfl
theorem dX8_init_105 : decode cX8_init 105 = .ok (.putfield 46, 3) := dr9 dk9_dX8_init_0_0.2.2 1 (105, .putfield 46, 3) rfl
theorem dX8_init_108 : decode cX8_init 108 = .ok (.aload_n 0, 1) := dr9 dk9_dX8_init_0_0.2.2 2 (108, .aload_n 0, 1) rfl
theorem dX8_init_109 : decode cX8_init 109 = .ok (.getfield 25, 3) := dr9 dk9_dX8_init_0_0.2.2 3 (109, .getfield 25, 3) rfl
theorem dX8_init_112 : decode cX8_init 112 = .ok (.iconst (-1), 1) := dr9 dk9_dX8_init_0_0.2.2 4 (112, .iconst (-1), 1) rfl
theorem dX8_init_113 : decode cX8_init 113 = .ok (.invokestatic 49, 3) := dr9 dk9_dX8_init_0_0.2.2 5 (113, .invokestatic 49, 3) rfl
theorem dX8_init_116 : decode cX8_init 116 = .ok (.aload_n 0, 1) := dr9 dk9_dX8_init_0_0.2.2 6 (116, .aload_n 0, 1) rfl
theorem dX8_init_117 : decode cX8_init 117 = .ok (.getfield 18, 3) := dr9 dk9_dX8_init_0_0.2.2 7 (117, .getfield 18, 3) rfl
theorem dX8_init_120 : decode cX8_init 120 = .ok (.iconst 0, 1) := dr9 dk9_dX8_init_0_0.2.2 8 (120, .iconst 0, 1) rfl
theorem dX8_init_121 : decode cX8_init 121 = .ok (.iconst 1, 1) := dr9 dk9_dX8_init_0_0.2.2 9 (121, .iconst 1, 1) rfl
theorem dX8_init_122 : decode cX8_init 122 = .ok (.bastore, 1) := dr9 dk9_dX8_init_0_0.2.2 10 (122, .bastore, 1) rfl
theorem dX8_init_123 : decode cX8_init 123 = .ok (.aload_n 0, 1) := dr9 dk9_dX8_init_0_0.2.2 11 (123, .aload_n 0, 1) rfl
theorem dX8_init_124 : decode cX8_init 124 = .ok (.iconst 1, 1) := dr9 dk9_dX8_init_0_0.2.2 12 (124, .iconst 1, 1) rfl
theorem dX8_init_125 : decode cX8_init 125 = .ok (.putfield 55, 3) := dr9 dk9_dX8_init_0_0.2.2 13 (125, .putfield 55, 3) rfl
theorem dX8_init_128 : decode cX8_init 128 = .ok (.return_, 1) := dr9 dk9_dX8_init_0_0.2.2 14 (128, .return_, 1) rfl
theorem dk9_dX9_init_0_0 : dOk cX9_init [(0, .aload_n 0, 1), (1, .invokespecial 3, 3), (4, .aload_n 0, 1), (5, .sipush 4000, 3), (8, .newarray .byte, 2), (10, .putfield 9, 3), (13, .aload_n 0, 1), (14, .bipush 28, 2), (16, .newarray .long, 2), (18, .putfield 15, 3), (21, .aload_n 0, 1), (22, .sipush 4001, 3), (25, .newarray .int, 2), (27, .putfield 19, 3), (30, .aload_n 0, 1), (31, .sipush 4001, 3), (34, .newarray .int, 2), (36, .putfield 23, 3), (39, .aload_n 0, 1), (40, .sipush 4001, 3), (43, .newarray .long, 2), (45, .putfield 26, 3), (48, .iconst 0, 1), (49, .istore_n 1, 1)] = true ∧ dOk cX9_init [(50, .iconst 0, 1), (51, .istore_n 2, 1), (52, .iload_n 2, 1), (53, .ldc 29, 2), (55, .invokevirtual 31, 3), (58, .if_icmp .ge 56, 3), (114, .return_, 1), (61, .iload_n 1, 1), (62, .bipush 28, 2), (64, .if_icmp .ge 50, 3), (67, .ldc 29, 2), (69, .iload_n 2, 1), (70, .invokevirtual 37, 3), (73, .istore_n 3, 1), (74, .iload_n 3, 1), (75, .bipush 32, 2), (77, .if_icmp .ne 9, 3), (86, .aload_n 0, 1), (87, .getfield 15, 3), (90, .iload_n 1, 1), (91, .aload_n 0, 1), (92, .getfield 15, 3), (95, .iload_n 1, 1), (96, .laload, 1)] = true ∧ dOk cX9_init [(97, .ldc2_w 41, 3), (100, .lmul, 1), (101, .iload_n 3, 1), (102, .invokestatic 43, 3), (105, .i2l, 1), (106, .ladd, 1), (107, .lastore, 1), (108, .iinc 2 1, 3), (111, .goto (-59), 3), (80, .iinc 1 1, 3), (83, .goto 25, 3)] = true := by decide +kernel
theorem dX9_init_0 : decode cX9_init 0 = .ok (.aload_n 0, 1) := dr9 dk9_dX9_init_0_0.1 0 (0, .aload_n 0, 1) rfl
theorem dX9_init_1 : decode cX9_init 1 = .ok (.invokespecial 3, 3) := dr9 dk9_dX9_init_0_0.1 1 (1, .invokespecial 3, 3) rfl
theorem dX9_init_4 : decode cX9_init 4 = .ok (.aload_n 0, 1) := dr9 dk9_dX9_init_0_0.1 2 (4, .aload_n 0, 1) rfl
theorem dX9_init_5 : decode cX9_init 5 = .ok (.sipush 4000, 3) := dr9 dk9_dX9_init_0_0.1 3 (5, .sipush 4000, 3) rfl
theorem dX9_init_8 : decode cX9_init 8 = .ok (.newarray .byte, 2) := dr9 dk9_dX9_init_0_0.1 4 (8, .newarray .byte, 2) rfl
theorem dX9_init_10 : decode cX9_init 10 = .ok (.putfield 9, 3) := dr9 dk9_dX9_init_0_0.1 5 (10, .putfield 9, 3) rfl
theorem dX9_init_13 : decode cX9_init 13 = .ok (.aload_n 0, 1) := dr9 dk9_dX9_init_0_0.1 6 (13, .aload_n 0, 1) rfl
theorem dX9_init_14 : decode cX9_init 14 = .ok (.bipush 28, 2) := dr9 dk9_dX9_init_0_0.1 7 (14, .bipush 28, 2) rfl
theorem dX9_init_16 : decode cX9_init 16 = .ok (.newarray .long, 2) := dr9 dk9_dX9_init_0_0.1 8 (16, .newarray .long, 2) rfl
theorem dX9_init_18 : decode cX9_init 18 = .ok (.putfield 15, 3) := dr9 dk9_dX9_init_0_0.1 9 (18, .putfield 15, 3) rfl
theorem dX9_init_21 : decode cX9_init 21 = .ok (.aload_n 0, 1) := dr9 dk9_dX9_init_0_0.1 10 (21, .aload_n 0, 1) rfl
theorem dX9_init_22 : decode cX9_init 22 = .ok (.sipush 4001, 3) := dr9 dk9_dX9_init_0_0.1 11 (22, .sipush 4001, 3) rfl
theorem dX9_init_25 : decode cX9_init 25 = .ok (.newarray .int, 2) := dr9 dk9_dX9_init_0_0.1 12 (25, .newarray .int, 2) rfl
theorem dX9_init_27 : decode cX9_init 27 = .ok (.putfield 19, 3) := dr9 dk9_dX9_init_0_0.1 13 (27, .putfield 19, 3) rfl
theorem dX9_init_30 : decode cX9_init 30 = .ok (.aload_n 0, 1) := dr9 dk9_dX9_init_0_0.1 14 (30, .aload_n 0, 1) rfl
theorem dX9_init_31 : decode cX9_init 31 = .ok (.sipush 4001, 3) := dr9 dk9_dX9_init_0_0.1 15 (31, .sipush 4001, 3) rfl
theorem dX9_init_34 : decode cX9_init 34 = .ok (.newarray .int, 2) := dr9 dk9_dX9_init_0_0.1 16 (34, .newarray .int, 2) rfl
theorem dX9_init_36 : decode cX9_init 36 = .ok (.putfield 23, 3) := dr9 dk9_dX9_init_0_0.1 17 (36, .putfield 23, 3) rfl
theorem dX9_init_39 : decode cX9_init 39 = .ok (.aload_n 0, 1) := dr9 dk9_dX9_init_0_0.1 18 (39, .aload_n 0, 1) rfl
theorem dX9_init_40 : decode cX9_init 40 = .ok (.sipush 4001, 3) := dr9 dk9_dX9_init_0_0.1 19 (40, .sipush 4001, 3) rfl
theorem dX9_init_43 : decode cX9_init 43 = .ok (.newarray .long, 2) := dr9 dk9_dX9_init_0_0.1 20 (43, .newarray .long, 2) rfl
theorem dX9_init_45 : decode cX9_init 45 = .ok (.putfield 26, 3) := dr9 dk9_dX9_init_0_0.1 21 (45, .putfield 26, 3) rfl
theorem dX9_init_48 : decode cX9_init 48 = .ok (.iconst 0, 1) := dr9 dk9_dX9_init_0_0.1 22 (48, .iconst 0, 1) rfl
theorem dX9_init_49 : decode cX9_init 49 = .ok (.istore_n 1, 1) := dr9 dk9_dX9_init_0_0.1 23 (49, .istore_n 1, 1) rfl
theorem dX9_init_50 : decode cX9_init 50 = .ok (.iconst 0, 1) := dr9 dk9_dX9_init_0_0.2.1 0 (50, .iconst 0, 1) rfl
theorem dX9_init_51 : decode cX9_init 51 = .ok (.istore_n 2, 1) := dr9 dk9_dX9_init_0_0.2.1 1 (51, .istore_n 2, 1) rfl
theorem dX9_init_52 : decode cX9_init 52 = .ok (.iload_n 2, 1) := dr9 dk9_dX9_init_0_0.2.1 2 (52, .iload_n 2, 1) rfl
theorem dX9_init_53 : decode cX9_init 53 = .ok (.ldc 29, 2) := dr9 dk9_dX9_init_0_0.2.1 3 (53, .ldc 29, 2) rfl
theorem dX9_init_55 : decode cX9_init 55 = .ok (.invokevirtual 31, 3) := dr9 dk9_dX9_init_0_0.2.1 4 (55, .invokevirtual 31, 3) rfl
theorem dX9_init_58 : decode cX9_init 58 = .ok (.if_icmp .ge 56, 3) := dr9 dk9_dX9_init_0_0.2.1 5 (58, .if_icmp .ge 56, 3) rfl
theorem dX9_init_114 : decode cX9_init 114 = .ok (.return_, 1) := dr9 dk9_dX9_init_0_0.2.1 6 (114, .return_, 1) rfl
theorem dX9_init_61 : decode cX9_init 61 = .ok (.iload_n 1, 1) := dr9 dk9_dX9_init_0_0.2.1 7 (61, .iload_n 1, 1) rfl
theorem dX9_init_62 : decode cX9_init 62 = .ok (.bipush 28, 2) := dr9 dk9_dX9_init_0_0.2.1 8 (62, .bipush 28, 2) rfl
theorem dX9_init_64 : decode cX9_init 64 = .ok (.if_icmp .ge 50, 3) := dr9 dk9_dX9_init_0_0.2.1 9 (64, .if_icmp .ge 50, 3) rfl
theorem dX9_init_67 : decode cX9_init 67 = .ok (.ldc 29, 2) := dr9 dk9_dX9_init_0_0.2.1 10 (67, .ldc 29, 2) rfl
theorem dX9_init_69 : decode cX9_init 69 = .ok (.iload_n 2, 1) := dr9 dk9_dX9_init_0_0.2.1 11 (69, .iload_n 2, 1) rfl
theorem dX9_init_70 : decode cX9_init 70 = .ok (.invokevirtual 37, 3) := dr9 dk9_dX9_init_0_0.2.1 12 (70, .invokevirtual 37, 3) rfl
theorem dX9_init_73 : decode cX9_init 73 = .ok (.istore_n 3, 1) := dr9 dk9_dX9_init_0_0.2.1 13 (73, .istore_n 3, 1) rfl
theorem dX9_init_74 : decode cX9_init 74 = .ok (.iload_n 3, 1) := dr9 dk9_dX9_init_0_0.2.1 14 (74, .iload_n 3, 1) rfl
theorem dX9_init_75 : decode cX9_init 75 = .ok (.bipush 32, 2) := dr9 dk9_dX9_init_0_0.2.1 15 (75, .bipush 32, 2) rfl
theorem dX9_init_77 : decode cX9_init 77 = .ok (.if_icmp .ne 9, 3) := dr9 dk9_dX9_init_0_0.2.1 16 (77, .if_icmp .ne 9, 3) rfl
theorem dX9_init_86 : decode cX9_init 86 = .ok (.aload_n 0, 1) := dr9 dk9_dX9_init_0_0.2.1 17 (86, .aload_n 0, 1) rfl
theorem dX9_init_87 : decode cX9_init 87 = .ok (.getfield 15, 3) := dr9 dk9_dX9_init_0_0.2.1 18 (87, .getfield 15, 3) rfl
theorem dX9_init_90 : decode cX9_init 90 = .ok (.iload_n 1, 1) := dr9 dk9_dX9_init_0_0.2.1 19 (90, .iload_n 1, 1) rfl
theorem dX9_init_91 : decode cX9_init 91 = .ok (.aload_n 0, 1) := dr9 dk9_dX9_init_0_0.2.1 20 (91, .aload_n 0, 1) rfl
theorem dX9_init_92 : decode cX9_init 92 = .ok (.getfield 15, 3) := dr9 dk9_dX9_init_0_0.2.1 21 (92, .getfield 15, 3) rfl
theorem dX9_init_95 : decode cX9_init 95 = .ok (.iload_n 1, 1) := dr9 dk9_dX9_init_0_0.2.1 22 (95, .iload_n 1, 1) rfl
theorem dX9_init_96 : decode cX9_init 96 = .ok (.laload, 1) := dr9 dk9_dX9_init_0_0.2.1 23 (96, .laload, 1) rfl
theorem dX9_init_97 : decode cX9_init 97 = .ok (.ldc2_w 41, 3) := dr9 dk9_dX9_init_0_0.2.2 0 (97, .ldc2_w 41, 3) rfl
theorem dX9_init_100 : decode cX9_init 100 = .ok (.lmul, 1) := dr9 dk9_dX9_init_0_0.2.2 1 (100, .lmul, 1) rfl
theorem dX9_init_101 : decode cX9_init 101 = .ok (.iload_n 3, 1) := dr9 dk9_dX9_init_0_0.2.2 2 (101, .iload_n 3, 1) rfl
theorem dX9_init_102 : decode cX9_init 102 = .ok (.invokestatic 43, 3) := dr9 dk9_dX9_init_0_0.2.2 3 (102, .invokestatic 43, 3) rfl
theorem dX9_init_105 : decode cX9_init 105 = .ok (.i2l, 1) := dr9 dk9_dX9_init_0_0.2.2 4 (105, .i2l, 1) rfl
theorem dX9_init_106 : decode cX9_init 106 = .ok (.ladd, 1) := dr9 dk9_dX9_init_0_0.2.2 5 (106, .ladd, 1) rfl
theorem dX9_init_107 : decode cX9_init 107 = .ok (.lastore, 1) := dr9 dk9_dX9_init_0_0.2.2 6 (107, .lastore, 1) rfl
theorem dX9_init_108 : decode cX9_init 108 = .ok (.iinc 2 1, 3) := dr9 dk9_dX9_init_0_0.2.2 7 (108, .iinc 2 1, 3) rfl
theorem dX9_init_111 : decode cX9_init 111 = .ok (.goto (-59), 3) := dr9 dk9_dX9_init_0_0.2.2 8 (111, .goto (-59), 3) rfl
theorem dX9_init_80 : decode cX9_init 80 = .ok (.iinc 1 1, 3) := dr9 dk9_dX9_init_0_0.2.2 9 (80, .iinc 1 1, 3) rfl
theorem dX9_init_83 : decode cX9_init 83 = .ok (.goto 25, 3) := dr9 dk9_dX9_init_0_0.2.2 10 (83, .goto 25, 3) rfl
abbrev r_c_fillN : Room := { frames := 0, cells := 0, slots := 0, locals := 0 }
abbrev q_c_fillN (D : va_G) (a0 : Nat) (kA : ClassId) (N : Nat) (f : Nat → Int32) (pv : Int32) (A : Nat → Prop) : Array Value → State → Outcome → State → Prop := va_Qv (fun (u : Nat → Int32) => ∀ q : Nat, u q = if q < N then pv else f q) (fun u t => gq D A ((fun (u : Nat → Int32) => [(a0, .inl (kA, N, .inl (u)))]) u) ((fun (u : Nat → Int32) => ([(kA, .int)] : List (ClassId × FieldType))) u) t) A
set_option maxHeartbeats 4000000 in
set_option maxRecDepth 100000 in
theorem c_fillN (l : Launch) (D : va_G) (ks : KS) (sz : Nat) (a0 : Nat) (kA : ClassId) (N : Nat) (f : Nat → Int32) (pv : Int32) (hN : N < 2 ^ 31) : Met l yJ7_fill_53178 (Cond.code yJ7_fill_53178 cJ7_fill_53178 4 none :: GW) r_c_fillN (va_Pc [.ref a0, .int pv] (gp D ks [(a0, .inl (kA, N, .inl (f)))] [(kA, .int)] sz)) (q_c_fillN D a0 kA N f pv (va_A [(a0, .inl (kA, N, .inl (f)))] sz)) 0 0 (va_A [(a0, .inl (kA, N, .inl (f)))] sz) := by
  refine g_met (q_c_fillN D a0 kA N f pv) (by decide) (Nat.le_of_ble_eq_true rfl) ?_
  intro p e s m below meth c A ls H locs hx hb hr hml hown hg hlocks hin hnw hgk hP hK hD hS hA hl
  have hown : s.vm.findClass RJ7 = some m.cls := hown
  have hl : lv_has ls 4 [(0, .ref a0), (1, .int pv)] := hl
  refine lv_iconst (v := 0) hx hb dJ7_fill_53178_0 (by decide) ?_
  refine lv_istore_n (lv' := [(2, .int 0), (0, .ref a0), (1, .int pv)]) hx hb dJ7_fill_53178_1 rfl hl (by decide) rfl (fun ls hl => ?_)
  refine lv_aload_n hx hb dJ7_fill_53178_2 rfl (lv_at hl 1 rfl) ?_
  refine va_alen (D := D) (v := (nI N)) hx hb hK hP 0 0 rfl rfl rfl dJ7_fill_53178_3 ?_
  refine lv_istore_n (lv' := [(3, .int (nI N)), (2, .int 0), (0, .ref a0), (1, .int pv)]) hx hb dJ7_fill_53178_4 rfl hl (by decide) rfl (fun ls hl => ?_)
  refine W.widen (k := 0) (n := 0) (Nat.le_of_ble_eq_true rfl) (Nat.le_of_ble_eq_true rfl) ?_
  have lp1 : ∀ (n : Nat) (i : Nat) (g : Nat → Int32) (H : Heap) (locs : List Loc) (ls : Array Slot), i ≤ N → (∀ q : Nat, g q = if q < i then pv else f q) → N < i + n → va_P D vwCl [(a0, .inl (kA, N, .inl (g)))] H → va_D A [(a0, .inl (kA, N, .inl (g)))] → va_S A s.heap H locs → lv_has ls 4 [(3, .int (nI N)), (2, .int (nI i)), (0, .ref a0), (1, .int pv)] → W p l e r_c_fillN s m ([.ref a0, .int pv] : List Value).toArray below meth c H locs (0) (0) (MQ below (q_c_fillN D a0 kA N f pv A) ([.ref a0, .int pv] : List Value).toArray s 0 0 A) (F0 m 5 ls []) := by
    intro n
    induction n with
    | zero =>
      intro i g H locs ls hi hg9 hn hP hD hS hl
      exact absurd hn (by omega)
    | succ n ih =>
      intro i g H locs ls hi hg9 hn hP hD hS hl
      refine lv_iload_n hx hb dJ7_fill_53178_5 rfl (lv_at hl 1 rfl) ?_
      refine lv_iload_n hx hb dJ7_fill_53178_6 rfl (lv_at hl 0 rfl) ?_
      refine lv_icmp_ge (tgt := 20) hx hb dJ7_fill_53178_7 (by decide) (fun c2 => ?_) (fun c2 => ?_)
      · skip
        have gc2 : N ≤ i := g_ge_ge (L := N) (by omega) (by omega) c2
        refine W.widen (k := 0) (n := 0) (Nat.le_of_ble_eq_true rfl) (Nat.le_of_ble_eq_true rfl) ?_
        have hP9 := hP.sub (ws' := [(a0, .inl (kA, N, .inl (g)))]) [0] rfl
        have hD9 := hD.sub (ws' := [(a0, .inl (kA, N, .inl (g)))]) [0] (by decide) rfl
        have hK9 := hK.sub (tys' := [(kA, .int)]) [0] rfl
        exact W.vret hx hb hr (fun t ht hW => ⟨⟨(g), rfl, (fun q => by have e9 : i = N := (by omega); rw [e9] at hg9; exact hg9 q), by rw [ht]; exact hP9, va_K.moved hW.alike hK9, hD9⟩, hS.F ht⟩) hS.2.2 dJ7_fill_53178_20
      · skip
        have gc2 : i < N := g_lt_ge (L := N) (by omega) (by omega) c2
        refine lv_aload_n hx hb dJ7_fill_53178_10 rfl (lv_at hl 2 rfl) ?_
        refine lv_iload_n hx hb dJ7_fill_53178_11 rfl (lv_at hl 1 rfl) ?_
        refine lv_iload_n hx hb dJ7_fill_53178_12 rfl (lv_at hl 3 rfl) ?_
        refine va_iast (D := D) (i := (nI i)) (x := pv) hx hb hK hP hD hS 0 0 rfl rfl (vp_in_nI (by omega) (by omega)) dJ7_fill_53178_13 (fun H locs hP hD hS => ?_)
        have hP : va_P D vwCl [(a0, .inl (kA, N, .inl (upd g (Int32.toNatClampNeg (nI i)) pv)))] H := hP
        have hD : va_D A [(a0, .inl (kA, N, .inl (upd g (Int32.toNatClampNeg (nI i)) pv)))] := hD
        obtain ⟨f3, hf3⟩ : ∃ z, z = upd g (Int32.toNatClampNeg (nI i)) pv := ⟨_, rfl⟩
        rw [← hf3] at hP hD
        refine lv_iinc (v := (nI (i + 1))) (lv' := [(2, .int (nI (i + 1))), (3, .int (nI N)), (0, .ref a0), (1, .int pv)]) hx hb dJ7_fill_53178_14 hl (k := 1) rfl (nI_1 _) (by decide) rfl (fun ls hl => ?_)
        refine lv_goto (tgt := 5) hx hb dJ7_fill_53178_17 (by decide) ?_
        exact ih (i + 1) f3 H locs ls (by omega) (fill_up hg9 (by rw [hf3, nI_clamp (by omega)])) (by omega) (hP.sub [0] rfl) (hD.sub [0] (by decide) rfl) hS (lv_sub hl [1, 0, 2, 3] rfl)
  exact lp1 (N + 1) 0 f H locs ls (Nat.zero_le _) (fun q => by rw [if_neg (by omega)]) (by (first | exact om_9f6c8d73d61d | omega)) hP hD hS hl
abbrev r_c_Names_init24 : Room := { frames := 1, cells := 1, slots := 24, locals := 20 }
abbrev q_c_Names_init24 (D : va_G) (h0 : Nat) (A : Nat → Prop) : Array Value → State → Outcome → State → Prop := va_Qv (fun (u : Nat × ClassId) => True) (fun u t => gq D A ((fun (u : Nat × ClassId) => [(h0, .inr (6, [.ref u.1, .int 0])), (u.1, .inl (u.2, 24, .inr (.inl (fun _ => 0))))]) u) ((fun (u : Nat × ClassId) => ([(u.2, .long)] : List (ClassId × FieldType))) u) t) A
set_option maxHeartbeats 4000000 in
set_option maxRecDepth 100000 in
theorem c_Names_init24 (l : Launch) (D : va_G) (ks : KS) (sz : Nat) (h0 : Nat) : Met l yX6_init (Cond.code yX6_init cX6_init 2 none :: GW) r_c_Names_init24 (va_Pc [.ref h0, .int 24] (gp D ks [(h0, .inr (6, [.null, .int 0]))] [] sz)) (q_c_Names_init24 D h0 (va_A [(h0, .inr (6, [.null, .int 0]))] sz)) 1 24 (va_A [(h0, .inr (6, [.null, .int 0]))] sz) := by
  refine g_met (q_c_Names_init24 D h0) (by decide) (Nat.le_of_ble_eq_true rfl) ?_
  intro p e s m below meth c A ls H locs hx hb hr hml hown hg hlocks hin hnw hgk hP hK hD hS hA hl
  have hown : s.vm.findClass RX6 = some m.cls := hown
  have hin : meth.name = "<init>" := hin
  have hl : lv_has ls 2 [(0, .ref h0), (1, .int 24)] := hl
  refine lv_aload_n hx hb dX6_init_0 rfl (lv_at hl 0 rfl) ?_
  refine W.objInit hx hb hown (hg _ w478) (hg _ w188) (hg _ wobj) rfl (by rw [hml]; exact hl.1) rfl dX6_init_1 (Nat.le_of_ble_eq_true rfl) (Nat.le_of_ble_eq_true rfl) ?_
  refine W.eq (g2 := F0 m 4 ls []) rfl ?_
  refine lv_aload_n hx hb dX6_init_4 rfl (lv_at hl 0 rfl) ?_
  refine lv_iload_n hx hb dX6_init_5 rfl (lv_at hl 1 rfl) ?_
  refine lv_if_le (tgt := 13) hx hb dX6_init_6 (by decide) (fun q => absurd q (by decide)) (fun _ => ?_)
  refine lv_iload_n hx hb dX6_init_9 rfl (lv_at hl 1 rfl) ?_
  refine lv_goto (tgt := 14) hx hb dX6_init_10 (by decide) ?_
  refine va_newa (D := D) (atype := .long) (ty := .long) (n := 24) (N' := 24) (a0 := (24, .inr (.inl (fun _ => 0)))) hx hb (hg _ w296) rfl hK hP hD hS hA (fun _ => rfl) (by decide) (by decide) (by decide) (Nat.le_of_ble_eq_true rfl) (Nat.le_of_ble_eq_true rfl) dX6_init_14 (fun q1 k2 H hK hP hD hS => ?_)
  have hP : va_P D vwCl [(h0, .inr (6, [.null, .int 0])), (q1, .inl (k2, 24, .inr (.inl (fun _ => 0))))] H := hP
  have hD : va_D A [(h0, .inr (6, [.null, .int 0])), (q1, .inl (k2, 24, .inr (.inl (fun _ => 0))))] := hD
  have hK : va_K D vwCl [(k2, .long)] s := hK
  refine va_putF (D := D) (ci := 6) (v := .ref q1) (ty := tyX6 0) (C := RX6) (T := TX6) (N := 2) hx hb hg inX6 tyX6 tyX6_ok nmX6 hown hK hP hD hS 0 rfl rfl 0 (by decide) (hg _ w479) (fun _ h9 => h9) rfl hin rfl (tyX6_ok 0 (by decide)) rfl rfl (Nat.le_of_ble_eq_true rfl) dX6_init_16 (fun H locs hP hD hS => ?_)
  have hP : va_P D vwCl [(h0, .inr (6, [.ref q1, .int 0])), (q1, .inl (k2, 24, .inr (.inl (fun _ => 0))))] H := hP
  have hD : va_D A [(h0, .inr (6, [.ref q1, .int 0])), (q1, .inl (k2, 24, .inr (.inl (fun _ => 0))))] := hD
  refine W.widen (k := 1) (n := 24) (Nat.le_of_ble_eq_true rfl) (Nat.le_of_ble_eq_true rfl) ?_
  have hP9 := hP.sub (ws' := [(h0, .inr (6, [.ref q1, .int 0])), (q1, .inl (k2, 24, .inr (.inl (fun _ => 0))))]) [0, 1] rfl
  have hD9 := hD.sub (ws' := [(h0, .inr (6, [.ref q1, .int 0])), (q1, .inl (k2, 24, .inr (.inl (fun _ => 0))))]) [0, 1] (by decide) rfl
  have hK9 := hK.sub (tys' := [(k2, .long)]) [0] rfl
  exact W.vret hx hb hr (fun t ht hW => ⟨⟨(q1, k2), rfl, (by first | rfl | trivial | assumption | decide), by rw [ht]; exact hP9, va_K.moved hW.alike hK9, hD9⟩, hS.F ht⟩) hS.2.2 dX6_init_19
abbrev r_c_Names_init12 : Room := { frames := 1, cells := 1, slots := 12, locals := 20 }
abbrev q_c_Names_init12 (D : va_G) (h0 : Nat) (A : Nat → Prop) : Array Value → State → Outcome → State → Prop := va_Qv (fun (u : Nat × ClassId) => True) (fun u t => gq D A ((fun (u : Nat × ClassId) => [(h0, .inr (6, [.ref u.1, .int 0])), (u.1, .inl (u.2, 12, .inr (.inl (fun _ => 0))))]) u) ((fun (u : Nat × ClassId) => ([(u.2, .long)] : List (ClassId × FieldType))) u) t) A
set_option maxHeartbeats 4000000 in
set_option maxRecDepth 100000 in
theorem c_Names_init12 (l : Launch) (D : va_G) (ks : KS) (sz : Nat) (h0 : Nat) : Met l yX6_init (Cond.code yX6_init cX6_init 2 none :: GW) r_c_Names_init12 (va_Pc [.ref h0, .int 12] (gp D ks [(h0, .inr (6, [.null, .int 0]))] [] sz)) (q_c_Names_init12 D h0 (va_A [(h0, .inr (6, [.null, .int 0]))] sz)) 1 12 (va_A [(h0, .inr (6, [.null, .int 0]))] sz) := by
  refine g_met (q_c_Names_init12 D h0) (by decide) (Nat.le_of_ble_eq_true rfl) ?_
  intro p e s m below meth c A ls H locs hx hb hr hml hown hg hlocks hin hnw hgk hP hK hD hS hA hl
  have hown : s.vm.findClass RX6 = some m.cls := hown
  have hin : meth.name = "<init>" := hin
  have hl : lv_has ls 2 [(0, .ref h0), (1, .int 12)] := hl
  refine lv_aload_n hx hb dX6_init_0 rfl (lv_at hl 0 rfl) ?_
  refine W.objInit hx hb hown (hg _ w478) (hg _ w188) (hg _ wobj) rfl (by rw [hml]; exact hl.1) rfl dX6_init_1 (Nat.le_of_ble_eq_true rfl) (Nat.le_of_ble_eq_true rfl) ?_
  refine W.eq (g2 := F0 m 4 ls []) rfl ?_
  refine lv_aload_n hx hb dX6_init_4 rfl (lv_at hl 0 rfl) ?_
  refine lv_iload_n hx hb dX6_init_5 rfl (lv_at hl 1 rfl) ?_
  refine lv_if_le (tgt := 13) hx hb dX6_init_6 (by decide) (fun q => absurd q (by decide)) (fun _ => ?_)
  refine lv_iload_n hx hb dX6_init_9 rfl (lv_at hl 1 rfl) ?_
  refine lv_goto (tgt := 14) hx hb dX6_init_10 (by decide) ?_
  refine va_newa (D := D) (atype := .long) (ty := .long) (n := 12) (N' := 12) (a0 := (12, .inr (.inl (fun _ => 0)))) hx hb (hg _ w296) rfl hK hP hD hS hA (fun _ => rfl) (by decide) (by decide) (by decide) (Nat.le_of_ble_eq_true rfl) (Nat.le_of_ble_eq_true rfl) dX6_init_14 (fun q1 k2 H hK hP hD hS => ?_)
  have hP : va_P D vwCl [(h0, .inr (6, [.null, .int 0])), (q1, .inl (k2, 12, .inr (.inl (fun _ => 0))))] H := hP
  have hD : va_D A [(h0, .inr (6, [.null, .int 0])), (q1, .inl (k2, 12, .inr (.inl (fun _ => 0))))] := hD
  have hK : va_K D vwCl [(k2, .long)] s := hK
  refine va_putF (D := D) (ci := 6) (v := .ref q1) (ty := tyX6 0) (C := RX6) (T := TX6) (N := 2) hx hb hg inX6 tyX6 tyX6_ok nmX6 hown hK hP hD hS 0 rfl rfl 0 (by decide) (hg _ w479) (fun _ h9 => h9) rfl hin rfl (tyX6_ok 0 (by decide)) rfl rfl (Nat.le_of_ble_eq_true rfl) dX6_init_16 (fun H locs hP hD hS => ?_)
  have hP : va_P D vwCl [(h0, .inr (6, [.ref q1, .int 0])), (q1, .inl (k2, 12, .inr (.inl (fun _ => 0))))] H := hP
  have hD : va_D A [(h0, .inr (6, [.ref q1, .int 0])), (q1, .inl (k2, 12, .inr (.inl (fun _ => 0))))] := hD
  refine W.widen (k := 1) (n := 12) (Nat.le_of_ble_eq_true rfl) (Nat.le_of_ble_eq_true rfl) ?_
  have hP9 := hP.sub (ws' := [(h0, .inr (6, [.ref q1, .int 0])), (q1, .inl (k2, 12, .inr (.inl (fun _ => 0))))]) [0, 1] rfl
  have hD9 := hD.sub (ws' := [(h0, .inr (6, [.ref q1, .int 0])), (q1, .inl (k2, 12, .inr (.inl (fun _ => 0))))]) [0, 1] (by decide) rfl
  have hK9 := hK.sub (tys' := [(k2, .long)]) [0] rfl
  exact W.vret hx hb hr (fun t ht hW => ⟨⟨(q1, k2), rfl, (by first | rfl | trivial | assumption | decide), by rw [ht]; exact hP9, va_K.moved hW.alike hK9, hD9⟩, hS.F ht⟩) hS.2.2 dX6_init_19
abbrev r_c_Names_init20 : Room := { frames := 1, cells := 1, slots := 20, locals := 20 }
abbrev q_c_Names_init20 (D : va_G) (h0 : Nat) (A : Nat → Prop) : Array Value → State → Outcome → State → Prop := va_Qv (fun (u : Nat × ClassId) => True) (fun u t => gq D A ((fun (u : Nat × ClassId) => [(h0, .inr (6, [.ref u.1, .int 0])), (u.1, .inl (u.2, 20, .inr (.inl (fun _ => 0))))]) u) ((fun (u : Nat × ClassId) => ([(u.2, .long)] : List (ClassId × FieldType))) u) t) A
set_option maxHeartbeats 4000000 in
set_option maxRecDepth 100000 in
theorem c_Names_init20 (l : Launch) (D : va_G) (ks : KS) (sz : Nat) (h0 : Nat) : Met l yX6_init (Cond.code yX6_init cX6_init 2 none :: GW) r_c_Names_init20 (va_Pc [.ref h0, .int 20] (gp D ks [(h0, .inr (6, [.null, .int 0]))] [] sz)) (q_c_Names_init20 D h0 (va_A [(h0, .inr (6, [.null, .int 0]))] sz)) 1 20 (va_A [(h0, .inr (6, [.null, .int 0]))] sz) := by
  refine g_met (q_c_Names_init20 D h0) (by decide) (Nat.le_of_ble_eq_true rfl) ?_
  intro p e s m below meth c A ls H locs hx hb hr hml hown hg hlocks hin hnw hgk hP hK hD hS hA hl
  have hown : s.vm.findClass RX6 = some m.cls := hown
  have hin : meth.name = "<init>" := hin
  have hl : lv_has ls 2 [(0, .ref h0), (1, .int 20)] := hl
  refine lv_aload_n hx hb dX6_init_0 rfl (lv_at hl 0 rfl) ?_
  refine W.objInit hx hb hown (hg _ w478) (hg _ w188) (hg _ wobj) rfl (by rw [hml]; exact hl.1) rfl dX6_init_1 (Nat.le_of_ble_eq_true rfl) (Nat.le_of_ble_eq_true rfl) ?_
  refine W.eq (g2 := F0 m 4 ls []) rfl ?_
  refine lv_aload_n hx hb dX6_init_4 rfl (lv_at hl 0 rfl) ?_
  refine lv_iload_n hx hb dX6_init_5 rfl (lv_at hl 1 rfl) ?_
  refine lv_if_le (tgt := 13) hx hb dX6_init_6 (by decide) (fun q => absurd q (by decide)) (fun _ => ?_)
  refine lv_iload_n hx hb dX6_init_9 rfl (lv_at hl 1 rfl) ?_
  refine lv_goto (tgt := 14) hx hb dX6_init_10 (by decide) ?_
  refine va_newa (D := D) (atype := .long) (ty := .long) (n := 20) (N' := 20) (a0 := (20, .inr (.inl (fun _ => 0)))) hx hb (hg _ w296) rfl hK hP hD hS hA (fun _ => rfl) (by decide) (by decide) (by decide) (Nat.le_of_ble_eq_true rfl) (Nat.le_of_ble_eq_true rfl) dX6_init_14 (fun q1 k2 H hK hP hD hS => ?_)
  have hP : va_P D vwCl [(h0, .inr (6, [.null, .int 0])), (q1, .inl (k2, 20, .inr (.inl (fun _ => 0))))] H := hP
  have hD : va_D A [(h0, .inr (6, [.null, .int 0])), (q1, .inl (k2, 20, .inr (.inl (fun _ => 0))))] := hD
  have hK : va_K D vwCl [(k2, .long)] s := hK
  refine va_putF (D := D) (ci := 6) (v := .ref q1) (ty := tyX6 0) (C := RX6) (T := TX6) (N := 2) hx hb hg inX6 tyX6 tyX6_ok nmX6 hown hK hP hD hS 0 rfl rfl 0 (by decide) (hg _ w479) (fun _ h9 => h9) rfl hin rfl (tyX6_ok 0 (by decide)) rfl rfl (Nat.le_of_ble_eq_true rfl) dX6_init_16 (fun H locs hP hD hS => ?_)
  have hP : va_P D vwCl [(h0, .inr (6, [.ref q1, .int 0])), (q1, .inl (k2, 20, .inr (.inl (fun _ => 0))))] H := hP
  have hD : va_D A [(h0, .inr (6, [.ref q1, .int 0])), (q1, .inl (k2, 20, .inr (.inl (fun _ => 0))))] := hD
  refine W.widen (k := 1) (n := 20) (Nat.le_of_ble_eq_true rfl) (Nat.le_of_ble_eq_true rfl) ?_
  have hP9 := hP.sub (ws' := [(h0, .inr (6, [.ref q1, .int 0])), (q1, .inl (k2, 20, .inr (.inl (fun _ => 0))))]) [0, 1] rfl
  have hD9 := hD.sub (ws' := [(h0, .inr (6, [.ref q1, .int 0])), (q1, .inl (k2, 20, .inr (.inl (fun _ => 0))))]) [0, 1] (by decide) rfl
  have hK9 := hK.sub (tys' := [(k2, .long)]) [0] rfl
  exact W.vret hx hb hr (fun t ht hW => ⟨⟨(q1, k2), rfl, (by first | rfl | trivial | assumption | decide), by rw [ht]; exact hP9, va_K.moved hW.alike hK9, hD9⟩, hS.F ht⟩) hS.2.2 dX6_init_19
abbrev r_c_Wrap_init : Room := { frames := 1, cells := 0, slots := 0, locals := 20 }
abbrev q_c_Wrap_init (D : va_G) (h0 : Nat) (A : Nat → Prop) : Array Value → State → Outcome → State → Prop := va_Qv (fun (_ : Unit) => True) (fun u t => gq D A ((fun (_ : Unit) => [(h0, .inr (10, [.int 0, .int 0, .int 0, .int 0, .int 0]))]) u) ((fun (_ : Unit) => ([] : List (ClassId × FieldType))) u) t) A
set_option maxHeartbeats 4000000 in
set_option maxRecDepth 100000 in
theorem c_Wrap_init (l : Launch) (D : va_G) (ks : KS) (sz : Nat) (h0 : Nat) : Met l yX10_init (Cond.code yX10_init cX10_init 1 none :: GW) r_c_Wrap_init (va_Pc [.ref h0] (gp D ks [(h0, .inr (10, [.int 0, .int 0, .int 0, .int 0, .int 0]))] [] sz)) (q_c_Wrap_init D h0 (va_A [(h0, .inr (10, [.int 0, .int 0, .int 0, .int 0, .int 0]))] sz)) 0 0 (va_A [(h0, .inr (10, [.int 0, .int 0, .int 0, .int 0, .int 0]))] sz) := by
  refine g_met (q_c_Wrap_init D h0) (by decide) (Nat.le_of_ble_eq_true rfl) ?_
  intro p e s m below meth c A ls H locs hx hb hr hml hown hg hlocks hin hnw hgk hP hK hD hS hA hl
  have hown : s.vm.findClass RX10 = some m.cls := hown
  have hin : meth.name = "<init>" := hin
  have hl : lv_has ls 1 [(0, .ref h0)] := hl
  refine lv_aload_n hx hb dX10_init_0 rfl (lv_at hl 0 rfl) ?_
  refine W.objInit hx hb hown (hg _ w574) (hg _ w188) (hg _ wobj) rfl (by rw [hml]; exact hl.1) rfl dX10_init_1 (Nat.le_of_ble_eq_true rfl) (Nat.le_of_ble_eq_true rfl) ?_
  refine W.eq (g2 := F0 m 4 ls []) rfl ?_
  refine W.widen (k := 0) (n := 0) (Nat.le_of_ble_eq_true rfl) (Nat.le_of_ble_eq_true rfl) ?_
  have hP9 := hP.sub (ws' := [(h0, .inr (10, [.int 0, .int 0, .int 0, .int 0, .int 0]))]) [0] rfl
  have hD9 := hD.sub (ws' := [(h0, .inr (10, [.int 0, .int 0, .int 0, .int 0, .int 0]))]) [0] (by decide) rfl
  have hK9 := hK.sub (tys' := []) [] rfl
  exact W.vret hx hb hr (fun t ht hW => ⟨⟨(), rfl, (by first | rfl | trivial | assumption | decide), by rw [ht]; exact hP9, va_K.moved hW.alike hK9, hD9⟩, hS.F ht⟩) hS.2.2 dX10_init_4
abbrev r_c_Component_init : Room := { frames := 1, cells := 4, slots := 44, locals := 20 }
abbrev q_c_Component_init (D : va_G) (h0 : Nat) (A : Nat → Prop) : Array Value → State → Outcome → State → Prop := va_Qv (fun (u : Nat × Nat × Nat × Nat × ClassId × ClassId × ClassId × ClassId) => True) (fun u t => gq D A ((fun (u : Nat × Nat × Nat × Nat × ClassId × ClassId × ClassId × ClassId) => [(h0, .inr (3, [.ref u.1, .ref u.2.1, .ref u.2.2.1, .ref u.2.2.2.1, .int 0, .int 0, .int 0, .int 0, .int 0, .int 0, .int 0, .int 0, .int 0])), (u.1, .inl (u.2.2.2.2.1, 8, .inl (fun _ => 0))), (u.2.1, .inl (u.2.2.2.2.2.1, 8, .inl (fun _ => 0))), (u.2.2.1, .inl (u.2.2.2.2.2.2.1, 8, .inl (fun _ => 0))), (u.2.2.2.1, .inl (u.2.2.2.2.2.2.2, 20, .inl (fun _ => 0)))]) u) ((fun (u : Nat × Nat × Nat × Nat × ClassId × ClassId × ClassId × ClassId) => ([(u.2.2.2.2.1, .int), (u.2.2.2.2.2.1, .int), (u.2.2.2.2.2.2.1, .int), (u.2.2.2.2.2.2.2, .int)] : List (ClassId × FieldType))) u) t) A
set_option maxHeartbeats 4000000 in
set_option maxRecDepth 100000 in
theorem c_Component_init (l : Launch) (D : va_G) (ks : KS) (sz : Nat) (h0 : Nat) : Met l yX3_init (Cond.code yX3_init cX3_init 1 none :: GW) r_c_Component_init (va_Pc [.ref h0] (gp D ks [(h0, .inr (3, [.null, .null, .null, .null, .int 0, .int 0, .int 0, .int 0, .int 0, .int 0, .int 0, .int 0, .int 0]))] [] sz)) (q_c_Component_init D h0 (va_A [(h0, .inr (3, [.null, .null, .null, .null, .int 0, .int 0, .int 0, .int 0, .int 0, .int 0, .int 0, .int 0, .int 0]))] sz)) 4 44 (va_A [(h0, .inr (3, [.null, .null, .null, .null, .int 0, .int 0, .int 0, .int 0, .int 0, .int 0, .int 0, .int 0, .int 0]))] sz) := by
  refine g_met (q_c_Component_init D h0) (by decide) (Nat.le_of_ble_eq_true rfl) ?_
  intro p e s m below meth c A ls H locs hx hb hr hml hown hg hlocks hin hnw hgk hP hK hD hS hA hl
  have hown : s.vm.findClass RX3 = some m.cls := hown
  have hin : meth.name = "<init>" := hin
  have hl : lv_has ls 1 [(0, .ref h0)] := hl
  refine lv_aload_n hx hb dX3_init_0 rfl (lv_at hl 0 rfl) ?_
  refine W.objInit hx hb hown (hg _ w498) (hg _ w188) (hg _ wobj) rfl (by rw [hml]; exact hl.1) rfl dX3_init_1 (Nat.le_of_ble_eq_true rfl) (Nat.le_of_ble_eq_true rfl) ?_
  refine W.eq (g2 := F0 m 4 ls []) rfl ?_
  refine lv_aload_n hx hb dX3_init_4 rfl (lv_at hl 0 rfl) ?_
  refine lv_bipush (v := 8) hx hb dX3_init_5 (by decide) ?_
  refine va_newa (D := D) (atype := .int) (ty := .int) (n := 8) (N' := 8) (a0 := (8, .inl (fun _ => 0))) hx hb (hg _ w297) rfl hK hP hD hS hA (fun _ => rfl) (by decide) (by decide) (by decide) (Nat.le_of_ble_eq_true rfl) (Nat.le_of_ble_eq_true rfl) dX3_init_7 (fun q1 k2 H hK hP hD hS => ?_)
  have hP : va_P D vwCl [(h0, .inr (3, [.null, .null, .null, .null, .int 0, .int 0, .int 0, .int 0, .int 0, .int 0, .int 0, .int 0, .int 0])), (q1, .inl (k2, 8, .inl (fun _ => 0)))] H := hP
  have hD : va_D A [(h0, .inr (3, [.null, .null, .null, .null, .int 0, .int 0, .int 0, .int 0, .int 0, .int 0, .int 0, .int 0, .int 0])), (q1, .inl (k2, 8, .inl (fun _ => 0)))] := hD
  have hK : va_K D vwCl [(k2, .int)] s := hK
  refine va_putF (D := D) (ci := 3) (v := .ref q1) (ty := tyX3 0) (C := RX3) (T := TX3) (N := 13) hx hb hg inX3 tyX3 tyX3_ok nmX3 hown hK hP hD hS 0 rfl rfl 0 (by decide) (hg _ w499) (fun _ h9 => h9) rfl hin rfl (tyX3_ok 0 (by decide)) rfl rfl (Nat.le_of_ble_eq_true rfl) dX3_init_9 (fun H locs hP hD hS => ?_)
  have hP : va_P D vwCl [(h0, .inr (3, [.ref q1, .null, .null, .null, .int 0, .int 0, .int 0, .int 0, .int 0, .int 0, .int 0, .int 0, .int 0])), (q1, .inl (k2, 8, .inl (fun _ => 0)))] H := hP
  have hD : va_D A [(h0, .inr (3, [.ref q1, .null, .null, .null, .int 0, .int 0, .int 0, .int 0, .int 0, .int 0, .int 0, .int 0, .int 0])), (q1, .inl (k2, 8, .inl (fun _ => 0)))] := hD
  refine lv_aload_n hx hb dX3_init_12 rfl (lv_at hl 0 rfl) ?_
  refine lv_bipush (v := 8) hx hb dX3_init_13 (by decide) ?_
  refine va_newa (D := D) (atype := .int) (ty := .int) (n := 8) (N' := 8) (a0 := (8, .inl (fun _ => 0))) hx hb (hg _ w297) rfl hK hP hD hS hA (fun _ => rfl) (by decide) (by decide) (by decide) (Nat.le_of_ble_eq_true rfl) (Nat.le_of_ble_eq_true rfl) dX3_init_15 (fun q3 k4 H hK hP hD hS => ?_)
  have hP : va_P D vwCl [(h0, .inr (3, [.ref q1, .null, .null, .null, .int 0, .int 0, .int 0, .int 0, .int 0, .int 0, .int 0, .int 0, .int 0])), (q1, .inl (k2, 8, .inl (fun _ => 0))), (q3, .inl (k4, 8, .inl (fun _ => 0)))] H := hP
  have hD : va_D A [(h0, .inr (3, [.ref q1, .null, .null, .null, .int 0, .int 0, .int 0, .int 0, .int 0, .int 0, .int 0, .int 0, .int 0])), (q1, .inl (k2, 8, .inl (fun _ => 0))), (q3, .inl (k4, 8, .inl (fun _ => 0)))] := hD
  have hK : va_K D vwCl [(k2, .int), (k4, .int)] s := hK
  refine va_putF (D := D) (ci := 3) (v := .ref q3) (ty := tyX3 1) (C := RX3) (T := TX3) (N := 13) hx hb hg inX3 tyX3 tyX3_ok nmX3 hown hK hP hD hS 0 rfl rfl 1 (by decide) (hg _ w501) (fun _ h9 => h9) rfl hin rfl (tyX3_ok 1 (by decide)) rfl rfl (Nat.le_of_ble_eq_true rfl) dX3_init_17 (fun H locs hP hD hS => ?_)
  have hP : va_P D vwCl [(h0, .inr (3, [.ref q1, .ref q3, .null, .null, .int 0, .int 0, .int 0, .int 0, .int 0, .int 0, .int 0, .int 0, .int 0])), (q1, .inl (k2, 8, .inl (fun _ => 0))), (q3, .inl (k4, 8, .inl (fun _ => 0)))] H := hP
  have hD : va_D A [(h0, .inr (3, [.ref q1, .ref q3, .null, .null, .int 0, .int 0, .int 0, .int 0, .int 0, .int 0, .int 0, .int 0, .int 0])), (q1, .inl (k2, 8, .inl (fun _ => 0))), (q3, .inl (k4, 8, .inl (fun _ => 0)))] := hD
  refine lv_aload_n hx hb dX3_init_20 rfl (lv_at hl 0 rfl) ?_
  refine lv_bipush (v := 8) hx hb dX3_init_21 (by decide) ?_
  refine va_newa (D := D) (atype := .int) (ty := .int) (n := 8) (N' := 8) (a0 := (8, .inl (fun _ => 0))) hx hb (hg _ w297) rfl hK hP hD hS hA (fun _ => rfl) (by decide) (by decide) (by decide) (Nat.le_of_ble_eq_true rfl) (Nat.le_of_ble_eq_true rfl) dX3_init_23 (fun q5 k6 H hK hP hD hS => ?_)
  have hP : va_P D vwCl [(h0, .inr (3, [.ref q1, .ref q3, .null, .null, .int 0, .int 0, .int 0, .int 0, .int 0, .int 0, .int 0, .int 0, .int 0])), (q1, .inl (k2, 8, .inl (fun _ => 0))), (q3, .inl (k4, 8, .inl (fun _ => 0))), (q5, .inl (k6, 8, .inl (fun _ => 0)))] H := hP
  have hD : va_D A [(h0, .inr (3, [.ref q1, .ref q3, .null, .null, .int 0, .int 0, .int 0, .int 0, .int 0, .int 0, .int 0, .int 0, .int 0])), (q1, .inl (k2, 8, .inl (fun _ => 0))), (q3, .inl (k4, 8, .inl (fun _ => 0))), (q5, .inl (k6, 8, .inl (fun _ => 0)))] := hD
  have hK : va_K D vwCl [(k2, .int), (k4, .int), (k6, .int)] s := hK
  refine va_putF (D := D) (ci := 3) (v := .ref q5) (ty := tyX3 2) (C := RX3) (T := TX3) (N := 13) hx hb hg inX3 tyX3 tyX3_ok nmX3 hown hK hP hD hS 0 rfl rfl 2 (by decide) (hg _ w503) (fun _ h9 => h9) rfl hin rfl (tyX3_ok 2 (by decide)) rfl rfl (Nat.le_of_ble_eq_true rfl) dX3_init_25 (fun H locs hP hD hS => ?_)
  have hP : va_P D vwCl [(h0, .inr (3, [.ref q1, .ref q3, .ref q5, .null, .int 0, .int 0, .int 0, .int 0, .int 0, .int 0, .int 0, .int 0, .int 0])), (q1, .inl (k2, 8, .inl (fun _ => 0))), (q3, .inl (k4, 8, .inl (fun _ => 0))), (q5, .inl (k6, 8, .inl (fun _ => 0)))] H := hP
  have hD : va_D A [(h0, .inr (3, [.ref q1, .ref q3, .ref q5, .null, .int 0, .int 0, .int 0, .int 0, .int 0, .int 0, .int 0, .int 0, .int 0])), (q1, .inl (k2, 8, .inl (fun _ => 0))), (q3, .inl (k4, 8, .inl (fun _ => 0))), (q5, .inl (k6, 8, .inl (fun _ => 0)))] := hD
  refine lv_aload_n hx hb dX3_init_28 rfl (lv_at hl 0 rfl) ?_
  refine lv_bipush (v := 20) hx hb dX3_init_29 (by decide) ?_
  refine va_newa (D := D) (atype := .int) (ty := .int) (n := 20) (N' := 20) (a0 := (20, .inl (fun _ => 0))) hx hb (hg _ w297) rfl hK hP hD hS hA (fun _ => rfl) (by decide) (by decide) (by decide) (Nat.le_of_ble_eq_true rfl) (Nat.le_of_ble_eq_true rfl) dX3_init_31 (fun q7 k8 H hK hP hD hS => ?_)
  have hP : va_P D vwCl [(h0, .inr (3, [.ref q1, .ref q3, .ref q5, .null, .int 0, .int 0, .int 0, .int 0, .int 0, .int 0, .int 0, .int 0, .int 0])), (q1, .inl (k2, 8, .inl (fun _ => 0))), (q3, .inl (k4, 8, .inl (fun _ => 0))), (q5, .inl (k6, 8, .inl (fun _ => 0))), (q7, .inl (k8, 20, .inl (fun _ => 0)))] H := hP
  have hD : va_D A [(h0, .inr (3, [.ref q1, .ref q3, .ref q5, .null, .int 0, .int 0, .int 0, .int 0, .int 0, .int 0, .int 0, .int 0, .int 0])), (q1, .inl (k2, 8, .inl (fun _ => 0))), (q3, .inl (k4, 8, .inl (fun _ => 0))), (q5, .inl (k6, 8, .inl (fun _ => 0))), (q7, .inl (k8, 20, .inl (fun _ => 0)))] := hD
  have hK : va_K D vwCl [(k2, .int), (k4, .int), (k6, .int), (k8, .int)] s := hK
  refine va_putF (D := D) (ci := 3) (v := .ref q7) (ty := tyX3 3) (C := RX3) (T := TX3) (N := 13) hx hb hg inX3 tyX3 tyX3_ok nmX3 hown hK hP hD hS 0 rfl rfl 3 (by decide) (hg _ w507) (fun _ h9 => h9) rfl hin rfl (tyX3_ok 3 (by decide)) rfl rfl (Nat.le_of_ble_eq_true rfl) dX3_init_33 (fun H locs hP hD hS => ?_)
  have hP : va_P D vwCl [(h0, .inr (3, [.ref q1, .ref q3, .ref q5, .ref q7, .int 0, .int 0, .int 0, .int 0, .int 0, .int 0, .int 0, .int 0, .int 0])), (q1, .inl (k2, 8, .inl (fun _ => 0))), (q3, .inl (k4, 8, .inl (fun _ => 0))), (q5, .inl (k6, 8, .inl (fun _ => 0))), (q7, .inl (k8, 20, .inl (fun _ => 0)))] H := hP
  have hD : va_D A [(h0, .inr (3, [.ref q1, .ref q3, .ref q5, .ref q7, .int 0, .int 0, .int 0, .int 0, .int 0, .int 0, .int 0, .int 0, .int 0])), (q1, .inl (k2, 8, .inl (fun _ => 0))), (q3, .inl (k4, 8, .inl (fun _ => 0))), (q5, .inl (k6, 8, .inl (fun _ => 0))), (q7, .inl (k8, 20, .inl (fun _ => 0)))] := hD
  refine W.widen (k := 4) (n := 44) (Nat.le_of_ble_eq_true rfl) (Nat.le_of_ble_eq_true rfl) ?_
  have hP9 := hP.sub (ws' := [(h0, .inr (3, [.ref q1, .ref q3, .ref q5, .ref q7, .int 0, .int 0, .int 0, .int 0, .int 0, .int 0, .int 0, .int 0, .int 0])), (q1, .inl (k2, 8, .inl (fun _ => 0))), (q3, .inl (k4, 8, .inl (fun _ => 0))), (q5, .inl (k6, 8, .inl (fun _ => 0))), (q7, .inl (k8, 20, .inl (fun _ => 0)))]) [0, 1, 2, 3, 4] rfl
  have hD9 := hD.sub (ws' := [(h0, .inr (3, [.ref q1, .ref q3, .ref q5, .ref q7, .int 0, .int 0, .int 0, .int 0, .int 0, .int 0, .int 0, .int 0, .int 0])), (q1, .inl (k2, 8, .inl (fun _ => 0))), (q3, .inl (k4, 8, .inl (fun _ => 0))), (q5, .inl (k6, 8, .inl (fun _ => 0))), (q7, .inl (k8, 20, .inl (fun _ => 0)))]) [0, 1, 2, 3, 4] (by decide) rfl
  have hK9 := hK.sub (tys' := [(k2, .int), (k4, .int), (k6, .int), (k8, .int)]) [0, 1, 2, 3] rfl
  exact W.vret hx hb hr (fun t ht hW => ⟨⟨(q1, q3, q5, q7, k2, k4, k6, k8), rfl, (by first | rfl | trivial | assumption | decide), by rw [ht]; exact hP9, va_K.moved hW.alike hK9, hD9⟩, hS.F ht⟩) hS.2.2 dX3_init_36
abbrev r_c_Notes_init : Room := { frames := 1, cells := 5, slots := 900, locals := 20 }
abbrev q_c_Notes_init (D : va_G) (h0 : Nat) (A : Nat → Prop) : Array Value → State → Outcome → State → Prop := va_Qv (fun (u : Nat × Nat × Nat × Nat × Nat × ClassId × ClassId × ClassId × ClassId × ClassId) => True) (fun u t => gq D A ((fun (u : Nat × Nat × Nat × Nat × Nat × ClassId × ClassId × ClassId × ClassId × ClassId) => [(h0, .inr (7, [.ref u.1, .ref u.2.1, .ref u.2.2.1, .ref u.2.2.2.1, .ref u.2.2.2.2.1, .int 0, .int 0, .int 0, .int 0, .int 0])), (u.1, .inl (u.2.2.2.2.2.1, 100, .inl (fun _ => 0))), (u.2.1, .inl (u.2.2.2.2.2.2.1, 100, .inl (fun _ => 0))), (u.2.2.1, .inl (u.2.2.2.2.2.2.2.1, 100, .inl (fun _ => 0))), (u.2.2.2.1, .inl (u.2.2.2.2.2.2.2.2.1, 300, .inl (fun _ => 0))), (u.2.2.2.2.1, .inl (u.2.2.2.2.2.2.2.2.2, 300, .inl (fun _ => 0)))]) u) ((fun (u : Nat × Nat × Nat × Nat × Nat × ClassId × ClassId × ClassId × ClassId × ClassId) => ([(u.2.2.2.2.2.1, .int), (u.2.2.2.2.2.2.1, .int), (u.2.2.2.2.2.2.2.1, .int), (u.2.2.2.2.2.2.2.2.1, .int), (u.2.2.2.2.2.2.2.2.2, .int)] : List (ClassId × FieldType))) u) t) A
set_option maxHeartbeats 4000000 in
set_option maxRecDepth 100000 in
theorem c_Notes_init (l : Launch) (D : va_G) (ks : KS) (sz : Nat) (h0 : Nat) : Met l yX7_init (Cond.code yX7_init cX7_init 1 none :: GW) r_c_Notes_init (va_Pc [.ref h0] (gp D ks [(h0, .inr (7, [.null, .null, .null, .null, .null, .int 0, .int 0, .int 0, .int 0, .int 0]))] [] sz)) (q_c_Notes_init D h0 (va_A [(h0, .inr (7, [.null, .null, .null, .null, .null, .int 0, .int 0, .int 0, .int 0, .int 0]))] sz)) 5 900 (va_A [(h0, .inr (7, [.null, .null, .null, .null, .null, .int 0, .int 0, .int 0, .int 0, .int 0]))] sz) := by
  refine g_met (q_c_Notes_init D h0) (by decide) (Nat.le_of_ble_eq_true rfl) ?_
  intro p e s m below meth c A ls H locs hx hb hr hml hown hg hlocks hin hnw hgk hP hK hD hS hA hl
  have hown : s.vm.findClass RX7 = some m.cls := hown
  have hin : meth.name = "<init>" := hin
  have hl : lv_has ls 1 [(0, .ref h0)] := hl
  refine lv_aload_n hx hb dX7_init_0 rfl (lv_at hl 0 rfl) ?_
  refine W.objInit hx hb hown (hg _ w434) (hg _ w188) (hg _ wobj) rfl (by rw [hml]; exact hl.1) rfl dX7_init_1 (Nat.le_of_ble_eq_true rfl) (Nat.le_of_ble_eq_true rfl) ?_
  refine W.eq (g2 := F0 m 4 ls []) rfl ?_
  refine lv_aload_n hx hb dX7_init_4 rfl (lv_at hl 0 rfl) ?_
  refine lv_bipush (v := 100) hx hb dX7_init_5 (by decide) ?_
  refine va_newa (D := D) (atype := .int) (ty := .int) (n := 100) (N' := 100) (a0 := (100, .inl (fun _ => 0))) hx hb (hg _ w297) rfl hK hP hD hS hA (fun _ => rfl) (by decide) (by decide) (by decide) (Nat.le_of_ble_eq_true rfl) (Nat.le_of_ble_eq_true rfl) dX7_init_7 (fun q1 k2 H hK hP hD hS => ?_)
  have hP : va_P D vwCl [(h0, .inr (7, [.null, .null, .null, .null, .null, .int 0, .int 0, .int 0, .int 0, .int 0])), (q1, .inl (k2, 100, .inl (fun _ => 0)))] H := hP
  have hD : va_D A [(h0, .inr (7, [.null, .null, .null, .null, .null, .int 0, .int 0, .int 0, .int 0, .int 0])), (q1, .inl (k2, 100, .inl (fun _ => 0)))] := hD
  have hK : va_K D vwCl [(k2, .int)] s := hK
  refine va_putF (D := D) (ci := 7) (v := .ref q1) (ty := tyX7 0) (C := RX7) (T := TX7) (N := 10) hx hb hg inX7 tyX7 tyX7_ok nmX7 hown hK hP hD hS 0 rfl rfl 0 (by decide) (hg _ w435) (fun _ h9 => h9) rfl hin rfl (tyX7_ok 0 (by decide)) rfl rfl (Nat.le_of_ble_eq_true rfl) dX7_init_9 (fun H locs hP hD hS => ?_)
  have hP : va_P D vwCl [(h0, .inr (7, [.ref q1, .null, .null, .null, .null, .int 0, .int 0, .int 0, .int 0, .int 0])), (q1, .inl (k2, 100, .inl (fun _ => 0)))] H := hP
  have hD : va_D A [(h0, .inr (7, [.ref q1, .null, .null, .null, .null, .int 0, .int 0, .int 0, .int 0, .int 0])), (q1, .inl (k2, 100, .inl (fun _ => 0)))] := hD
  refine lv_aload_n hx hb dX7_init_12 rfl (lv_at hl 0 rfl) ?_
  refine lv_bipush (v := 100) hx hb dX7_init_13 (by decide) ?_
  refine va_newa (D := D) (atype := .int) (ty := .int) (n := 100) (N' := 100) (a0 := (100, .inl (fun _ => 0))) hx hb (hg _ w297) rfl hK hP hD hS hA (fun _ => rfl) (by decide) (by decide) (by decide) (Nat.le_of_ble_eq_true rfl) (Nat.le_of_ble_eq_true rfl) dX7_init_15 (fun q3 k4 H hK hP hD hS => ?_)
  have hP : va_P D vwCl [(h0, .inr (7, [.ref q1, .null, .null, .null, .null, .int 0, .int 0, .int 0, .int 0, .int 0])), (q1, .inl (k2, 100, .inl (fun _ => 0))), (q3, .inl (k4, 100, .inl (fun _ => 0)))] H := hP
  have hD : va_D A [(h0, .inr (7, [.ref q1, .null, .null, .null, .null, .int 0, .int 0, .int 0, .int 0, .int 0])), (q1, .inl (k2, 100, .inl (fun _ => 0))), (q3, .inl (k4, 100, .inl (fun _ => 0)))] := hD
  have hK : va_K D vwCl [(k2, .int), (k4, .int)] s := hK
  refine va_putF (D := D) (ci := 7) (v := .ref q3) (ty := tyX7 1) (C := RX7) (T := TX7) (N := 10) hx hb hg inX7 tyX7 tyX7_ok nmX7 hown hK hP hD hS 0 rfl rfl 1 (by decide) (hg _ w436) (fun _ h9 => h9) rfl hin rfl (tyX7_ok 1 (by decide)) rfl rfl (Nat.le_of_ble_eq_true rfl) dX7_init_17 (fun H locs hP hD hS => ?_)
  have hP : va_P D vwCl [(h0, .inr (7, [.ref q1, .ref q3, .null, .null, .null, .int 0, .int 0, .int 0, .int 0, .int 0])), (q1, .inl (k2, 100, .inl (fun _ => 0))), (q3, .inl (k4, 100, .inl (fun _ => 0)))] H := hP
  have hD : va_D A [(h0, .inr (7, [.ref q1, .ref q3, .null, .null, .null, .int 0, .int 0, .int 0, .int 0, .int 0])), (q1, .inl (k2, 100, .inl (fun _ => 0))), (q3, .inl (k4, 100, .inl (fun _ => 0)))] := hD
  refine lv_aload_n hx hb dX7_init_20 rfl (lv_at hl 0 rfl) ?_
  refine lv_bipush (v := 100) hx hb dX7_init_21 (by decide) ?_
  refine va_newa (D := D) (atype := .int) (ty := .int) (n := 100) (N' := 100) (a0 := (100, .inl (fun _ => 0))) hx hb (hg _ w297) rfl hK hP hD hS hA (fun _ => rfl) (by decide) (by decide) (by decide) (Nat.le_of_ble_eq_true rfl) (Nat.le_of_ble_eq_true rfl) dX7_init_23 (fun q5 k6 H hK hP hD hS => ?_)
  have hP : va_P D vwCl [(h0, .inr (7, [.ref q1, .ref q3, .null, .null, .null, .int 0, .int 0, .int 0, .int 0, .int 0])), (q1, .inl (k2, 100, .inl (fun _ => 0))), (q3, .inl (k4, 100, .inl (fun _ => 0))), (q5, .inl (k6, 100, .inl (fun _ => 0)))] H := hP
  have hD : va_D A [(h0, .inr (7, [.ref q1, .ref q3, .null, .null, .null, .int 0, .int 0, .int 0, .int 0, .int 0])), (q1, .inl (k2, 100, .inl (fun _ => 0))), (q3, .inl (k4, 100, .inl (fun _ => 0))), (q5, .inl (k6, 100, .inl (fun _ => 0)))] := hD
  have hK : va_K D vwCl [(k2, .int), (k4, .int), (k6, .int)] s := hK
  refine va_putF (D := D) (ci := 7) (v := .ref q5) (ty := tyX7 2) (C := RX7) (T := TX7) (N := 10) hx hb hg inX7 tyX7 tyX7_ok nmX7 hown hK hP hD hS 0 rfl rfl 2 (by decide) (hg _ w437) (fun _ h9 => h9) rfl hin rfl (tyX7_ok 2 (by decide)) rfl rfl (Nat.le_of_ble_eq_true rfl) dX7_init_25 (fun H locs hP hD hS => ?_)
  have hP : va_P D vwCl [(h0, .inr (7, [.ref q1, .ref q3, .ref q5, .null, .null, .int 0, .int 0, .int 0, .int 0, .int 0])), (q1, .inl (k2, 100, .inl (fun _ => 0))), (q3, .inl (k4, 100, .inl (fun _ => 0))), (q5, .inl (k6, 100, .inl (fun _ => 0)))] H := hP
  have hD : va_D A [(h0, .inr (7, [.ref q1, .ref q3, .ref q5, .null, .null, .int 0, .int 0, .int 0, .int 0, .int 0])), (q1, .inl (k2, 100, .inl (fun _ => 0))), (q3, .inl (k4, 100, .inl (fun _ => 0))), (q5, .inl (k6, 100, .inl (fun _ => 0)))] := hD
  refine lv_aload_n hx hb dX7_init_28 rfl (lv_at hl 0 rfl) ?_
  refine lv_sipush (v := 300) hx hb dX7_init_29 (by decide) ?_
  refine va_newa (D := D) (atype := .int) (ty := .int) (n := 300) (N' := 300) (a0 := (300, .inl (fun _ => 0))) hx hb (hg _ w297) rfl hK hP hD hS hA (fun _ => rfl) (by decide) (by decide) (by decide) (Nat.le_of_ble_eq_true rfl) (Nat.le_of_ble_eq_true rfl) dX7_init_32 (fun q7 k8 H hK hP hD hS => ?_)
  have hP : va_P D vwCl [(h0, .inr (7, [.ref q1, .ref q3, .ref q5, .null, .null, .int 0, .int 0, .int 0, .int 0, .int 0])), (q1, .inl (k2, 100, .inl (fun _ => 0))), (q3, .inl (k4, 100, .inl (fun _ => 0))), (q5, .inl (k6, 100, .inl (fun _ => 0))), (q7, .inl (k8, 300, .inl (fun _ => 0)))] H := hP
  have hD : va_D A [(h0, .inr (7, [.ref q1, .ref q3, .ref q5, .null, .null, .int 0, .int 0, .int 0, .int 0, .int 0])), (q1, .inl (k2, 100, .inl (fun _ => 0))), (q3, .inl (k4, 100, .inl (fun _ => 0))), (q5, .inl (k6, 100, .inl (fun _ => 0))), (q7, .inl (k8, 300, .inl (fun _ => 0)))] := hD
  have hK : va_K D vwCl [(k2, .int), (k4, .int), (k6, .int), (k8, .int)] s := hK
  refine va_putF (D := D) (ci := 7) (v := .ref q7) (ty := tyX7 3) (C := RX7) (T := TX7) (N := 10) hx hb hg inX7 tyX7 tyX7_ok nmX7 hown hK hP hD hS 0 rfl rfl 3 (by decide) (hg _ w438) (fun _ h9 => h9) rfl hin rfl (tyX7_ok 3 (by decide)) rfl rfl (Nat.le_of_ble_eq_true rfl) dX7_init_34 (fun H locs hP hD hS => ?_)
  have hP : va_P D vwCl [(h0, .inr (7, [.ref q1, .ref q3, .ref q5, .ref q7, .null, .int 0, .int 0, .int 0, .int 0, .int 0])), (q1, .inl (k2, 100, .inl (fun _ => 0))), (q3, .inl (k4, 100, .inl (fun _ => 0))), (q5, .inl (k6, 100, .inl (fun _ => 0))), (q7, .inl (k8, 300, .inl (fun _ => 0)))] H := hP
  have hD : va_D A [(h0, .inr (7, [.ref q1, .ref q3, .ref q5, .ref q7, .null, .int 0, .int 0, .int 0, .int 0, .int 0])), (q1, .inl (k2, 100, .inl (fun _ => 0))), (q3, .inl (k4, 100, .inl (fun _ => 0))), (q5, .inl (k6, 100, .inl (fun _ => 0))), (q7, .inl (k8, 300, .inl (fun _ => 0)))] := hD
  refine lv_aload_n hx hb dX7_init_37 rfl (lv_at hl 0 rfl) ?_
  refine lv_sipush (v := 300) hx hb dX7_init_38 (by decide) ?_
  refine va_newa (D := D) (atype := .int) (ty := .int) (n := 300) (N' := 300) (a0 := (300, .inl (fun _ => 0))) hx hb (hg _ w297) rfl hK hP hD hS hA (fun _ => rfl) (by decide) (by decide) (by decide) (Nat.le_of_ble_eq_true rfl) (Nat.le_of_ble_eq_true rfl) dX7_init_41 (fun q9 k10 H hK hP hD hS => ?_)
  have hP : va_P D vwCl [(h0, .inr (7, [.ref q1, .ref q3, .ref q5, .ref q7, .null, .int 0, .int 0, .int 0, .int 0, .int 0])), (q1, .inl (k2, 100, .inl (fun _ => 0))), (q3, .inl (k4, 100, .inl (fun _ => 0))), (q5, .inl (k6, 100, .inl (fun _ => 0))), (q7, .inl (k8, 300, .inl (fun _ => 0))), (q9, .inl (k10, 300, .inl (fun _ => 0)))] H := hP
  have hD : va_D A [(h0, .inr (7, [.ref q1, .ref q3, .ref q5, .ref q7, .null, .int 0, .int 0, .int 0, .int 0, .int 0])), (q1, .inl (k2, 100, .inl (fun _ => 0))), (q3, .inl (k4, 100, .inl (fun _ => 0))), (q5, .inl (k6, 100, .inl (fun _ => 0))), (q7, .inl (k8, 300, .inl (fun _ => 0))), (q9, .inl (k10, 300, .inl (fun _ => 0)))] := hD
  have hK : va_K D vwCl [(k2, .int), (k4, .int), (k6, .int), (k8, .int), (k10, .int)] s := hK
  refine va_putF (D := D) (ci := 7) (v := .ref q9) (ty := tyX7 4) (C := RX7) (T := TX7) (N := 10) hx hb hg inX7 tyX7 tyX7_ok nmX7 hown hK hP hD hS 0 rfl rfl 4 (by decide) (hg _ w439) (fun _ h9 => h9) rfl hin rfl (tyX7_ok 4 (by decide)) rfl rfl (Nat.le_of_ble_eq_true rfl) dX7_init_43 (fun H locs hP hD hS => ?_)
  have hP : va_P D vwCl [(h0, .inr (7, [.ref q1, .ref q3, .ref q5, .ref q7, .ref q9, .int 0, .int 0, .int 0, .int 0, .int 0])), (q1, .inl (k2, 100, .inl (fun _ => 0))), (q3, .inl (k4, 100, .inl (fun _ => 0))), (q5, .inl (k6, 100, .inl (fun _ => 0))), (q7, .inl (k8, 300, .inl (fun _ => 0))), (q9, .inl (k10, 300, .inl (fun _ => 0)))] H := hP
  have hD : va_D A [(h0, .inr (7, [.ref q1, .ref q3, .ref q5, .ref q7, .ref q9, .int 0, .int 0, .int 0, .int 0, .int 0])), (q1, .inl (k2, 100, .inl (fun _ => 0))), (q3, .inl (k4, 100, .inl (fun _ => 0))), (q5, .inl (k6, 100, .inl (fun _ => 0))), (q7, .inl (k8, 300, .inl (fun _ => 0))), (q9, .inl (k10, 300, .inl (fun _ => 0)))] := hD
  refine W.widen (k := 5) (n := 900) (Nat.le_of_ble_eq_true rfl) (Nat.le_of_ble_eq_true rfl) ?_
  have hP9 := hP.sub (ws' := [(h0, .inr (7, [.ref q1, .ref q3, .ref q5, .ref q7, .ref q9, .int 0, .int 0, .int 0, .int 0, .int 0])), (q1, .inl (k2, 100, .inl (fun _ => 0))), (q3, .inl (k4, 100, .inl (fun _ => 0))), (q5, .inl (k6, 100, .inl (fun _ => 0))), (q7, .inl (k8, 300, .inl (fun _ => 0))), (q9, .inl (k10, 300, .inl (fun _ => 0)))]) [0, 1, 2, 3, 4, 5] rfl
  have hD9 := hD.sub (ws' := [(h0, .inr (7, [.ref q1, .ref q3, .ref q5, .ref q7, .ref q9, .int 0, .int 0, .int 0, .int 0, .int 0])), (q1, .inl (k2, 100, .inl (fun _ => 0))), (q3, .inl (k4, 100, .inl (fun _ => 0))), (q5, .inl (k6, 100, .inl (fun _ => 0))), (q7, .inl (k8, 300, .inl (fun _ => 0))), (q9, .inl (k10, 300, .inl (fun _ => 0)))]) [0, 1, 2, 3, 4, 5] (by decide) rfl
  have hK9 := hK.sub (tys' := [(k2, .int), (k4, .int), (k6, .int), (k8, .int), (k10, .int)]) [0, 1, 2, 3, 4] rfl
  exact W.vret hx hb hr (fun t ht hW => ⟨⟨(q1, q3, q5, q7, q9, k2, k4, k6, k8, k10), rfl, (by first | rfl | trivial | assumption | decide), by rw [ht]; exact hP9, va_K.moved hW.alike hK9, hD9⟩, hS.F ht⟩) hS.2.2 dX7_init_46
abbrev r_c_Checker_init : Room := { frames := 1, cells := 6, slots := 2748, locals := 20 }
abbrev q_c_Checker_init (D : va_G) (h0 : Nat) (A : Nat → Prop) : Array Value → State → Outcome → State → Prop := va_Qv (fun (u : Nat × Nat × Nat × Nat × Nat × Nat × ClassId × ClassId × ClassId × ClassId × ClassId × ClassId) => True) (fun u t => gq D A ((fun (u : Nat × Nat × Nat × Nat × Nat × Nat × ClassId × ClassId × ClassId × ClassId × ClassId × ClassId) => [(h0, .inr (2, [.ref u.1, .ref u.2.1, .ref u.2.2.1, .ref u.2.2.2.1, .ref u.2.2.2.2.1, .ref u.2.2.2.2.2.1, .null, .int 0])), (u.1, .inl (u.2.2.2.2.2.2.1, 100, .inl (fun _ => 0))), (u.2.1, .inl (u.2.2.2.2.2.2.2.1, 100, .inl (fun _ => 0))), (u.2.2.1, .inl (u.2.2.2.2.2.2.2.2.1, 100, .inl (fun _ => 0))), (u.2.2.2.1, .inl (u.2.2.2.2.2.2.2.2.2.1, 2400, .inl (fun _ => 0))), (u.2.2.2.2.1, .inl (u.2.2.2.2.2.2.2.2.2.2.1, 24, .inl (fun _ => 0))), (u.2.2.2.2.2.1, .inl (u.2.2.2.2.2.2.2.2.2.2.2, 24, .inl (fun _ => 0)))]) u) ((fun (u : Nat × Nat × Nat × Nat × Nat × Nat × ClassId × ClassId × ClassId × ClassId × ClassId × ClassId) => ([(u.2.2.2.2.2.2.1, .int), (u.2.2.2.2.2.2.2.1, .int), (u.2.2.2.2.2.2.2.2.1, .int), (u.2.2.2.2.2.2.2.2.2.1, .int), (u.2.2.2.2.2.2.2.2.2.2.1, .int), (u.2.2.2.2.2.2.2.2.2.2.2, .int)] : List (ClassId × FieldType))) u) t) A
set_option maxHeartbeats 4000000 in
set_option maxRecDepth 100000 in
theorem c_Checker_init (l : Launch) (D : va_G) (ks : KS) (sz : Nat) (h0 : Nat) : Met l yX2_init (Cond.code yX2_init cX2_init 1 none :: GW) r_c_Checker_init (va_Pc [.ref h0] (gp D ks [(h0, .inr (2, [.null, .null, .null, .null, .null, .null, .null, .int 0]))] [] sz)) (q_c_Checker_init D h0 (va_A [(h0, .inr (2, [.null, .null, .null, .null, .null, .null, .null, .int 0]))] sz)) 6 2748 (va_A [(h0, .inr (2, [.null, .null, .null, .null, .null, .null, .null, .int 0]))] sz) := by
  refine g_met (q_c_Checker_init D h0) (by decide) (Nat.le_of_ble_eq_true rfl) ?_
  intro p e s m below meth c A ls H locs hx hb hr hml hown hg hlocks hin hnw hgk hP hK hD hS hA hl
  have hown : s.vm.findClass RX2 = some m.cls := hown
  have hin : meth.name = "<init>" := hin
  have hl : lv_has ls 1 [(0, .ref h0)] := hl
  refine lv_aload_n hx hb dX2_init_0 rfl (lv_at hl 0 rfl) ?_
  refine W.objInit hx hb hown (hg _ w337) (hg _ w188) (hg _ wobj) rfl (by rw [hml]; exact hl.1) rfl dX2_init_1 (Nat.le_of_ble_eq_true rfl) (Nat.le_of_ble_eq_true rfl) ?_
  refine W.eq (g2 := F0 m 4 ls []) rfl ?_
  refine lv_aload_n hx hb dX2_init_4 rfl (lv_at hl 0 rfl) ?_
  refine lv_bipush (v := 100) hx hb dX2_init_5 (by decide) ?_
  refine va_newa (D := D) (atype := .int) (ty := .int) (n := 100) (N' := 100) (a0 := (100, .inl (fun _ => 0))) hx hb (hg _ w297) rfl hK hP hD hS hA (fun _ => rfl) (by decide) (by decide) (by decide) (Nat.le_of_ble_eq_true rfl) (Nat.le_of_ble_eq_true rfl) dX2_init_7 (fun q1 k2 H hK hP hD hS => ?_)
  have hP : va_P D vwCl [(h0, .inr (2, [.null, .null, .null, .null, .null, .null, .null, .int 0])), (q1, .inl (k2, 100, .inl (fun _ => 0)))] H := hP
  have hD : va_D A [(h0, .inr (2, [.null, .null, .null, .null, .null, .null, .null, .int 0])), (q1, .inl (k2, 100, .inl (fun _ => 0)))] := hD
  have hK : va_K D vwCl [(k2, .int)] s := hK
  refine va_putF (D := D) (ci := 2) (v := .ref q1) (ty := tyX2 0) (C := RX2) (T := TX2) (N := 8) hx hb hg inX2 tyX2 tyX2_ok nmX2 hown hK hP hD hS 0 rfl rfl 0 (by decide) (hg _ w338) (fun _ h9 => h9) rfl hin rfl (tyX2_ok 0 (by decide)) rfl rfl (Nat.le_of_ble_eq_true rfl) dX2_init_9 (fun H locs hP hD hS => ?_)
  have hP : va_P D vwCl [(h0, .inr (2, [.ref q1, .null, .null, .null, .null, .null, .null, .int 0])), (q1, .inl (k2, 100, .inl (fun _ => 0)))] H := hP
  have hD : va_D A [(h0, .inr (2, [.ref q1, .null, .null, .null, .null, .null, .null, .int 0])), (q1, .inl (k2, 100, .inl (fun _ => 0)))] := hD
  refine lv_aload_n hx hb dX2_init_12 rfl (lv_at hl 0 rfl) ?_
  refine lv_bipush (v := 100) hx hb dX2_init_13 (by decide) ?_
  refine va_newa (D := D) (atype := .int) (ty := .int) (n := 100) (N' := 100) (a0 := (100, .inl (fun _ => 0))) hx hb (hg _ w297) rfl hK hP hD hS hA (fun _ => rfl) (by decide) (by decide) (by decide) (Nat.le_of_ble_eq_true rfl) (Nat.le_of_ble_eq_true rfl) dX2_init_15 (fun q3 k4 H hK hP hD hS => ?_)
  have hP : va_P D vwCl [(h0, .inr (2, [.ref q1, .null, .null, .null, .null, .null, .null, .int 0])), (q1, .inl (k2, 100, .inl (fun _ => 0))), (q3, .inl (k4, 100, .inl (fun _ => 0)))] H := hP
  have hD : va_D A [(h0, .inr (2, [.ref q1, .null, .null, .null, .null, .null, .null, .int 0])), (q1, .inl (k2, 100, .inl (fun _ => 0))), (q3, .inl (k4, 100, .inl (fun _ => 0)))] := hD
  have hK : va_K D vwCl [(k2, .int), (k4, .int)] s := hK
  refine va_putF (D := D) (ci := 2) (v := .ref q3) (ty := tyX2 1) (C := RX2) (T := TX2) (N := 8) hx hb hg inX2 tyX2 tyX2_ok nmX2 hown hK hP hD hS 0 rfl rfl 1 (by decide) (hg _ w339) (fun _ h9 => h9) rfl hin rfl (tyX2_ok 1 (by decide)) rfl rfl (Nat.le_of_ble_eq_true rfl) dX2_init_17 (fun H locs hP hD hS => ?_)
  have hP : va_P D vwCl [(h0, .inr (2, [.ref q1, .ref q3, .null, .null, .null, .null, .null, .int 0])), (q1, .inl (k2, 100, .inl (fun _ => 0))), (q3, .inl (k4, 100, .inl (fun _ => 0)))] H := hP
  have hD : va_D A [(h0, .inr (2, [.ref q1, .ref q3, .null, .null, .null, .null, .null, .int 0])), (q1, .inl (k2, 100, .inl (fun _ => 0))), (q3, .inl (k4, 100, .inl (fun _ => 0)))] := hD
  refine lv_aload_n hx hb dX2_init_20 rfl (lv_at hl 0 rfl) ?_
  refine lv_bipush (v := 100) hx hb dX2_init_21 (by decide) ?_
  refine va_newa (D := D) (atype := .int) (ty := .int) (n := 100) (N' := 100) (a0 := (100, .inl (fun _ => 0))) hx hb (hg _ w297) rfl hK hP hD hS hA (fun _ => rfl) (by decide) (by decide) (by decide) (Nat.le_of_ble_eq_true rfl) (Nat.le_of_ble_eq_true rfl) dX2_init_23 (fun q5 k6 H hK hP hD hS => ?_)
  have hP : va_P D vwCl [(h0, .inr (2, [.ref q1, .ref q3, .null, .null, .null, .null, .null, .int 0])), (q1, .inl (k2, 100, .inl (fun _ => 0))), (q3, .inl (k4, 100, .inl (fun _ => 0))), (q5, .inl (k6, 100, .inl (fun _ => 0)))] H := hP
  have hD : va_D A [(h0, .inr (2, [.ref q1, .ref q3, .null, .null, .null, .null, .null, .int 0])), (q1, .inl (k2, 100, .inl (fun _ => 0))), (q3, .inl (k4, 100, .inl (fun _ => 0))), (q5, .inl (k6, 100, .inl (fun _ => 0)))] := hD
  have hK : va_K D vwCl [(k2, .int), (k4, .int), (k6, .int)] s := hK
  refine va_putF (D := D) (ci := 2) (v := .ref q5) (ty := tyX2 2) (C := RX2) (T := TX2) (N := 8) hx hb hg inX2 tyX2 tyX2_ok nmX2 hown hK hP hD hS 0 rfl rfl 2 (by decide) (hg _ w340) (fun _ h9 => h9) rfl hin rfl (tyX2_ok 2 (by decide)) rfl rfl (Nat.le_of_ble_eq_true rfl) dX2_init_25 (fun H locs hP hD hS => ?_)
  have hP : va_P D vwCl [(h0, .inr (2, [.ref q1, .ref q3, .ref q5, .null, .null, .null, .null, .int 0])), (q1, .inl (k2, 100, .inl (fun _ => 0))), (q3, .inl (k4, 100, .inl (fun _ => 0))), (q5, .inl (k6, 100, .inl (fun _ => 0)))] H := hP
  have hD : va_D A [(h0, .inr (2, [.ref q1, .ref q3, .ref q5, .null, .null, .null, .null, .int 0])), (q1, .inl (k2, 100, .inl (fun _ => 0))), (q3, .inl (k4, 100, .inl (fun _ => 0))), (q5, .inl (k6, 100, .inl (fun _ => 0)))] := hD
  refine lv_aload_n hx hb dX2_init_28 rfl (lv_at hl 0 rfl) ?_
  refine lv_sipush (v := 2400) hx hb dX2_init_29 (by decide) ?_
  refine va_newa (D := D) (atype := .int) (ty := .int) (n := 2400) (N' := 2400) (a0 := (2400, .inl (fun _ => 0))) hx hb (hg _ w297) rfl hK hP hD hS hA (fun _ => rfl) (by decide) (by decide) (by decide) (Nat.le_of_ble_eq_true rfl) (Nat.le_of_ble_eq_true rfl) dX2_init_32 (fun q7 k8 H hK hP hD hS => ?_)
  have hP : va_P D vwCl [(h0, .inr (2, [.ref q1, .ref q3, .ref q5, .null, .null, .null, .null, .int 0])), (q1, .inl (k2, 100, .inl (fun _ => 0))), (q3, .inl (k4, 100, .inl (fun _ => 0))), (q5, .inl (k6, 100, .inl (fun _ => 0))), (q7, .inl (k8, 2400, .inl (fun _ => 0)))] H := hP
  have hD : va_D A [(h0, .inr (2, [.ref q1, .ref q3, .ref q5, .null, .null, .null, .null, .int 0])), (q1, .inl (k2, 100, .inl (fun _ => 0))), (q3, .inl (k4, 100, .inl (fun _ => 0))), (q5, .inl (k6, 100, .inl (fun _ => 0))), (q7, .inl (k8, 2400, .inl (fun _ => 0)))] := hD
  have hK : va_K D vwCl [(k2, .int), (k4, .int), (k6, .int), (k8, .int)] s := hK
  refine va_putF (D := D) (ci := 2) (v := .ref q7) (ty := tyX2 3) (C := RX2) (T := TX2) (N := 8) hx hb hg inX2 tyX2 tyX2_ok nmX2 hown hK hP hD hS 0 rfl rfl 3 (by decide) (hg _ w341) (fun _ h9 => h9) rfl hin rfl (tyX2_ok 3 (by decide)) rfl rfl (Nat.le_of_ble_eq_true rfl) dX2_init_34 (fun H locs hP hD hS => ?_)
  have hP : va_P D vwCl [(h0, .inr (2, [.ref q1, .ref q3, .ref q5, .ref q7, .null, .null, .null, .int 0])), (q1, .inl (k2, 100, .inl (fun _ => 0))), (q3, .inl (k4, 100, .inl (fun _ => 0))), (q5, .inl (k6, 100, .inl (fun _ => 0))), (q7, .inl (k8, 2400, .inl (fun _ => 0)))] H := hP
  have hD : va_D A [(h0, .inr (2, [.ref q1, .ref q3, .ref q5, .ref q7, .null, .null, .null, .int 0])), (q1, .inl (k2, 100, .inl (fun _ => 0))), (q3, .inl (k4, 100, .inl (fun _ => 0))), (q5, .inl (k6, 100, .inl (fun _ => 0))), (q7, .inl (k8, 2400, .inl (fun _ => 0)))] := hD
  refine lv_aload_n hx hb dX2_init_37 rfl (lv_at hl 0 rfl) ?_
  refine lv_bipush (v := 24) hx hb dX2_init_38 (by decide) ?_
  refine va_newa (D := D) (atype := .int) (ty := .int) (n := 24) (N' := 24) (a0 := (24, .inl (fun _ => 0))) hx hb (hg _ w297) rfl hK hP hD hS hA (fun _ => rfl) (by decide) (by decide) (by decide) (Nat.le_of_ble_eq_true rfl) (Nat.le_of_ble_eq_true rfl) dX2_init_40 (fun q9 k10 H hK hP hD hS => ?_)
  have hP : va_P D vwCl [(h0, .inr (2, [.ref q1, .ref q3, .ref q5, .ref q7, .null, .null, .null, .int 0])), (q1, .inl (k2, 100, .inl (fun _ => 0))), (q3, .inl (k4, 100, .inl (fun _ => 0))), (q5, .inl (k6, 100, .inl (fun _ => 0))), (q7, .inl (k8, 2400, .inl (fun _ => 0))), (q9, .inl (k10, 24, .inl (fun _ => 0)))] H := hP
  have hD : va_D A [(h0, .inr (2, [.ref q1, .ref q3, .ref q5, .ref q7, .null, .null, .null, .int 0])), (q1, .inl (k2, 100, .inl (fun _ => 0))), (q3, .inl (k4, 100, .inl (fun _ => 0))), (q5, .inl (k6, 100, .inl (fun _ => 0))), (q7, .inl (k8, 2400, .inl (fun _ => 0))), (q9, .inl (k10, 24, .inl (fun _ => 0)))] := hD
  have hK : va_K D vwCl [(k2, .int), (k4, .int), (k6, .int), (k8, .int), (k10, .int)] s := hK
  refine va_putF (D := D) (ci := 2) (v := .ref q9) (ty := tyX2 4) (C := RX2) (T := TX2) (N := 8) hx hb hg inX2 tyX2 tyX2_ok nmX2 hown hK hP hD hS 0 rfl rfl 4 (by decide) (hg _ w342) (fun _ h9 => h9) rfl hin rfl (tyX2_ok 4 (by decide)) rfl rfl (Nat.le_of_ble_eq_true rfl) dX2_init_42 (fun H locs hP hD hS => ?_)
  have hP : va_P D vwCl [(h0, .inr (2, [.ref q1, .ref q3, .ref q5, .ref q7, .ref q9, .null, .null, .int 0])), (q1, .inl (k2, 100, .inl (fun _ => 0))), (q3, .inl (k4, 100, .inl (fun _ => 0))), (q5, .inl (k6, 100, .inl (fun _ => 0))), (q7, .inl (k8, 2400, .inl (fun _ => 0))), (q9, .inl (k10, 24, .inl (fun _ => 0)))] H := hP
  have hD : va_D A [(h0, .inr (2, [.ref q1, .ref q3, .ref q5, .ref q7, .ref q9, .null, .null, .int 0])), (q1, .inl (k2, 100, .inl (fun _ => 0))), (q3, .inl (k4, 100, .inl (fun _ => 0))), (q5, .inl (k6, 100, .inl (fun _ => 0))), (q7, .inl (k8, 2400, .inl (fun _ => 0))), (q9, .inl (k10, 24, .inl (fun _ => 0)))] := hD
  refine lv_aload_n hx hb dX2_init_45 rfl (lv_at hl 0 rfl) ?_
  refine lv_bipush (v := 24) hx hb dX2_init_46 (by decide) ?_
  refine va_newa (D := D) (atype := .int) (ty := .int) (n := 24) (N' := 24) (a0 := (24, .inl (fun _ => 0))) hx hb (hg _ w297) rfl hK hP hD hS hA (fun _ => rfl) (by decide) (by decide) (by decide) (Nat.le_of_ble_eq_true rfl) (Nat.le_of_ble_eq_true rfl) dX2_init_48 (fun q11 k12 H hK hP hD hS => ?_)
  have hP : va_P D vwCl [(h0, .inr (2, [.ref q1, .ref q3, .ref q5, .ref q7, .ref q9, .null, .null, .int 0])), (q1, .inl (k2, 100, .inl (fun _ => 0))), (q3, .inl (k4, 100, .inl (fun _ => 0))), (q5, .inl (k6, 100, .inl (fun _ => 0))), (q7, .inl (k8, 2400, .inl (fun _ => 0))), (q9, .inl (k10, 24, .inl (fun _ => 0))), (q11, .inl (k12, 24, .inl (fun _ => 0)))] H := hP
  have hD : va_D A [(h0, .inr (2, [.ref q1, .ref q3, .ref q5, .ref q7, .ref q9, .null, .null, .int 0])), (q1, .inl (k2, 100, .inl (fun _ => 0))), (q3, .inl (k4, 100, .inl (fun _ => 0))), (q5, .inl (k6, 100, .inl (fun _ => 0))), (q7, .inl (k8, 2400, .inl (fun _ => 0))), (q9, .inl (k10, 24, .inl (fun _ => 0))), (q11, .inl (k12, 24, .inl (fun _ => 0)))] := hD
  have hK : va_K D vwCl [(k2, .int), (k4, .int), (k6, .int), (k8, .int), (k10, .int), (k12, .int)] s := hK
  refine va_putF (D := D) (ci := 2) (v := .ref q11) (ty := tyX2 5) (C := RX2) (T := TX2) (N := 8) hx hb hg inX2 tyX2 tyX2_ok nmX2 hown hK hP hD hS 0 rfl rfl 5 (by decide) (hg _ w343) (fun _ h9 => h9) rfl hin rfl (tyX2_ok 5 (by decide)) rfl rfl (Nat.le_of_ble_eq_true rfl) dX2_init_50 (fun H locs hP hD hS => ?_)
  have hP : va_P D vwCl [(h0, .inr (2, [.ref q1, .ref q3, .ref q5, .ref q7, .ref q9, .ref q11, .null, .int 0])), (q1, .inl (k2, 100, .inl (fun _ => 0))), (q3, .inl (k4, 100, .inl (fun _ => 0))), (q5, .inl (k6, 100, .inl (fun _ => 0))), (q7, .inl (k8, 2400, .inl (fun _ => 0))), (q9, .inl (k10, 24, .inl (fun _ => 0))), (q11, .inl (k12, 24, .inl (fun _ => 0)))] H := hP
  have hD : va_D A [(h0, .inr (2, [.ref q1, .ref q3, .ref q5, .ref q7, .ref q9, .ref q11, .null, .int 0])), (q1, .inl (k2, 100, .inl (fun _ => 0))), (q3, .inl (k4, 100, .inl (fun _ => 0))), (q5, .inl (k6, 100, .inl (fun _ => 0))), (q7, .inl (k8, 2400, .inl (fun _ => 0))), (q9, .inl (k10, 24, .inl (fun _ => 0))), (q11, .inl (k12, 24, .inl (fun _ => 0)))] := hD
  refine W.widen (k := 6) (n := 2748) (Nat.le_of_ble_eq_true rfl) (Nat.le_of_ble_eq_true rfl) ?_
  have hP9 := hP.sub (ws' := [(h0, .inr (2, [.ref q1, .ref q3, .ref q5, .ref q7, .ref q9, .ref q11, .null, .int 0])), (q1, .inl (k2, 100, .inl (fun _ => 0))), (q3, .inl (k4, 100, .inl (fun _ => 0))), (q5, .inl (k6, 100, .inl (fun _ => 0))), (q7, .inl (k8, 2400, .inl (fun _ => 0))), (q9, .inl (k10, 24, .inl (fun _ => 0))), (q11, .inl (k12, 24, .inl (fun _ => 0)))]) [0, 1, 2, 3, 4, 5, 6] rfl
  have hD9 := hD.sub (ws' := [(h0, .inr (2, [.ref q1, .ref q3, .ref q5, .ref q7, .ref q9, .ref q11, .null, .int 0])), (q1, .inl (k2, 100, .inl (fun _ => 0))), (q3, .inl (k4, 100, .inl (fun _ => 0))), (q5, .inl (k6, 100, .inl (fun _ => 0))), (q7, .inl (k8, 2400, .inl (fun _ => 0))), (q9, .inl (k10, 24, .inl (fun _ => 0))), (q11, .inl (k12, 24, .inl (fun _ => 0)))]) [0, 1, 2, 3, 4, 5, 6] (by decide) rfl
  have hK9 := hK.sub (tys' := [(k2, .int), (k4, .int), (k6, .int), (k8, .int), (k10, .int), (k12, .int)]) [0, 1, 2, 3, 4, 5] rfl
  exact W.vret hx hb hr (fun t ht hW => ⟨⟨(q1, q3, q5, q7, q9, q11, k2, k4, k6, k8, k10, k12), rfl, (by first | rfl | trivial | assumption | decide), by rw [ht]; exact hP9, va_K.moved hW.alike hK9, hD9⟩, hS.F ht⟩) hS.2.2 dX2_init_53
abbrev r_c_Reader_init : Room := { frames := 1, cells := 0, slots := 0, locals := 20 }
abbrev q_c_Reader_init (D : va_G) (h0 : Nat) (ht : Nat) (A : Nat → Prop) : Array Value → State → Outcome → State → Prop := va_Qv (fun (_ : Unit) => True) (fun u t => gq D A ((fun (_ : Unit) => [(h0, .inr (1, [.ref ht, .null, .null, .int 0, .int 0, .long 0, .int 0, .int 0, .int 0]))]) u) ((fun (_ : Unit) => ([] : List (ClassId × FieldType))) u) t) A
set_option maxHeartbeats 4000000 in
set_option maxRecDepth 100000 in
theorem c_Reader_init (l : Launch) (D : va_G) (ks : KS) (sz : Nat) (h0 : Nat) (ht : Nat) : Met l yX1_init (Cond.code yX1_init cX1_init 2 none :: GW) r_c_Reader_init (va_Pc [.ref h0, .ref ht] (gp D ks [(h0, .inr (1, [.null, .null, .null, .int 0, .int 0, .long 0, .int 0, .int 0, .int 0]))] [] sz)) (q_c_Reader_init D h0 ht (va_A [(h0, .inr (1, [.null, .null, .null, .int 0, .int 0, .long 0, .int 0, .int 0, .int 0]))] sz)) 0 0 (va_A [(h0, .inr (1, [.null, .null, .null, .int 0, .int 0, .long 0, .int 0, .int 0, .int 0]))] sz) := by
  refine g_met (q_c_Reader_init D h0 ht) (by decide) (Nat.le_of_ble_eq_true rfl) ?_
  intro p e s m below meth c A ls H locs hx hb hr hml hown hg hlocks hin hnw hgk hP hK hD hS hA hl
  have hown : s.vm.findClass RX1 = some m.cls := hown
  have hin : meth.name = "<init>" := hin
  have hl : lv_has ls 2 [(0, .ref h0), (1, .ref ht)] := hl
  refine lv_aload_n hx hb dX1_init_0 rfl (lv_at hl 0 rfl) ?_
  refine W.objInit hx hb hown (hg _ w303) (hg _ w188) (hg _ wobj) rfl (by rw [hml]; exact hl.1) rfl dX1_init_1 (Nat.le_of_ble_eq_true rfl) (Nat.le_of_ble_eq_true rfl) ?_
  refine W.eq (g2 := F0 m 4 ls []) rfl ?_
  refine lv_aload_n hx hb dX1_init_4 rfl (lv_at hl 0 rfl) ?_
  refine lv_aload_n hx hb dX1_init_5 rfl (lv_at hl 1 rfl) ?_
  refine va_putF (D := D) (ci := 1) (v := .ref ht) (ty := tyX1 0) (C := RX1) (T := TX1) (N := 9) hx hb hg inX1 tyX1 tyX1_ok nmX1 hown hK hP hD hS 0 rfl rfl 0 (by decide) (hg _ w304) (fun _ h9 => h9) rfl hin rfl (tyX1_ok 0 (by decide)) rfl rfl (Nat.le_of_ble_eq_true rfl) dX1_init_6 (fun H locs hP hD hS => ?_)
  have hP : va_P D vwCl [(h0, .inr (1, [.ref ht, .null, .null, .int 0, .int 0, .long 0, .int 0, .int 0, .int 0]))] H := hP
  have hD : va_D A [(h0, .inr (1, [.ref ht, .null, .null, .int 0, .int 0, .long 0, .int 0, .int 0, .int 0]))] := hD
  refine W.widen (k := 0) (n := 0) (Nat.le_of_ble_eq_true rfl) (Nat.le_of_ble_eq_true rfl) ?_
  have hP9 := hP.sub (ws' := [(h0, .inr (1, [.ref ht, .null, .null, .int 0, .int 0, .long 0, .int 0, .int 0, .int 0]))]) [0] rfl
  have hD9 := hD.sub (ws' := [(h0, .inr (1, [.ref ht, .null, .null, .int 0, .int 0, .long 0, .int 0, .int 0, .int 0]))]) [0] (by decide) rfl
  have hK9 := hK.sub (tys' := []) [] rfl
  exact W.vret hx hb hr (fun t ht hW => ⟨⟨(), rfl, (by first | rfl | trivial | assumption | decide), by rw [ht]; exact hP9, va_K.moved hW.alike hK9, hD9⟩, hS.F ht⟩) hS.2.2 dX1_init_9
abbrev r_c_Machine_init : Room := { frames := 1, cells := 3, slots := 2748, locals := 20 }
abbrev q_c_Machine_init (D : va_G) (h0 : Nat) (x1 : Nat) (x2 : Nat) (x3 : Nat) (A : Nat → Prop) : Array Value → State → Outcome → State → Prop := va_Qv (fun (u : Nat × Nat × Nat × ClassId × ClassId × ClassId) => True) (fun u t => gq D A ((fun (u : Nat × Nat × Nat × ClassId × ClassId × ClassId) => [(h0, .inr (5, [.ref x2, .ref x3, .ref u.1, .ref u.2.1, .ref u.2.2.1, .ref x1, .int 0, .int 0, .int 0, .int 0, .int 0, .int 0, .int 0, .int 0, .int 0])), (u.1, .inl (u.2.2.2.1, 400, .inr (.inr (.inr (.inr (fun _ => none)))))), (u.2.1, .inl (u.2.2.2.2.1, 2048, .inl (fun _ => 0))), (u.2.2.1, .inl (u.2.2.2.2.2, 300, .inl (fun _ => 0)))]) u) ((fun (u : Nat × Nat × Nat × ClassId × ClassId × ClassId) => ([(u.2.2.2.1, .object RX4), (u.2.2.2.2.1, .int), (u.2.2.2.2.2, .int)] : List (ClassId × FieldType))) u) t) A
set_option maxHeartbeats 4000000 in
set_option maxRecDepth 100000 in
theorem c_Machine_init (l : Launch) (D : va_G) (ks : KS) (sz : Nat) (h0 : Nat) (x1 : Nat) (x2 : Nat) (x3 : Nat) : Met l yX5_init (Cond.code yX5_init cX5_init 4 none :: GW) r_c_Machine_init (va_Pc [.ref h0, .ref x1, .ref x2, .ref x3] (gp D ks [(h0, .inr (5, [.null, .null, .null, .null, .null, .null, .int 0, .int 0, .int 0, .int 0, .int 0, .int 0, .int 0, .int 0, .int 0]))] [] sz)) (q_c_Machine_init D h0 x1 x2 x3 (va_A [(h0, .inr (5, [.null, .null, .null, .null, .null, .null, .int 0, .int 0, .int 0, .int 0, .int 0, .int 0, .int 0, .int 0, .int 0]))] sz)) 3 2748 (va_A [(h0, .inr (5, [.null, .null, .null, .null, .null, .null, .int 0, .int 0, .int 0, .int 0, .int 0, .int 0, .int 0, .int 0, .int 0]))] sz) := by
  refine g_met (q_c_Machine_init D h0 x1 x2 x3) (by decide) (Nat.le_of_ble_eq_true rfl) ?_
  intro p e s m below meth c A ls H locs hx hb hr hml hown hg hlocks hin hnw hgk hP hK hD hS hA hl
  have hown : s.vm.findClass RX5 = some m.cls := hown
  have hin : meth.name = "<init>" := hin
  have hl : lv_has ls 4 [(0, .ref h0), (1, .ref x1), (2, .ref x2), (3, .ref x3)] := hl
  refine lv_aload_n hx hb dX5_init_0 rfl (lv_at hl 0 rfl) ?_
  refine W.objInit hx hb hown (hg _ w664) (hg _ w188) (hg _ wobj) rfl (by rw [hml]; exact hl.1) rfl dX5_init_1 (Nat.le_of_ble_eq_true rfl) (Nat.le_of_ble_eq_true rfl) ?_
  refine W.eq (g2 := F0 m 4 ls []) rfl ?_
  refine lv_aload_n hx hb dX5_init_4 rfl (lv_at hl 0 rfl) ?_
  refine lv_sipush (v := 400) hx hb dX5_init_5 (by decide) ?_
  refine va_newq (D := D) (C := RX4) (n := 400) (N' := 400) hx hb hown (hg _ w665) hgk.2.2.2.2.1 hK hP hD hS hA (by decide) (by decide) (by decide) (Nat.le_of_ble_eq_true rfl) (Nat.le_of_ble_eq_true rfl) dX5_init_8 (fun q1 k2 H hK hP hD hS => ?_)
  have hP : va_P D vwCl [(h0, .inr (5, [.null, .null, .null, .null, .null, .null, .int 0, .int 0, .int 0, .int 0, .int 0, .int 0, .int 0, .int 0, .int 0])), (q1, .inl (k2, 400, .inr (.inr (.inr (.inr (fun _ => none))))))] H := hP
  have hD : va_D A [(h0, .inr (5, [.null, .null, .null, .null, .null, .null, .int 0, .int 0, .int 0, .int 0, .int 0, .int 0, .int 0, .int 0, .int 0])), (q1, .inl (k2, 400, .inr (.inr (.inr (.inr (fun _ => none))))))] := hD
  have hK : va_K D vwCl [(k2, .object RX4)] s := hK
  refine va_putF (D := D) (ci := 5) (v := .ref q1) (ty := tyX5 2) (C := RX5) (T := TX5) (N := 15) hx hb hg inX5 tyX5 tyX5_ok nmX5 hown hK hP hD hS 0 rfl rfl 2 (by decide) (hg _ w669) (fun _ h9 => h9) rfl hin rfl (tyX5_ok 2 (by decide)) rfl rfl (Nat.le_of_ble_eq_true rfl) dX5_init_11 (fun H locs hP hD hS => ?_)
  have hP : va_P D vwCl [(h0, .inr (5, [.null, .null, .ref q1, .null, .null, .null, .int 0, .int 0, .int 0, .int 0, .int 0, .int 0, .int 0, .int 0, .int 0])), (q1, .inl (k2, 400, .inr (.inr (.inr (.inr (fun _ => none))))))] H := hP
  have hD : va_D A [(h0, .inr (5, [.null, .null, .ref q1, .null, .null, .null, .int 0, .int 0, .int 0, .int 0, .int 0, .int 0, .int 0, .int 0, .int 0])), (q1, .inl (k2, 400, .inr (.inr (.inr (.inr (fun _ => none))))))] := hD
  refine lv_aload_n hx hb dX5_init_14 rfl (lv_at hl 0 rfl) ?_
  refine lv_sipush (v := 2048) hx hb dX5_init_15 (by decide) ?_
  refine va_newa (D := D) (atype := .int) (ty := .int) (n := 2048) (N' := 2048) (a0 := (2048, .inl (fun _ => 0))) hx hb (hg _ w297) rfl hK hP hD hS hA (fun _ => rfl) (by decide) (by decide) (by decide) (Nat.le_of_ble_eq_true rfl) (Nat.le_of_ble_eq_true rfl) dX5_init_18 (fun q3 k4 H hK hP hD hS => ?_)
  have hP : va_P D vwCl [(h0, .inr (5, [.null, .null, .ref q1, .null, .null, .null, .int 0, .int 0, .int 0, .int 0, .int 0, .int 0, .int 0, .int 0, .int 0])), (q1, .inl (k2, 400, .inr (.inr (.inr (.inr (fun _ => none)))))), (q3, .inl (k4, 2048, .inl (fun _ => 0)))] H := hP
  have hD : va_D A [(h0, .inr (5, [.null, .null, .ref q1, .null, .null, .null, .int 0, .int 0, .int 0, .int 0, .int 0, .int 0, .int 0, .int 0, .int 0])), (q1, .inl (k2, 400, .inr (.inr (.inr (.inr (fun _ => none)))))), (q3, .inl (k4, 2048, .inl (fun _ => 0)))] := hD
  have hK : va_K D vwCl [(k2, .object RX4), (k4, .int)] s := hK
  refine va_putF (D := D) (ci := 5) (v := .ref q3) (ty := tyX5 3) (C := RX5) (T := TX5) (N := 15) hx hb hg inX5 tyX5 tyX5_ok nmX5 hown hK hP hD hS 0 rfl rfl 3 (by decide) (hg _ w670) (fun _ h9 => h9) rfl hin rfl (tyX5_ok 3 (by decide)) rfl rfl (Nat.le_of_ble_eq_true rfl) dX5_init_20 (fun H locs hP hD hS => ?_)
  have hP : va_P D vwCl [(h0, .inr (5, [.null, .null, .ref q1, .ref q3, .null, .null, .int 0, .int 0, .int 0, .int 0, .int 0, .int 0, .int 0, .int 0, .int 0])), (q1, .inl (k2, 400, .inr (.inr (.inr (.inr (fun _ => none)))))), (q3, .inl (k4, 2048, .inl (fun _ => 0)))] H := hP
  have hD : va_D A [(h0, .inr (5, [.null, .null, .ref q1, .ref q3, .null, .null, .int 0, .int 0, .int 0, .int 0, .int 0, .int 0, .int 0, .int 0, .int 0])), (q1, .inl (k2, 400, .inr (.inr (.inr (.inr (fun _ => none)))))), (q3, .inl (k4, 2048, .inl (fun _ => 0)))] := hD
  refine lv_aload_n hx hb dX5_init_23 rfl (lv_at hl 0 rfl) ?_
  refine lv_sipush (v := 300) hx hb dX5_init_24 (by decide) ?_
  refine va_newa (D := D) (atype := .int) (ty := .int) (n := 300) (N' := 300) (a0 := (300, .inl (fun _ => 0))) hx hb (hg _ w297) rfl hK hP hD hS hA (fun _ => rfl) (by decide) (by decide) (by decide) (Nat.le_of_ble_eq_true rfl) (Nat.le_of_ble_eq_true rfl) dX5_init_27 (fun q5 k6 H hK hP hD hS => ?_)
  have hP : va_P D vwCl [(h0, .inr (5, [.null, .null, .ref q1, .ref q3, .null, .null, .int 0, .int 0, .int 0, .int 0, .int 0, .int 0, .int 0, .int 0, .int 0])), (q1, .inl (k2, 400, .inr (.inr (.inr (.inr (fun _ => none)))))), (q3, .inl (k4, 2048, .inl (fun _ => 0))), (q5, .inl (k6, 300, .inl (fun _ => 0)))] H := hP
  have hD : va_D A [(h0, .inr (5, [.null, .null, .ref q1, .ref q3, .null, .null, .int 0, .int 0, .int 0, .int 0, .int 0, .int 0, .int 0, .int 0, .int 0])), (q1, .inl (k2, 400, .inr (.inr (.inr (.inr (fun _ => none)))))), (q3, .inl (k4, 2048, .inl (fun _ => 0))), (q5, .inl (k6, 300, .inl (fun _ => 0)))] := hD
  have hK : va_K D vwCl [(k2, .object RX4), (k4, .int), (k6, .int)] s := hK
  refine va_putF (D := D) (ci := 5) (v := .ref q5) (ty := tyX5 4) (C := RX5) (T := TX5) (N := 15) hx hb hg inX5 tyX5 tyX5_ok nmX5 hown hK hP hD hS 0 rfl rfl 4 (by decide) (hg _ w671) (fun _ h9 => h9) rfl hin rfl (tyX5_ok 4 (by decide)) rfl rfl (Nat.le_of_ble_eq_true rfl) dX5_init_29 (fun H locs hP hD hS => ?_)
  have hP : va_P D vwCl [(h0, .inr (5, [.null, .null, .ref q1, .ref q3, .ref q5, .null, .int 0, .int 0, .int 0, .int 0, .int 0, .int 0, .int 0, .int 0, .int 0])), (q1, .inl (k2, 400, .inr (.inr (.inr (.inr (fun _ => none)))))), (q3, .inl (k4, 2048, .inl (fun _ => 0))), (q5, .inl (k6, 300, .inl (fun _ => 0)))] H := hP
  have hD : va_D A [(h0, .inr (5, [.null, .null, .ref q1, .ref q3, .ref q5, .null, .int 0, .int 0, .int 0, .int 0, .int 0, .int 0, .int 0, .int 0, .int 0])), (q1, .inl (k2, 400, .inr (.inr (.inr (.inr (fun _ => none)))))), (q3, .inl (k4, 2048, .inl (fun _ => 0))), (q5, .inl (k6, 300, .inl (fun _ => 0)))] := hD
  refine lv_aload_n hx hb dX5_init_32 rfl (lv_at hl 0 rfl) ?_
  refine lv_aload_n hx hb dX5_init_33 rfl (lv_at hl 1 rfl) ?_
  refine va_put (D := D) (ci := 5) (v := .ref x1) (ty := tyX5 5) (C := RX5) (T := TX5) (N := 15) hx hb hg inX5 tyX5 tyX5_ok nmX5 hown hK hP hD hS 0 rfl rfl 5 (by decide) (hg _ w672) (fun _ h9 => h9) rfl (tyX5_ok 5 (by decide)) rfl rfl (Nat.le_of_ble_eq_true rfl) dX5_init_34 (fun H locs hP hD hS => ?_)
  have hP : va_P D vwCl [(h0, .inr (5, [.null, .null, .ref q1, .ref q3, .ref q5, .ref x1, .int 0, .int 0, .int 0, .int 0, .int 0, .int 0, .int 0, .int 0, .int 0])), (q1, .inl (k2, 400, .inr (.inr (.inr (.inr (fun _ => none)))))), (q3, .inl (k4, 2048, .inl (fun _ => 0))), (q5, .inl (k6, 300, .inl (fun _ => 0)))] H := hP
  have hD : va_D A [(h0, .inr (5, [.null, .null, .ref q1, .ref q3, .ref q5, .ref x1, .int 0, .int 0, .int 0, .int 0, .int 0, .int 0, .int 0, .int 0, .int 0])), (q1, .inl (k2, 400, .inr (.inr (.inr (.inr (fun _ => none)))))), (q3, .inl (k4, 2048, .inl (fun _ => 0))), (q5, .inl (k6, 300, .inl (fun _ => 0)))] := hD
  refine lv_aload_n hx hb dX5_init_37 rfl (lv_at hl 0 rfl) ?_
  refine lv_aload_n hx hb dX5_init_38 rfl (lv_at hl 2 rfl) ?_
  refine va_putF (D := D) (ci := 5) (v := .ref x2) (ty := tyX5 0) (C := RX5) (T := TX5) (N := 15) hx hb hg inX5 tyX5 tyX5_ok nmX5 hown hK hP hD hS 0 rfl rfl 0 (by decide) (hg _ w667) (fun _ h9 => h9) rfl hin rfl (tyX5_ok 0 (by decide)) rfl rfl (Nat.le_of_ble_eq_true rfl) dX5_init_39 (fun H locs hP hD hS => ?_)
  have hP : va_P D vwCl [(h0, .inr (5, [.ref x2, .null, .ref q1, .ref q3, .ref q5, .ref x1, .int 0, .int 0, .int 0, .int 0, .int 0, .int 0, .int 0, .int 0, .int 0])), (q1, .inl (k2, 400, .inr (.inr (.inr (.inr (fun _ => none)))))), (q3, .inl (k4, 2048, .inl (fun _ => 0))), (q5, .inl (k6, 300, .inl (fun _ => 0)))] H := hP
  have hD : va_D A [(h0, .inr (5, [.ref x2, .null, .ref q1, .ref q3, .ref q5, .ref x1, .int 0, .int 0, .int 0, .int 0, .int 0, .int 0, .int 0, .int 0, .int 0])), (q1, .inl (k2, 400, .inr (.inr (.inr (.inr (fun _ => none)))))), (q3, .inl (k4, 2048, .inl (fun _ => 0))), (q5, .inl (k6, 300, .inl (fun _ => 0)))] := hD
  refine lv_aload_n hx hb dX5_init_42 rfl (lv_at hl 0 rfl) ?_
  refine lv_aload_n hx hb dX5_init_43 rfl (lv_at hl 3 rfl) ?_
  refine va_putF (D := D) (ci := 5) (v := .ref x3) (ty := tyX5 1) (C := RX5) (T := TX5) (N := 15) hx hb hg inX5 tyX5 tyX5_ok nmX5 hown hK hP hD hS 0 rfl rfl 1 (by decide) (hg _ w668) (fun _ h9 => h9) rfl hin rfl (tyX5_ok 1 (by decide)) rfl rfl (Nat.le_of_ble_eq_true rfl) dX5_init_44 (fun H locs hP hD hS => ?_)
  have hP : va_P D vwCl [(h0, .inr (5, [.ref x2, .ref x3, .ref q1, .ref q3, .ref q5, .ref x1, .int 0, .int 0, .int 0, .int 0, .int 0, .int 0, .int 0, .int 0, .int 0])), (q1, .inl (k2, 400, .inr (.inr (.inr (.inr (fun _ => none)))))), (q3, .inl (k4, 2048, .inl (fun _ => 0))), (q5, .inl (k6, 300, .inl (fun _ => 0)))] H := hP
  have hD : va_D A [(h0, .inr (5, [.ref x2, .ref x3, .ref q1, .ref q3, .ref q5, .ref x1, .int 0, .int 0, .int 0, .int 0, .int 0, .int 0, .int 0, .int 0, .int 0])), (q1, .inl (k2, 400, .inr (.inr (.inr (.inr (fun _ => none)))))), (q3, .inl (k4, 2048, .inl (fun _ => 0))), (q5, .inl (k6, 300, .inl (fun _ => 0)))] := hD
  refine W.widen (k := 3) (n := 2748) (Nat.le_of_ble_eq_true rfl) (Nat.le_of_ble_eq_true rfl) ?_
  have hP9 := hP.sub (ws' := [(h0, .inr (5, [.ref x2, .ref x3, .ref q1, .ref q3, .ref q5, .ref x1, .int 0, .int 0, .int 0, .int 0, .int 0, .int 0, .int 0, .int 0, .int 0])), (q1, .inl (k2, 400, .inr (.inr (.inr (.inr (fun _ => none)))))), (q3, .inl (k4, 2048, .inl (fun _ => 0))), (q5, .inl (k6, 300, .inl (fun _ => 0)))]) [0, 1, 2, 3] rfl
  have hD9 := hD.sub (ws' := [(h0, .inr (5, [.ref x2, .ref x3, .ref q1, .ref q3, .ref q5, .ref x1, .int 0, .int 0, .int 0, .int 0, .int 0, .int 0, .int 0, .int 0, .int 0])), (q1, .inl (k2, 400, .inr (.inr (.inr (.inr (fun _ => none)))))), (q3, .inl (k4, 2048, .inl (fun _ => 0))), (q5, .inl (k6, 300, .inl (fun _ => 0)))]) [0, 1, 2, 3] (by decide) rfl
  have hK9 := hK.sub (tys' := [(k2, .object RX4), (k4, .int), (k6, .int)]) [0, 1, 2] rfl
  exact W.vret hx hb hr (fun t ht hW => ⟨⟨(q1, q3, q5, k2, k4, k6), rfl, (by first | rfl | trivial | assumption | decide), by rw [ht]; exact hP9, va_K.moved hW.alike hK9, hD9⟩, hS.F ht⟩) hS.2.2 dX5_init_47
abbrev r_c_Stock_init : Room := { frames := 1, cells := 12, slots := 5744, locals := 23 }
abbrev q_c_Stock_init (D : va_G) (h0 : Nat) (A : Nat → Prop) : Array Value → State → Outcome → State → Prop := va_Qv (fun (u : Nat × Nat × Nat × Nat × Nat × Nat × Nat × Nat × Nat × Nat × Nat × Nat × ClassId × ClassId × ClassId × ClassId × ClassId × ClassId × ClassId × ClassId × ClassId × ClassId × ClassId × ClassId × (Nat → Int32)) => ∀ q : Nat, u.2.2.2.2.2.2.2.2.2.2.2.2.2.2.2.2.2.2.2.2.2.2.2.2 q = if q < 960 then -1 else 0) (fun u t => gq D A ((fun (u : Nat × Nat × Nat × Nat × Nat × Nat × Nat × Nat × Nat × Nat × Nat × Nat × ClassId × ClassId × ClassId × ClassId × ClassId × ClassId × ClassId × ClassId × ClassId × ClassId × ClassId × ClassId × (Nat → Int32)) => [(h0, .inr (8, [.ref u.1, .ref u.2.1, .ref u.2.2.1, .ref u.2.2.2.1, .ref u.2.2.2.2.1, .ref u.2.2.2.2.2.1, .ref u.2.2.2.2.2.2.1, .ref u.2.2.2.2.2.2.2.1, .ref u.2.2.2.2.2.2.2.2.1, .ref u.2.2.2.2.2.2.2.2.2.1, .ref u.2.2.2.2.2.2.2.2.2.2.1, .ref u.2.2.2.2.2.2.2.2.2.2.2.1, .int 1, .int 0, .int 0, .int 0])), (u.1, .inl (u.2.2.2.2.2.2.2.2.2.2.2.2.1, 40, .inl (fun _ => 0))), (u.2.1, .inl (u.2.2.2.2.2.2.2.2.2.2.2.2.2.1, 40, .inl (fun _ => 0))), (u.2.2.1, .inl (u.2.2.2.2.2.2.2.2.2.2.2.2.2.2.1, 40, .inl (upd (fun _ => 0) 0 1))), (u.2.2.2.1, .inl (u.2.2.2.2.2.2.2.2.2.2.2.2.2.2.2.1, 40, .inl (fun _ => 0))), (u.2.2.2.2.1, .inl (u.2.2.2.2.2.2.2.2.2.2.2.2.2.2.2.2.1, 960, .inl (u.2.2.2.2.2.2.2.2.2.2.2.2.2.2.2.2.2.2.2.2.2.2.2.2))), (u.2.2.2.2.2.1, .inl (u.2.2.2.2.2.2.2.2.2.2.2.2.2.2.2.2.2.1, 300, .inl (fun _ => 0))), (u.2.2.2.2.2.2.1, .inl (u.2.2.2.2.2.2.2.2.2.2.2.2.2.2.2.2.2.2.1, 300, .inl (fun _ => 0))), (u.2.2.2.2.2.2.2.1, .inl (u.2.2.2.2.2.2.2.2.2.2.2.2.2.2.2.2.2.2.2.1, 300, .inl (fun _ => 0))), (u.2.2.2.2.2.2.2.2.1, .inl (u.2.2.2.2.2.2.2.2.2.2.2.2.2.2.2.2.2.2.2.2.1, 300, .inl (fun _ => 0))), (u.2.2.2.2.2.2.2.2.2.1, .inl (u.2.2.2.2.2.2.2.2.2.2.2.2.2.2.2.2.2.2.2.2.2.1, 2400, .inl (fun _ => 0))), (u.2.2.2.2.2.2.2.2.2.2.1, .inl (u.2.2.2.2.2.2.2.2.2.2.2.2.2.2.2.2.2.2.2.2.2.2.1, 512, .inl (fun _ => 0))), (u.2.2.2.2.2.2.2.2.2.2.2.1, .inl (u.2.2.2.2.2.2.2.2.2.2.2.2.2.2.2.2.2.2.2.2.2.2.2.1, 512, .inl (fun _ => 0)))]) u) ((fun (u : Nat × Nat × Nat × Nat × Nat × Nat × Nat × Nat × Nat × Nat × Nat × Nat × ClassId × ClassId × ClassId × ClassId × ClassId × ClassId × ClassId × ClassId × ClassId × ClassId × ClassId × ClassId × (Nat → Int32)) => ([(u.2.2.2.2.2.2.2.2.2.2.2.2.1, .int), (u.2.2.2.2.2.2.2.2.2.2.2.2.2.1, .int), (u.2.2.2.2.2.2.2.2.2.2.2.2.2.2.1, .boolean), (u.2.2.2.2.2.2.2.2.2.2.2.2.2.2.2.1, .int), (u.2.2.2.2.2.2.2.2.2.2.2.2.2.2.2.2.1, .int), (u.2.2.2.2.2.2.2.2.2.2.2.2.2.2.2.2.2.1, .int), (u.2.2.2.2.2.2.2.2.2.2.2.2.2.2.2.2.2.2.1, .int), (u.2.2.2.2.2.2.2.2.2.2.2.2.2.2.2.2.2.2.2.1, .int), (u.2.2.2.2.2.2.2.2.2.2.2.2.2.2.2.2.2.2.2.2.1, .int), (u.2.2.2.2.2.2.2.2.2.2.2.2.2.2.2.2.2.2.2.2.2.1, .int), (u.2.2.2.2.2.2.2.2.2.2.2.2.2.2.2.2.2.2.2.2.2.2.1, .int), (u.2.2.2.2.2.2.2.2.2.2.2.2.2.2.2.2.2.2.2.2.2.2.2.1, .int)] : List (ClassId × FieldType))) u) t) A
set_option maxHeartbeats 4000000 in
set_option maxRecDepth 100000 in
theorem c_Stock_init (l : Launch) (D : va_G) (ks : KS) (sz : Nat) (h0 : Nat) : Met l yX8_init (Cond.code yX8_init cX8_init 1 none :: GW) r_c_Stock_init (va_Pc [.ref h0] (gp D ks [(h0, .inr (8, [.null, .null, .null, .null, .null, .null, .null, .null, .null, .null, .null, .null, .int 0, .int 0, .int 0, .int 0]))] [] sz)) (q_c_Stock_init D h0 (va_A [(h0, .inr (8, [.null, .null, .null, .null, .null, .null, .null, .null, .null, .null, .null, .null, .int 0, .int 0, .int 0, .int 0]))] sz)) 12 5744 (va_A [(h0, .inr (8, [.null, .null, .null, .null, .null, .null, .null, .null, .null, .null, .null, .null, .int 0, .int 0, .int 0, .int 0]))] sz) := by
  refine g_met (q_c_Stock_init D h0) (by decide) (Nat.le_of_ble_eq_true rfl) ?_
  intro p e s m below meth c A ls H locs hx hb hr hml hown hg hlocks hin hnw hgk hP hK hD hS hA hl
  have hown : s.vm.findClass RX8 = some m.cls := hown
  have hin : meth.name = "<init>" := hin
  have hl : lv_has ls 1 [(0, .ref h0)] := hl
  refine lv_aload_n hx hb dX8_init_0 rfl (lv_at hl 0 rfl) ?_
  refine W.objInit hx hb hown (hg _ w369) (hg _ w188) (hg _ wobj) rfl (by rw [hml]; exact hl.1) rfl dX8_init_1 (Nat.le_of_ble_eq_true rfl) (Nat.le_of_ble_eq_true rfl) ?_
  refine W.eq (g2 := F0 m 4 ls []) rfl ?_
  refine lv_aload_n hx hb dX8_init_4 rfl (lv_at hl 0 rfl) ?_
  refine lv_bipush (v := 40) hx hb dX8_init_5 (by decide) ?_
  refine va_newa (D := D) (atype := .int) (ty := .int) (n := 40) (N' := 40) (a0 := (40, .inl (fun _ => 0))) hx hb (hg _ w297) rfl hK hP hD hS hA (fun _ => rfl) (by decide) (by decide) (by decide) (Nat.le_of_ble_eq_true rfl) (Nat.le_of_ble_eq_true rfl) dX8_init_7 (fun q1 k2 H hK hP hD hS => ?_)
  have hP : va_P D vwCl [(h0, .inr (8, [.null, .null, .null, .null, .null, .null, .null, .null, .null, .null, .null, .null, .int 0, .int 0, .int 0, .int 0])), (q1, .inl (k2, 40, .inl (fun _ => 0)))] H := hP
  have hD : va_D A [(h0, .inr (8, [.null, .null, .null, .null, .null, .null, .null, .null, .null, .null, .null, .null, .int 0, .int 0, .int 0, .int 0])), (q1, .inl (k2, 40, .inl (fun _ => 0)))] := hD
  have hK : va_K D vwCl [(k2, .int)] s := hK
  refine va_putF (D := D) (ci := 8) (v := .ref q1) (ty := tyX8 0) (C := RX8) (T := TX8) (N := 16) hx hb hg inX8 tyX8 tyX8_ok nmX8 hown hK hP hD hS 0 rfl rfl 0 (by decide) (hg _ w373) (fun _ h9 => h9) rfl hin rfl (tyX8_ok 0 (by decide)) rfl rfl (Nat.le_of_ble_eq_true rfl) dX8_init_9 (fun H locs hP hD hS => ?_)
  have hP : va_P D vwCl [(h0, .inr (8, [.ref q1, .null, .null, .null, .null, .null, .null, .null, .null, .null, .null, .null, .int 0, .int 0, .int 0, .int 0])), (q1, .inl (k2, 40, .inl (fun _ => 0)))] H := hP
  have hD : va_D A [(h0, .inr (8, [.ref q1, .null, .null, .null, .null, .null, .null, .null, .null, .null, .null, .null, .int 0, .int 0, .int 0, .int 0])), (q1, .inl (k2, 40, .inl (fun _ => 0)))] := hD
  refine lv_aload_n hx hb dX8_init_12 rfl (lv_at hl 0 rfl) ?_
  refine lv_bipush (v := 40) hx hb dX8_init_13 (by decide) ?_
  refine va_newa (D := D) (atype := .int) (ty := .int) (n := 40) (N' := 40) (a0 := (40, .inl (fun _ => 0))) hx hb (hg _ w297) rfl hK hP hD hS hA (fun _ => rfl) (by decide) (by decide) (by decide) (Nat.le_of_ble_eq_true rfl) (Nat.le_of_ble_eq_true rfl) dX8_init_15 (fun q3 k4 H hK hP hD hS => ?_)
  have hP : va_P D vwCl [(h0, .inr (8, [.ref q1, .null, .null, .null, .null, .null, .null, .null, .null, .null, .null, .null, .int 0, .int 0, .int 0, .int 0])), (q1, .inl (k2, 40, .inl (fun _ => 0))), (q3, .inl (k4, 40, .inl (fun _ => 0)))] H := hP
  have hD : va_D A [(h0, .inr (8, [.ref q1, .null, .null, .null, .null, .null, .null, .null, .null, .null, .null, .null, .int 0, .int 0, .int 0, .int 0])), (q1, .inl (k2, 40, .inl (fun _ => 0))), (q3, .inl (k4, 40, .inl (fun _ => 0)))] := hD
  have hK : va_K D vwCl [(k2, .int), (k4, .int)] s := hK
  refine va_putF (D := D) (ci := 8) (v := .ref q3) (ty := tyX8 1) (C := RX8) (T := TX8) (N := 16) hx hb hg inX8 tyX8 tyX8_ok nmX8 hown hK hP hD hS 0 rfl rfl 1 (by decide) (hg _ w375) (fun _ h9 => h9) rfl hin rfl (tyX8_ok 1 (by decide)) rfl rfl (Nat.le_of_ble_eq_true rfl) dX8_init_17 (fun H locs hP hD hS => ?_)
  have hP : va_P D vwCl [(h0, .inr (8, [.ref q1, .ref q3, .null, .null, .null, .null, .null, .null, .null, .null, .null, .null, .int 0, .int 0, .int 0, .int 0])), (q1, .inl (k2, 40, .inl (fun _ => 0))), (q3, .inl (k4, 40, .inl (fun _ => 0)))] H := hP
  have hD : va_D A [(h0, .inr (8, [.ref q1, .ref q3, .null, .null, .null, .null, .null, .null, .null, .null, .null, .null, .int 0, .int 0, .int 0, .int 0])), (q1, .inl (k2, 40, .inl (fun _ => 0))), (q3, .inl (k4, 40, .inl (fun _ => 0)))] := hD
  refine lv_aload_n hx hb dX8_init_20 rfl (lv_at hl 0 rfl) ?_
  refine lv_bipush (v := 40) hx hb dX8_init_21 (by decide) ?_
  refine va_newa (D := D) (atype := .boolean) (ty := .boolean) (n := 40) (N' := 40) (a0 := (40, .inl (fun _ => 0))) hx hb (hg _ w428) rfl hK hP hD hS hA (fun _ => rfl) (by decide) (by decide) (by decide) (Nat.le_of_ble_eq_true rfl) (Nat.le_of_ble_eq_true rfl) dX8_init_23 (fun q5 k6 H hK hP hD hS => ?_)
  have hP : va_P D vwCl [(h0, .inr (8, [.ref q1, .ref q3, .null, .null, .null, .null, .null, .null, .null, .null, .null, .null, .int 0, .int 0, .int 0, .int 0])), (q1, .inl (k2, 40, .inl (fun _ => 0))), (q3, .inl (k4, 40, .inl (fun _ => 0))), (q5, .inl (k6, 40, .inl (fun _ => 0)))] H := hP
  have hD : va_D A [(h0, .inr (8, [.ref q1, .ref q3, .null, .null, .null, .null, .null, .null, .null, .null, .null, .null, .int 0, .int 0, .int 0, .int 0])), (q1, .inl (k2, 40, .inl (fun _ => 0))), (q3, .inl (k4, 40, .inl (fun _ => 0))), (q5, .inl (k6, 40, .inl (fun _ => 0)))] := hD
  have hK : va_K D vwCl [(k2, .int), (k4, .int), (k6, .boolean)] s := hK
  refine va_putF (D := D) (ci := 8) (v := .ref q5) (ty := tyX8 2) (C := RX8) (T := TX8) (N := 16) hx hb hg inX8 tyX8 tyX8_ok nmX8 hown hK hP hD hS 0 rfl rfl 2 (by decide) (hg _ w376) (fun _ h9 => h9) rfl hin rfl (tyX8_ok 2 (by decide)) rfl rfl (Nat.le_of_ble_eq_true rfl) dX8_init_25 (fun H locs hP hD hS => ?_)
  have hP : va_P D vwCl [(h0, .inr (8, [.ref q1, .ref q3, .ref q5, .null, .null, .null, .null, .null, .null, .null, .null, .null, .int 0, .int 0, .int 0, .int 0])), (q1, .inl (k2, 40, .inl (fun _ => 0))), (q3, .inl (k4, 40, .inl (fun _ => 0))), (q5, .inl (k6, 40, .inl (fun _ => 0)))] H := hP
  have hD : va_D A [(h0, .inr (8, [.ref q1, .ref q3, .ref q5, .null, .null, .null, .null, .null, .null, .null, .null, .null, .int 0, .int 0, .int 0, .int 0])), (q1, .inl (k2, 40, .inl (fun _ => 0))), (q3, .inl (k4, 40, .inl (fun _ => 0))), (q5, .inl (k6, 40, .inl (fun _ => 0)))] := hD
  refine lv_aload_n hx hb dX8_init_28 rfl (lv_at hl 0 rfl) ?_
  refine lv_bipush (v := 40) hx hb dX8_init_29 (by decide) ?_
  refine va_newa (D := D) (atype := .int) (ty := .int) (n := 40) (N' := 40) (a0 := (40, .inl (fun _ => 0))) hx hb (hg _ w297) rfl hK hP hD hS hA (fun _ => rfl) (by decide) (by decide) (by decide) (Nat.le_of_ble_eq_true rfl) (Nat.le_of_ble_eq_true rfl) dX8_init_31 (fun q7 k8 H hK hP hD hS => ?_)
  have hP : va_P D vwCl [(h0, .inr (8, [.ref q1, .ref q3, .ref q5, .null, .null, .null, .null, .null, .null, .null, .null, .null, .int 0, .int 0, .int 0, .int 0])), (q1, .inl (k2, 40, .inl (fun _ => 0))), (q3, .inl (k4, 40, .inl (fun _ => 0))), (q5, .inl (k6, 40, .inl (fun _ => 0))), (q7, .inl (k8, 40, .inl (fun _ => 0)))] H := hP
  have hD : va_D A [(h0, .inr (8, [.ref q1, .ref q3, .ref q5, .null, .null, .null, .null, .null, .null, .null, .null, .null, .int 0, .int 0, .int 0, .int 0])), (q1, .inl (k2, 40, .inl (fun _ => 0))), (q3, .inl (k4, 40, .inl (fun _ => 0))), (q5, .inl (k6, 40, .inl (fun _ => 0))), (q7, .inl (k8, 40, .inl (fun _ => 0)))] := hD
  have hK : va_K D vwCl [(k2, .int), (k4, .int), (k6, .boolean), (k8, .int)] s := hK
  refine va_putF (D := D) (ci := 8) (v := .ref q7) (ty := tyX8 3) (C := RX8) (T := TX8) (N := 16) hx hb hg inX8 tyX8 tyX8_ok nmX8 hown hK hP hD hS 0 rfl rfl 3 (by decide) (hg _ w377) (fun _ h9 => h9) rfl hin rfl (tyX8_ok 3 (by decide)) rfl rfl (Nat.le_of_ble_eq_true rfl) dX8_init_33 (fun H locs hP hD hS => ?_)
  have hP : va_P D vwCl [(h0, .inr (8, [.ref q1, .ref q3, .ref q5, .ref q7, .null, .null, .null, .null, .null, .null, .null, .null, .int 0, .int 0, .int 0, .int 0])), (q1, .inl (k2, 40, .inl (fun _ => 0))), (q3, .inl (k4, 40, .inl (fun _ => 0))), (q5, .inl (k6, 40, .inl (fun _ => 0))), (q7, .inl (k8, 40, .inl (fun _ => 0)))] H := hP
  have hD : va_D A [(h0, .inr (8, [.ref q1, .ref q3, .ref q5, .ref q7, .null, .null, .null, .null, .null, .null, .null, .null, .int 0, .int 0, .int 0, .int 0])), (q1, .inl (k2, 40, .inl (fun _ => 0))), (q3, .inl (k4, 40, .inl (fun _ => 0))), (q5, .inl (k6, 40, .inl (fun _ => 0))), (q7, .inl (k8, 40, .inl (fun _ => 0)))] := hD
  refine lv_aload_n hx hb dX8_init_36 rfl (lv_at hl 0 rfl) ?_
  refine lv_sipush (v := 960) hx hb dX8_init_37 (by decide) ?_
  refine va_newa (D := D) (atype := .int) (ty := .int) (n := 960) (N' := 960) (a0 := (960, .inl (fun _ => 0))) hx hb (hg _ w297) rfl hK hP hD hS hA (fun _ => rfl) (by decide) (by decide) (by decide) (Nat.le_of_ble_eq_true rfl) (Nat.le_of_ble_eq_true rfl) dX8_init_40 (fun q9 k10 H hK hP hD hS => ?_)
  have hP : va_P D vwCl [(h0, .inr (8, [.ref q1, .ref q3, .ref q5, .ref q7, .null, .null, .null, .null, .null, .null, .null, .null, .int 0, .int 0, .int 0, .int 0])), (q1, .inl (k2, 40, .inl (fun _ => 0))), (q3, .inl (k4, 40, .inl (fun _ => 0))), (q5, .inl (k6, 40, .inl (fun _ => 0))), (q7, .inl (k8, 40, .inl (fun _ => 0))), (q9, .inl (k10, 960, .inl (fun _ => 0)))] H := hP
  have hD : va_D A [(h0, .inr (8, [.ref q1, .ref q3, .ref q5, .ref q7, .null, .null, .null, .null, .null, .null, .null, .null, .int 0, .int 0, .int 0, .int 0])), (q1, .inl (k2, 40, .inl (fun _ => 0))), (q3, .inl (k4, 40, .inl (fun _ => 0))), (q5, .inl (k6, 40, .inl (fun _ => 0))), (q7, .inl (k8, 40, .inl (fun _ => 0))), (q9, .inl (k10, 960, .inl (fun _ => 0)))] := hD
  have hK : va_K D vwCl [(k2, .int), (k4, .int), (k6, .boolean), (k8, .int), (k10, .int)] s := hK
  refine va_putF (D := D) (ci := 8) (v := .ref q9) (ty := tyX8 4) (C := RX8) (T := TX8) (N := 16) hx hb hg inX8 tyX8 tyX8_ok nmX8 hown hK hP hD hS 0 rfl rfl 4 (by decide) (hg _ w378) (fun _ h9 => h9) rfl hin rfl (tyX8_ok 4 (by decide)) rfl rfl (Nat.le_of_ble_eq_true rfl) dX8_init_42 (fun H locs hP hD hS => ?_)
  have hP : va_P D vwCl [(h0, .inr (8, [.ref q1, .ref q3, .ref q5, .ref q7, .ref q9, .null, .null, .null, .null, .null, .null, .null, .int 0, .int 0, .int 0, .int 0])), (q1, .inl (k2, 40, .inl (fun _ => 0))), (q3, .inl (k4, 40, .inl (fun _ => 0))), (q5, .inl (k6, 40, .inl (fun _ => 0))), (q7, .inl (k8, 40, .inl (fun _ => 0))), (q9, .inl (k10, 960, .inl (fun _ => 0)))] H := hP
  have hD : va_D A [(h0, .inr (8, [.ref q1, .ref q3, .ref q5, .ref q7, .ref q9, .null, .null, .null, .null, .null, .null, .null, .int 0, .int 0, .int 0, .int 0])), (q1, .inl (k2, 40, .inl (fun _ => 0))), (q3, .inl (k4, 40, .inl (fun _ => 0))), (q5, .inl (k6, 40, .inl (fun _ => 0))), (q7, .inl (k8, 40, .inl (fun _ => 0))), (q9, .inl (k10, 960, .inl (fun _ => 0)))] := hD
  refine lv_aload_n hx hb dX8_init_45 rfl (lv_at hl 0 rfl) ?_
  refine lv_sipush (v := 300) hx hb dX8_init_46 (by decide) ?_
  refine va_newa (D := D) (atype := .int) (ty := .int) (n := 300) (N' := 300) (a0 := (300, .inl (fun _ => 0))) hx hb (hg _ w297) rfl hK hP hD hS hA (fun _ => rfl) (by decide) (by decide) (by decide) (Nat.le_of_ble_eq_true rfl) (Nat.le_of_ble_eq_true rfl) dX8_init_49 (fun q11 k12 H hK hP hD hS => ?_)
  have hP : va_P D vwCl [(h0, .inr (8, [.ref q1, .ref q3, .ref q5, .ref q7, .ref q9, .null, .null, .null, .null, .null, .null, .null, .int 0, .int 0, .int 0, .int 0])), (q1, .inl (k2, 40, .inl (fun _ => 0))), (q3, .inl (k4, 40, .inl (fun _ => 0))), (q5, .inl (k6, 40, .inl (fun _ => 0))), (q7, .inl (k8, 40, .inl (fun _ => 0))), (q9, .inl (k10, 960, .inl (fun _ => 0))), (q11, .inl (k12, 300, .inl (fun _ => 0)))] H := hP
  have hD : va_D A [(h0, .inr (8, [.ref q1, .ref q3, .ref q5, .ref q7, .ref q9, .null, .null, .null, .null, .null, .null, .null, .int 0, .int 0, .int 0, .int 0])), (q1, .inl (k2, 40, .inl (fun _ => 0))), (q3, .inl (k4, 40, .inl (fun _ => 0))), (q5, .inl (k6, 40, .inl (fun _ => 0))), (q7, .inl (k8, 40, .inl (fun _ => 0))), (q9, .inl (k10, 960, .inl (fun _ => 0))), (q11, .inl (k12, 300, .inl (fun _ => 0)))] := hD
  have hK : va_K D vwCl [(k2, .int), (k4, .int), (k6, .boolean), (k8, .int), (k10, .int), (k12, .int)] s := hK
  refine va_putF (D := D) (ci := 8) (v := .ref q11) (ty := tyX8 5) (C := RX8) (T := TX8) (N := 16) hx hb hg inX8 tyX8 tyX8_ok nmX8 hown hK hP hD hS 0 rfl rfl 5 (by decide) (hg _ w379) (fun _ h9 => h9) rfl hin rfl (tyX8_ok 5 (by decide)) rfl rfl (Nat.le_of_ble_eq_true rfl) dX8_init_51 (fun H locs hP hD hS => ?_)
  have hP : va_P D vwCl [(h0, .inr (8, [.ref q1, .ref q3, .ref q5, .ref q7, .ref q9, .ref q11, .null, .null, .null, .null, .null, .null, .int 0, .int 0, .int 0, .int 0])), (q1, .inl (k2, 40, .inl (fun _ => 0))), (q3, .inl (k4, 40, .inl (fun _ => 0))), (q5, .inl (k6, 40, .inl (fun _ => 0))), (q7, .inl (k8, 40, .inl (fun _ => 0))), (q9, .inl (k10, 960, .inl (fun _ => 0))), (q11, .inl (k12, 300, .inl (fun _ => 0)))] H := hP
  have hD : va_D A [(h0, .inr (8, [.ref q1, .ref q3, .ref q5, .ref q7, .ref q9, .ref q11, .null, .null, .null, .null, .null, .null, .int 0, .int 0, .int 0, .int 0])), (q1, .inl (k2, 40, .inl (fun _ => 0))), (q3, .inl (k4, 40, .inl (fun _ => 0))), (q5, .inl (k6, 40, .inl (fun _ => 0))), (q7, .inl (k8, 40, .inl (fun _ => 0))), (q9, .inl (k10, 960, .inl (fun _ => 0))), (q11, .inl (k12, 300, .inl (fun _ => 0)))] := hD
  refine lv_aload_n hx hb dX8_init_54 rfl (lv_at hl 0 rfl) ?_
  refine lv_sipush (v := 300) hx hb dX8_init_55 (by decide) ?_
  refine va_newa (D := D) (atype := .int) (ty := .int) (n := 300) (N' := 300) (a0 := (300, .inl (fun _ => 0))) hx hb (hg _ w297) rfl hK hP hD hS hA (fun _ => rfl) (by decide) (by decide) (by decide) (Nat.le_of_ble_eq_true rfl) (Nat.le_of_ble_eq_true rfl) dX8_init_58 (fun q13 k14 H hK hP hD hS => ?_)
  have hP : va_P D vwCl [(h0, .inr (8, [.ref q1, .ref q3, .ref q5, .ref q7, .ref q9, .ref q11, .null, .null, .null, .null, .null, .null, .int 0, .int 0, .int 0, .int 0])), (q1, .inl (k2, 40, .inl (fun _ => 0))), (q3, .inl (k4, 40, .inl (fun _ => 0))), (q5, .inl (k6, 40, .inl (fun _ => 0))), (q7, .inl (k8, 40, .inl (fun _ => 0))), (q9, .inl (k10, 960, .inl (fun _ => 0))), (q11, .inl (k12, 300, .inl (fun _ => 0))), (q13, .inl (k14, 300, .inl (fun _ => 0)))] H := hP
  have hD : va_D A [(h0, .inr (8, [.ref q1, .ref q3, .ref q5, .ref q7, .ref q9, .ref q11, .null, .null, .null, .null, .null, .null, .int 0, .int 0, .int 0, .int 0])), (q1, .inl (k2, 40, .inl (fun _ => 0))), (q3, .inl (k4, 40, .inl (fun _ => 0))), (q5, .inl (k6, 40, .inl (fun _ => 0))), (q7, .inl (k8, 40, .inl (fun _ => 0))), (q9, .inl (k10, 960, .inl (fun _ => 0))), (q11, .inl (k12, 300, .inl (fun _ => 0))), (q13, .inl (k14, 300, .inl (fun _ => 0)))] := hD
  have hK : va_K D vwCl [(k2, .int), (k4, .int), (k6, .boolean), (k8, .int), (k10, .int), (k12, .int), (k14, .int)] s := hK
  refine va_putF (D := D) (ci := 8) (v := .ref q13) (ty := tyX8 6) (C := RX8) (T := TX8) (N := 16) hx hb hg inX8 tyX8 tyX8_ok nmX8 hown hK hP hD hS 0 rfl rfl 6 (by decide) (hg _ w381) (fun _ h9 => h9) rfl hin rfl (tyX8_ok 6 (by decide)) rfl rfl (Nat.le_of_ble_eq_true rfl) dX8_init_60 (fun H locs hP hD hS => ?_)
  have hP : va_P D vwCl [(h0, .inr (8, [.ref q1, .ref q3, .ref q5, .ref q7, .ref q9, .ref q11, .ref q13, .null, .null, .null, .null, .null, .int 0, .int 0, .int 0, .int 0])), (q1, .inl (k2, 40, .inl (fun _ => 0))), (q3, .inl (k4, 40, .inl (fun _ => 0))), (q5, .inl (k6, 40, .inl (fun _ => 0))), (q7, .inl (k8, 40, .inl (fun _ => 0))), (q9, .inl (k10, 960, .inl (fun _ => 0))), (q11, .inl (k12, 300, .inl (fun _ => 0))), (q13, .inl (k14, 300, .inl (fun _ => 0)))] H := hP
  have hD : va_D A [(h0, .inr (8, [.ref q1, .ref q3, .ref q5, .ref q7, .ref q9, .ref q11, .ref q13, .null, .null, .null, .null, .null, .int 0, .int 0, .int 0, .int 0])), (q1, .inl (k2, 40, .inl (fun _ => 0))), (q3, .inl (k4, 40, .inl (fun _ => 0))), (q5, .inl (k6, 40, .inl (fun _ => 0))), (q7, .inl (k8, 40, .inl (fun _ => 0))), (q9, .inl (k10, 960, .inl (fun _ => 0))), (q11, .inl (k12, 300, .inl (fun _ => 0))), (q13, .inl (k14, 300, .inl (fun _ => 0)))] := hD
  refine lv_aload_n hx hb dX8_init_63 rfl (lv_at hl 0 rfl) ?_
  refine lv_sipush (v := 300) hx hb dX8_init_64 (by decide) ?_
  refine va_newa (D := D) (atype := .int) (ty := .int) (n := 300) (N' := 300) (a0 := (300, .inl (fun _ => 0))) hx hb (hg _ w297) rfl hK hP hD hS hA (fun _ => rfl) (by decide) (by decide) (by decide) (Nat.le_of_ble_eq_true rfl) (Nat.le_of_ble_eq_true rfl) dX8_init_67 (fun q15 k16 H hK hP hD hS => ?_)
  have hP : va_P D vwCl [(h0, .inr (8, [.ref q1, .ref q3, .ref q5, .ref q7, .ref q9, .ref q11, .ref q13, .null, .null, .null, .null, .null, .int 0, .int 0, .int 0, .int 0])), (q1, .inl (k2, 40, .inl (fun _ => 0))), (q3, .inl (k4, 40, .inl (fun _ => 0))), (q5, .inl (k6, 40, .inl (fun _ => 0))), (q7, .inl (k8, 40, .inl (fun _ => 0))), (q9, .inl (k10, 960, .inl (fun _ => 0))), (q11, .inl (k12, 300, .inl (fun _ => 0))), (q13, .inl (k14, 300, .inl (fun _ => 0))), (q15, .inl (k16, 300, .inl (fun _ => 0)))] H := hP
  have hD : va_D A [(h0, .inr (8, [.ref q1, .ref q3, .ref q5, .ref q7, .ref q9, .ref q11, .ref q13, .null, .null, .null, .null, .null, .int 0, .int 0, .int 0, .int 0])), (q1, .inl (k2, 40, .inl (fun _ => 0))), (q3, .inl (k4, 40, .inl (fun _ => 0))), (q5, .inl (k6, 40, .inl (fun _ => 0))), (q7, .inl (k8, 40, .inl (fun _ => 0))), (q9, .inl (k10, 960, .inl (fun _ => 0))), (q11, .inl (k12, 300, .inl (fun _ => 0))), (q13, .inl (k14, 300, .inl (fun _ => 0))), (q15, .inl (k16, 300, .inl (fun _ => 0)))] := hD
  have hK : va_K D vwCl [(k2, .int), (k4, .int), (k6, .boolean), (k8, .int), (k10, .int), (k12, .int), (k14, .int), (k16, .int)] s := hK
  refine va_putF (D := D) (ci := 8) (v := .ref q15) (ty := tyX8 7) (C := RX8) (T := TX8) (N := 16) hx hb hg inX8 tyX8 tyX8_ok nmX8 hown hK hP hD hS 0 rfl rfl 7 (by decide) (hg _ w384) (fun _ h9 => h9) rfl hin rfl (tyX8_ok 7 (by decide)) rfl rfl (Nat.le_of_ble_eq_true rfl) dX8_init_69 (fun H locs hP hD hS => ?_)
  have hP : va_P D vwCl [(h0, .inr (8, [.ref q1, .ref q3, .ref q5, .ref q7, .ref q9, .ref q11, .ref q13, .ref q15, .null, .null, .null, .null, .int 0, .int 0, .int 0, .int 0])), (q1, .inl (k2, 40, .inl (fun _ => 0))), (q3, .inl (k4, 40, .inl (fun _ => 0))), (q5, .inl (k6, 40, .inl (fun _ => 0))), (q7, .inl (k8, 40, .inl (fun _ => 0))), (q9, .inl (k10, 960, .inl (fun _ => 0))), (q11, .inl (k12, 300, .inl (fun _ => 0))), (q13, .inl (k14, 300, .inl (fun _ => 0))), (q15, .inl (k16, 300, .inl (fun _ => 0)))] H := hP
  have hD : va_D A [(h0, .inr (8, [.ref q1, .ref q3, .ref q5, .ref q7, .ref q9, .ref q11, .ref q13, .ref q15, .null, .null, .null, .null, .int 0, .int 0, .int 0, .int 0])), (q1, .inl (k2, 40, .inl (fun _ => 0))), (q3, .inl (k4, 40, .inl (fun _ => 0))), (q5, .inl (k6, 40, .inl (fun _ => 0))), (q7, .inl (k8, 40, .inl (fun _ => 0))), (q9, .inl (k10, 960, .inl (fun _ => 0))), (q11, .inl (k12, 300, .inl (fun _ => 0))), (q13, .inl (k14, 300, .inl (fun _ => 0))), (q15, .inl (k16, 300, .inl (fun _ => 0)))] := hD
  refine lv_aload_n hx hb dX8_init_72 rfl (lv_at hl 0 rfl) ?_
  refine lv_sipush (v := 300) hx hb dX8_init_73 (by decide) ?_
  refine va_newa (D := D) (atype := .int) (ty := .int) (n := 300) (N' := 300) (a0 := (300, .inl (fun _ => 0))) hx hb (hg _ w297) rfl hK hP hD hS hA (fun _ => rfl) (by decide) (by decide) (by decide) (Nat.le_of_ble_eq_true rfl) (Nat.le_of_ble_eq_true rfl) dX8_init_76 (fun q17 k18 H hK hP hD hS => ?_)
  have hP : va_P D vwCl [(h0, .inr (8, [.ref q1, .ref q3, .ref q5, .ref q7, .ref q9, .ref q11, .ref q13, .ref q15, .null, .null, .null, .null, .int 0, .int 0, .int 0, .int 0])), (q1, .inl (k2, 40, .inl (fun _ => 0))), (q3, .inl (k4, 40, .inl (fun _ => 0))), (q5, .inl (k6, 40, .inl (fun _ => 0))), (q7, .inl (k8, 40, .inl (fun _ => 0))), (q9, .inl (k10, 960, .inl (fun _ => 0))), (q11, .inl (k12, 300, .inl (fun _ => 0))), (q13, .inl (k14, 300, .inl (fun _ => 0))), (q15, .inl (k16, 300, .inl (fun _ => 0))), (q17, .inl (k18, 300, .inl (fun _ => 0)))] H := hP
  have hD : va_D A [(h0, .inr (8, [.ref q1, .ref q3, .ref q5, .ref q7, .ref q9, .ref q11, .ref q13, .ref q15, .null, .null, .null, .null, .int 0, .int 0, .int 0, .int 0])), (q1, .inl (k2, 40, .inl (fun _ => 0))), (q3, .inl (k4, 40, .inl (fun _ => 0))), (q5, .inl (k6, 40, .inl (fun _ => 0))), (q7, .inl (k8, 40, .inl (fun _ => 0))), (q9, .inl (k10, 960, .inl (fun _ => 0))), (q11, .inl (k12, 300, .inl (fun _ => 0))), (q13, .inl (k14, 300, .inl (fun _ => 0))), (q15, .inl (k16, 300, .inl (fun _ => 0))), (q17, .inl (k18, 300, .inl (fun _ => 0)))] := hD
  have hK : va_K D vwCl [(k2, .int), (k4, .int), (k6, .boolean), (k8, .int), (k10, .int), (k12, .int), (k14, .int), (k16, .int), (k18, .int)] s := hK
  refine va_putF (D := D) (ci := 8) (v := .ref q17) (ty := tyX8 8) (C := RX8) (T := TX8) (N := 16) hx hb hg inX8 tyX8 tyX8_ok nmX8 hown hK hP hD hS 0 rfl rfl 8 (by decide) (hg _ w386) (fun _ h9 => h9) rfl hin rfl (tyX8_ok 8 (by decide)) rfl rfl (Nat.le_of_ble_eq_true rfl) dX8_init_78 (fun H locs hP hD hS => ?_)
  have hP : va_P D vwCl [(h0, .inr (8, [.ref q1, .ref q3, .ref q5, .ref q7, .ref q9, .ref q11, .ref q13, .ref q15, .ref q17, .null, .null, .null, .int 0, .int 0, .int 0, .int 0])), (q1, .inl (k2, 40, .inl (fun _ => 0))), (q3, .inl (k4, 40, .inl (fun _ => 0))), (q5, .inl (k6, 40, .inl (fun _ => 0))), (q7, .inl (k8, 40, .inl (fun _ => 0))), (q9, .inl (k10, 960, .inl (fun _ => 0))), (q11, .inl (k12, 300, .inl (fun _ => 0))), (q13, .inl (k14, 300, .inl (fun _ => 0))), (q15, .inl (k16, 300, .inl (fun _ => 0))), (q17, .inl (k18, 300, .inl (fun _ => 0)))] H := hP
  have hD : va_D A [(h0, .inr (8, [.ref q1, .ref q3, .ref q5, .ref q7, .ref q9, .ref q11, .ref q13, .ref q15, .ref q17, .null, .null, .null, .int 0, .int 0, .int 0, .int 0])), (q1, .inl (k2, 40, .inl (fun _ => 0))), (q3, .inl (k4, 40, .inl (fun _ => 0))), (q5, .inl (k6, 40, .inl (fun _ => 0))), (q7, .inl (k8, 40, .inl (fun _ => 0))), (q9, .inl (k10, 960, .inl (fun _ => 0))), (q11, .inl (k12, 300, .inl (fun _ => 0))), (q13, .inl (k14, 300, .inl (fun _ => 0))), (q15, .inl (k16, 300, .inl (fun _ => 0))), (q17, .inl (k18, 300, .inl (fun _ => 0)))] := hD
  refine lv_aload_n hx hb dX8_init_81 rfl (lv_at hl 0 rfl) ?_
  refine lv_sipush (v := 2400) hx hb dX8_init_82 (by decide) ?_
  refine va_newa (D := D) (atype := .int) (ty := .int) (n := 2400) (N' := 2400) (a0 := (2400, .inl (fun _ => 0))) hx hb (hg _ w297) rfl hK hP hD hS hA (fun _ => rfl) (by decide) (by decide) (by decide) (Nat.le_of_ble_eq_true rfl) (Nat.le_of_ble_eq_true rfl) dX8_init_85 (fun q19 k20 H hK hP hD hS => ?_)
  have hP : va_P D vwCl [(h0, .inr (8, [.ref q1, .ref q3, .ref q5, .ref q7, .ref q9, .ref q11, .ref q13, .ref q15, .ref q17, .null, .null, .null, .int 0, .int 0, .int 0, .int 0])), (q1, .inl (k2, 40, .inl (fun _ => 0))), (q3, .inl (k4, 40, .inl (fun _ => 0))), (q5, .inl (k6, 40, .inl (fun _ => 0))), (q7, .inl (k8, 40, .inl (fun _ => 0))), (q9, .inl (k10, 960, .inl (fun _ => 0))), (q11, .inl (k12, 300, .inl (fun _ => 0))), (q13, .inl (k14, 300, .inl (fun _ => 0))), (q15, .inl (k16, 300, .inl (fun _ => 0))), (q17, .inl (k18, 300, .inl (fun _ => 0))), (q19, .inl (k20, 2400, .inl (fun _ => 0)))] H := hP
  have hD : va_D A [(h0, .inr (8, [.ref q1, .ref q3, .ref q5, .ref q7, .ref q9, .ref q11, .ref q13, .ref q15, .ref q17, .null, .null, .null, .int 0, .int 0, .int 0, .int 0])), (q1, .inl (k2, 40, .inl (fun _ => 0))), (q3, .inl (k4, 40, .inl (fun _ => 0))), (q5, .inl (k6, 40, .inl (fun _ => 0))), (q7, .inl (k8, 40, .inl (fun _ => 0))), (q9, .inl (k10, 960, .inl (fun _ => 0))), (q11, .inl (k12, 300, .inl (fun _ => 0))), (q13, .inl (k14, 300, .inl (fun _ => 0))), (q15, .inl (k16, 300, .inl (fun _ => 0))), (q17, .inl (k18, 300, .inl (fun _ => 0))), (q19, .inl (k20, 2400, .inl (fun _ => 0)))] := hD
  have hK : va_K D vwCl [(k2, .int), (k4, .int), (k6, .boolean), (k8, .int), (k10, .int), (k12, .int), (k14, .int), (k16, .int), (k18, .int), (k20, .int)] s := hK
  refine va_putF (D := D) (ci := 8) (v := .ref q19) (ty := tyX8 9) (C := RX8) (T := TX8) (N := 16) hx hb hg inX8 tyX8 tyX8_ok nmX8 hown hK hP hD hS 0 rfl rfl 9 (by decide) (hg _ w387) (fun _ h9 => h9) rfl hin rfl (tyX8_ok 9 (by decide)) rfl rfl (Nat.le_of_ble_eq_true rfl) dX8_init_87 (fun H locs hP hD hS => ?_)
  have hP : va_P D vwCl [(h0, .inr (8, [.ref q1, .ref q3, .ref q5, .ref q7, .ref q9, .ref q11, .ref q13, .ref q15, .ref q17, .ref q19, .null, .null, .int 0, .int 0, .int 0, .int 0])), (q1, .inl (k2, 40, .inl (fun _ => 0))), (q3, .inl (k4, 40, .inl (fun _ => 0))), (q5, .inl (k6, 40, .inl (fun _ => 0))), (q7, .inl (k8, 40, .inl (fun _ => 0))), (q9, .inl (k10, 960, .inl (fun _ => 0))), (q11, .inl (k12, 300, .inl (fun _ => 0))), (q13, .inl (k14, 300, .inl (fun _ => 0))), (q15, .inl (k16, 300, .inl (fun _ => 0))), (q17, .inl (k18, 300, .inl (fun _ => 0))), (q19, .inl (k20, 2400, .inl (fun _ => 0)))] H := hP
  have hD : va_D A [(h0, .inr (8, [.ref q1, .ref q3, .ref q5, .ref q7, .ref q9, .ref q11, .ref q13, .ref q15, .ref q17, .ref q19, .null, .null, .int 0, .int 0, .int 0, .int 0])), (q1, .inl (k2, 40, .inl (fun _ => 0))), (q3, .inl (k4, 40, .inl (fun _ => 0))), (q5, .inl (k6, 40, .inl (fun _ => 0))), (q7, .inl (k8, 40, .inl (fun _ => 0))), (q9, .inl (k10, 960, .inl (fun _ => 0))), (q11, .inl (k12, 300, .inl (fun _ => 0))), (q13, .inl (k14, 300, .inl (fun _ => 0))), (q15, .inl (k16, 300, .inl (fun _ => 0))), (q17, .inl (k18, 300, .inl (fun _ => 0))), (q19, .inl (k20, 2400, .inl (fun _ => 0)))] := hD
  refine lv_aload_n hx hb dX8_init_90 rfl (lv_at hl 0 rfl) ?_
  refine lv_sipush (v := 512) hx hb dX8_init_91 (by decide) ?_
  refine va_newa (D := D) (atype := .int) (ty := .int) (n := 512) (N' := 512) (a0 := (512, .inl (fun _ => 0))) hx hb (hg _ w297) rfl hK hP hD hS hA (fun _ => rfl) (by decide) (by decide) (by decide) (Nat.le_of_ble_eq_true rfl) (Nat.le_of_ble_eq_true rfl) dX8_init_94 (fun q21 k22 H hK hP hD hS => ?_)
  have hP : va_P D vwCl [(h0, .inr (8, [.ref q1, .ref q3, .ref q5, .ref q7, .ref q9, .ref q11, .ref q13, .ref q15, .ref q17, .ref q19, .null, .null, .int 0, .int 0, .int 0, .int 0])), (q1, .inl (k2, 40, .inl (fun _ => 0))), (q3, .inl (k4, 40, .inl (fun _ => 0))), (q5, .inl (k6, 40, .inl (fun _ => 0))), (q7, .inl (k8, 40, .inl (fun _ => 0))), (q9, .inl (k10, 960, .inl (fun _ => 0))), (q11, .inl (k12, 300, .inl (fun _ => 0))), (q13, .inl (k14, 300, .inl (fun _ => 0))), (q15, .inl (k16, 300, .inl (fun _ => 0))), (q17, .inl (k18, 300, .inl (fun _ => 0))), (q19, .inl (k20, 2400, .inl (fun _ => 0))), (q21, .inl (k22, 512, .inl (fun _ => 0)))] H := hP
  have hD : va_D A [(h0, .inr (8, [.ref q1, .ref q3, .ref q5, .ref q7, .ref q9, .ref q11, .ref q13, .ref q15, .ref q17, .ref q19, .null, .null, .int 0, .int 0, .int 0, .int 0])), (q1, .inl (k2, 40, .inl (fun _ => 0))), (q3, .inl (k4, 40, .inl (fun _ => 0))), (q5, .inl (k6, 40, .inl (fun _ => 0))), (q7, .inl (k8, 40, .inl (fun _ => 0))), (q9, .inl (k10, 960, .inl (fun _ => 0))), (q11, .inl (k12, 300, .inl (fun _ => 0))), (q13, .inl (k14, 300, .inl (fun _ => 0))), (q15, .inl (k16, 300, .inl (fun _ => 0))), (q17, .inl (k18, 300, .inl (fun _ => 0))), (q19, .inl (k20, 2400, .inl (fun _ => 0))), (q21, .inl (k22, 512, .inl (fun _ => 0)))] := hD
  have hK : va_K D vwCl [(k2, .int), (k4, .int), (k6, .boolean), (k8, .int), (k10, .int), (k12, .int), (k14, .int), (k16, .int), (k18, .int), (k20, .int), (k22, .int)] s := hK
  refine va_put (D := D) (ci := 8) (v := .ref q21) (ty := tyX8 10) (C := RX8) (T := TX8) (N := 16) hx hb hg inX8 tyX8 tyX8_ok nmX8 hown hK hP hD hS 0 rfl rfl 10 (by decide) (hg _ w388) (fun _ h9 => h9) rfl (tyX8_ok 10 (by decide)) rfl rfl (Nat.le_of_ble_eq_true rfl) dX8_init_96 (fun H locs hP hD hS => ?_)
  have hP : va_P D vwCl [(h0, .inr (8, [.ref q1, .ref q3, .ref q5, .ref q7, .ref q9, .ref q11, .ref q13, .ref q15, .ref q17, .ref q19, .ref q21, .null, .int 0, .int 0, .int 0, .int 0])), (q1, .inl (k2, 40, .inl (fun _ => 0))), (q3, .inl (k4, 40, .inl (fun _ => 0))), (q5, .inl (k6, 40, .inl (fun _ => 0))), (q7, .inl (k8, 40, .inl (fun _ => 0))), (q9, .inl (k10, 960, .inl (fun _ => 0))), (q11, .inl (k12, 300, .inl (fun _ => 0))), (q13, .inl (k14, 300, .inl (fun _ => 0))), (q15, .inl (k16, 300, .inl (fun _ => 0))), (q17, .inl (k18, 300, .inl (fun _ => 0))), (q19, .inl (k20, 2400, .inl (fun _ => 0))), (q21, .inl (k22, 512, .inl (fun _ => 0)))] H := hP
  have hD : va_D A [(h0, .inr (8, [.ref q1, .ref q3, .ref q5, .ref q7, .ref q9, .ref q11, .ref q13, .ref q15, .ref q17, .ref q19, .ref q21, .null, .int 0, .int 0, .int 0, .int 0])), (q1, .inl (k2, 40, .inl (fun _ => 0))), (q3, .inl (k4, 40, .inl (fun _ => 0))), (q5, .inl (k6, 40, .inl (fun _ => 0))), (q7, .inl (k8, 40, .inl (fun _ => 0))), (q9, .inl (k10, 960, .inl (fun _ => 0))), (q11, .inl (k12, 300, .inl (fun _ => 0))), (q13, .inl (k14, 300, .inl (fun _ => 0))), (q15, .inl (k16, 300, .inl (fun _ => 0))), (q17, .inl (k18, 300, .inl (fun _ => 0))), (q19, .inl (k20, 2400, .inl (fun _ => 0))), (q21, .inl (k22, 512, .inl (fun _ => 0)))] := hD
  refine lv_aload_n hx hb dX8_init_99 rfl (lv_at hl 0 rfl) ?_
  refine lv_sipush (v := 512) hx hb dX8_init_100 (by decide) ?_
  refine va_newa (D := D) (atype := .int) (ty := .int) (n := 512) (N' := 512) (a0 := (512, .inl (fun _ => 0))) hx hb (hg _ w297) rfl hK hP hD hS hA (fun _ => rfl) (by decide) (by decide) (by decide) (Nat.le_of_ble_eq_true rfl) (Nat.le_of_ble_eq_true rfl) dX8_init_103 (fun q23 k24 H hK hP hD hS => ?_)
  have hP : va_P D vwCl [(h0, .inr (8, [.ref q1, .ref q3, .ref q5, .ref q7, .ref q9, .ref q11, .ref q13, .ref q15, .ref q17, .ref q19, .ref q21, .null, .int 0, .int 0, .int 0, .int 0])), (q1, .inl (k2, 40, .inl (fun _ => 0))), (q3, .inl (k4, 40, .inl (fun _ => 0))), (q5, .inl (k6, 40, .inl (fun _ => 0))), (q7, .inl (k8, 40, .inl (fun _ => 0))), (q9, .inl (k10, 960, .inl (fun _ => 0))), (q11, .inl (k12, 300, .inl (fun _ => 0))), (q13, .inl (k14, 300, .inl (fun _ => 0))), (q15, .inl (k16, 300, .inl (fun _ => 0))), (q17, .inl (k18, 300, .inl (fun _ => 0))), (q19, .inl (k20, 2400, .inl (fun _ => 0))), (q21, .inl (k22, 512, .inl (fun _ => 0))), (q23, .inl (k24, 512, .inl (fun _ => 0)))] H := hP
  have hD : va_D A [(h0, .inr (8, [.ref q1, .ref q3, .ref q5, .ref q7, .ref q9, .ref q11, .ref q13, .ref q15, .ref q17, .ref q19, .ref q21, .null, .int 0, .int 0, .int 0, .int 0])), (q1, .inl (k2, 40, .inl (fun _ => 0))), (q3, .inl (k4, 40, .inl (fun _ => 0))), (q5, .inl (k6, 40, .inl (fun _ => 0))), (q7, .inl (k8, 40, .inl (fun _ => 0))), (q9, .inl (k10, 960, .inl (fun _ => 0))), (q11, .inl (k12, 300, .inl (fun _ => 0))), (q13, .inl (k14, 300, .inl (fun _ => 0))), (q15, .inl (k16, 300, .inl (fun _ => 0))), (q17, .inl (k18, 300, .inl (fun _ => 0))), (q19, .inl (k20, 2400, .inl (fun _ => 0))), (q21, .inl (k22, 512, .inl (fun _ => 0))), (q23, .inl (k24, 512, .inl (fun _ => 0)))] := hD
  have hK : va_K D vwCl [(k2, .int), (k4, .int), (k6, .boolean), (k8, .int), (k10, .int), (k12, .int), (k14, .int), (k16, .int), (k18, .int), (k20, .int), (k22, .int), (k24, .int)] s := hK
  refine va_put (D := D) (ci := 8) (v := .ref q23) (ty := tyX8 11) (C := RX8) (T := TX8) (N := 16) hx hb hg inX8 tyX8 tyX8_ok nmX8 hown hK hP hD hS 0 rfl rfl 11 (by decide) (hg _ w389) (fun _ h9 => h9) rfl (tyX8_ok 11 (by decide)) rfl rfl (Nat.le_of_ble_eq_true rfl) dX8_init_105 (fun H locs hP hD hS => ?_)
  have hP : va_P D vwCl [(h0, .inr (8, [.ref q1, .ref q3, .ref q5, .ref q7, .ref q9, .ref q11, .ref q13, .ref q15, .ref q17, .ref q19, .ref q21, .ref q23, .int 0, .int 0, .int 0, .int 0])), (q1, .inl (k2, 40, .inl (fun _ => 0))), (q3, .inl (k4, 40, .inl (fun _ => 0))), (q5, .inl (k6, 40, .inl (fun _ => 0))), (q7, .inl (k8, 40, .inl (fun _ => 0))), (q9, .inl (k10, 960, .inl (fun _ => 0))), (q11, .inl (k12, 300, .inl (fun _ => 0))), (q13, .inl (k14, 300, .inl (fun _ => 0))), (q15, .inl (k16, 300, .inl (fun _ => 0))), (q17, .inl (k18, 300, .inl (fun _ => 0))), (q19, .inl (k20, 2400, .inl (fun _ => 0))), (q21, .inl (k22, 512, .inl (fun _ => 0))), (q23, .inl (k24, 512, .inl (fun _ => 0)))] H := hP
  have hD : va_D A [(h0, .inr (8, [.ref q1, .ref q3, .ref q5, .ref q7, .ref q9, .ref q11, .ref q13, .ref q15, .ref q17, .ref q19, .ref q21, .ref q23, .int 0, .int 0, .int 0, .int 0])), (q1, .inl (k2, 40, .inl (fun _ => 0))), (q3, .inl (k4, 40, .inl (fun _ => 0))), (q5, .inl (k6, 40, .inl (fun _ => 0))), (q7, .inl (k8, 40, .inl (fun _ => 0))), (q9, .inl (k10, 960, .inl (fun _ => 0))), (q11, .inl (k12, 300, .inl (fun _ => 0))), (q13, .inl (k14, 300, .inl (fun _ => 0))), (q15, .inl (k16, 300, .inl (fun _ => 0))), (q17, .inl (k18, 300, .inl (fun _ => 0))), (q19, .inl (k20, 2400, .inl (fun _ => 0))), (q21, .inl (k22, 512, .inl (fun _ => 0))), (q23, .inl (k24, 512, .inl (fun _ => 0)))] := hD
  refine lv_aload_n hx hb dX8_init_108 rfl (lv_at hl 0 rfl) ?_
  refine va_get (D := D) (ci := 8) (v := .ref q9) (C := RX8) (T := TX8) (N := 16) hx hb hg inX8 hown hK hP 0 rfl rfl 4 (by decide) (hg _ w378) (fun _ h9 => h9) rfl dX8_init_109 ?_
  refine lv_iconst (v := (-1)) hx hb dX8_init_112 (by decide) ?_
  refine g_void (wr := [(h0, .inr (8, [.ref q1, .ref q3, .ref q5, .ref q7, .ref q9, .ref q11, .ref q13, .ref q15, .ref q17, .ref q19, .ref q21, .ref q23, .int 0, .int 0, .int 0, .int 0])), (q1, .inl (k2, 40, .inl (fun _ => 0))), (q3, .inl (k4, 40, .inl (fun _ => 0))), (q5, .inl (k6, 40, .inl (fun _ => 0))), (q7, .inl (k8, 40, .inl (fun _ => 0))), (q11, .inl (k12, 300, .inl (fun _ => 0))), (q13, .inl (k14, 300, .inl (fun _ => 0))), (q15, .inl (k16, 300, .inl (fun _ => 0))), (q17, .inl (k18, 300, .inl (fun _ => 0))), (q19, .inl (k20, 2400, .inl (fun _ => 0))), (q21, .inl (k22, 512, .inl (fun _ => 0))), (q23, .inl (k24, 512, .inl (fun _ => 0)))]) (tr := [(k2, .int), (k4, .int), (k6, .boolean), (k8, .int), (k12, .int), (k14, .int), (k16, .int), (k18, .int), (k20, .int), (k22, .int), (k24, .int)]) (g_runS (As := [.ref q9, .int (-1)]) (rest := []) (wc := [(q9, .inl (k10, 960, .inl ((fun _ => 0))))]) (tc := [(k10, .int)]) hx hb hml hown hg gw_self hP hD hK hS hA hnw hgk [5] [4] (by decide) rfl rfl (c_fillN l D ks H.size q9 k10 960 (fun _ => 0) (-1) (by decide)) w370 w371 w165 w372 hdS_yJ7_fill_53178 ⟨Nat.le_of_ble_eq_true rfl, Nat.le_of_ble_eq_true rfl⟩ rfl hl.1 rfl (Nat.le_of_ble_eq_true rfl) dX8_init_113 ⟨Nat.le_of_ble_eq_true rfl, Nat.le_of_ble_eq_true rfl⟩) hP hD hK hS hA [5] [0, 1, 2, 3, 4, 6, 7, 8, 9, 10, 11, 12] [0, 1, 2, 3, 5, 6, 7, 8, 9, 10, 11] rfl rfl (by decide) (by decide) rfl (fun u27 H locs hw26 hP hD hK hS => ?_)
  obtain ⟨g_25, rfl⟩ : ∃ z, z = u27 := ⟨_, rfl⟩
  have hw26 : ∀ q : Nat, g_25 q = if q < 960 then (-1) else (fun _ => 0) q := hw26
  have hP : va_P D vwCl [(h0, .inr (8, [.ref q1, .ref q3, .ref q5, .ref q7, .ref q9, .ref q11, .ref q13, .ref q15, .ref q17, .ref q19, .ref q21, .ref q23, .int 0, .int 0, .int 0, .int 0])), (q1, .inl (k2, 40, .inl (fun _ => 0))), (q3, .inl (k4, 40, .inl (fun _ => 0))), (q5, .inl (k6, 40, .inl (fun _ => 0))), (q7, .inl (k8, 40, .inl (fun _ => 0))), (q11, .inl (k12, 300, .inl (fun _ => 0))), (q13, .inl (k14, 300, .inl (fun _ => 0))), (q15, .inl (k16, 300, .inl (fun _ => 0))), (q17, .inl (k18, 300, .inl (fun _ => 0))), (q19, .inl (k20, 2400, .inl (fun _ => 0))), (q21, .inl (k22, 512, .inl (fun _ => 0))), (q23, .inl (k24, 512, .inl (fun _ => 0))), (q9, .inl (k10, 960, .inl (g_25)))] H := hP
  have hD : va_D A [(h0, .inr (8, [.ref q1, .ref q3, .ref q5, .ref q7, .ref q9, .ref q11, .ref q13, .ref q15, .ref q17, .ref q19, .ref q21, .ref q23, .int 0, .int 0, .int 0, .int 0])), (q1, .inl (k2, 40, .inl (fun _ => 0))), (q3, .inl (k4, 40, .inl (fun _ => 0))), (q5, .inl (k6, 40, .inl (fun _ => 0))), (q7, .inl (k8, 40, .inl (fun _ => 0))), (q11, .inl (k12, 300, .inl (fun _ => 0))), (q13, .inl (k14, 300, .inl (fun _ => 0))), (q15, .inl (k16, 300, .inl (fun _ => 0))), (q17, .inl (k18, 300, .inl (fun _ => 0))), (q19, .inl (k20, 2400, .inl (fun _ => 0))), (q21, .inl (k22, 512, .inl (fun _ => 0))), (q23, .inl (k24, 512, .inl (fun _ => 0))), (q9, .inl (k10, 960, .inl (g_25)))] := hD
  have hK : va_K D vwCl [(k2, .int), (k4, .int), (k6, .boolean), (k8, .int), (k12, .int), (k14, .int), (k16, .int), (k18, .int), (k20, .int), (k22, .int), (k24, .int), (k10, .int)] s := hK
  refine lv_aload_n hx hb dX8_init_116 rfl (lv_at hl 0 rfl) ?_
  refine va_get (D := D) (ci := 8) (v := .ref q5) (C := RX8) (T := TX8) (N := 16) hx hb hg inX8 hown hK hP 0 rfl rfl 2 (by decide) (hg _ w376) (fun _ h9 => h9) rfl dX8_init_117 ?_
  refine lv_iconst (v := 0) hx hb dX8_init_120 (by decide) ?_
  refine lv_iconst (v := 1) hx hb dX8_init_121 (by decide) ?_
  refine va_zast (D := D) (i := 0) (x := 1) hx hb hK hP hD hS 3 2 rfl rfl (vp_in_nI (n := 0) (N := 40) (by decide) (by decide)) dX8_init_122 (fun H locs hP hD hS => ?_)
  have hP : va_P D vwCl [(h0, .inr (8, [.ref q1, .ref q3, .ref q5, .ref q7, .ref q9, .ref q11, .ref q13, .ref q15, .ref q17, .ref q19, .ref q21, .ref q23, .int 0, .int 0, .int 0, .int 0])), (q1, .inl (k2, 40, .inl (fun _ => 0))), (q3, .inl (k4, 40, .inl (fun _ => 0))), (q5, .inl (k6, 40, .inl (upd (fun _ => 0) 0 1))), (q7, .inl (k8, 40, .inl (fun _ => 0))), (q11, .inl (k12, 300, .inl (fun _ => 0))), (q13, .inl (k14, 300, .inl (fun _ => 0))), (q15, .inl (k16, 300, .inl (fun _ => 0))), (q17, .inl (k18, 300, .inl (fun _ => 0))), (q19, .inl (k20, 2400, .inl (fun _ => 0))), (q21, .inl (k22, 512, .inl (fun _ => 0))), (q23, .inl (k24, 512, .inl (fun _ => 0))), (q9, .inl (k10, 960, .inl (g_25)))] H := hP
  have hD : va_D A [(h0, .inr (8, [.ref q1, .ref q3, .ref q5, .ref q7, .ref q9, .ref q11, .ref q13, .ref q15, .ref q17, .ref q19, .ref q21, .ref q23, .int 0, .int 0, .int 0, .int 0])), (q1, .inl (k2, 40, .inl (fun _ => 0))), (q3, .inl (k4, 40, .inl (fun _ => 0))), (q5, .inl (k6, 40, .inl (upd (fun _ => 0) 0 1))), (q7, .inl (k8, 40, .inl (fun _ => 0))), (q11, .inl (k12, 300, .inl (fun _ => 0))), (q13, .inl (k14, 300, .inl (fun _ => 0))), (q15, .inl (k16, 300, .inl (fun _ => 0))), (q17, .inl (k18, 300, .inl (fun _ => 0))), (q19, .inl (k20, 2400, .inl (fun _ => 0))), (q21, .inl (k22, 512, .inl (fun _ => 0))), (q23, .inl (k24, 512, .inl (fun _ => 0))), (q9, .inl (k10, 960, .inl (g_25)))] := hD
  refine lv_aload_n hx hb dX8_init_123 rfl (lv_at hl 0 rfl) ?_
  refine lv_iconst (v := 1) hx hb dX8_init_124 (by decide) ?_
  refine va_put (D := D) (ci := 8) (v := .int 1) (ty := tyX8 12) (C := RX8) (T := TX8) (N := 16) hx hb hg inX8 tyX8 tyX8_ok nmX8 hown hK hP hD hS 0 rfl rfl 12 (by decide) (hg _ w390) (fun _ h9 => h9) rfl (tyX8_ok 12 (by decide)) rfl rfl (Nat.le_of_ble_eq_true rfl) dX8_init_125 (fun H locs hP hD hS => ?_)
  have hP : va_P D vwCl [(h0, .inr (8, [.ref q1, .ref q3, .ref q5, .ref q7, .ref q9, .ref q11, .ref q13, .ref q15, .ref q17, .ref q19, .ref q21, .ref q23, .int 1, .int 0, .int 0, .int 0])), (q1, .inl (k2, 40, .inl (fun _ => 0))), (q3, .inl (k4, 40, .inl (fun _ => 0))), (q5, .inl (k6, 40, .inl (upd (fun _ => 0) 0 1))), (q7, .inl (k8, 40, .inl (fun _ => 0))), (q11, .inl (k12, 300, .inl (fun _ => 0))), (q13, .inl (k14, 300, .inl (fun _ => 0))), (q15, .inl (k16, 300, .inl (fun _ => 0))), (q17, .inl (k18, 300, .inl (fun _ => 0))), (q19, .inl (k20, 2400, .inl (fun _ => 0))), (q21, .inl (k22, 512, .inl (fun _ => 0))), (q23, .inl (k24, 512, .inl (fun _ => 0))), (q9, .inl (k10, 960, .inl (g_25)))] H := hP
  have hD : va_D A [(h0, .inr (8, [.ref q1, .ref q3, .ref q5, .ref q7, .ref q9, .ref q11, .ref q13, .ref q15, .ref q17, .ref q19, .ref q21, .ref q23, .int 1, .int 0, .int 0, .int 0])), (q1, .inl (k2, 40, .inl (fun _ => 0))), (q3, .inl (k4, 40, .inl (fun _ => 0))), (q5, .inl (k6, 40, .inl (upd (fun _ => 0) 0 1))), (q7, .inl (k8, 40, .inl (fun _ => 0))), (q11, .inl (k12, 300, .inl (fun _ => 0))), (q13, .inl (k14, 300, .inl (fun _ => 0))), (q15, .inl (k16, 300, .inl (fun _ => 0))), (q17, .inl (k18, 300, .inl (fun _ => 0))), (q19, .inl (k20, 2400, .inl (fun _ => 0))), (q21, .inl (k22, 512, .inl (fun _ => 0))), (q23, .inl (k24, 512, .inl (fun _ => 0))), (q9, .inl (k10, 960, .inl (g_25)))] := hD
  refine W.widen (k := 12) (n := 5744) (Nat.le_of_ble_eq_true rfl) (Nat.le_of_ble_eq_true rfl) ?_
  have hP9 := hP.sub (ws' := [(h0, .inr (8, [.ref q1, .ref q3, .ref q5, .ref q7, .ref q9, .ref q11, .ref q13, .ref q15, .ref q17, .ref q19, .ref q21, .ref q23, .int 1, .int 0, .int 0, .int 0])), (q1, .inl (k2, 40, .inl (fun _ => 0))), (q3, .inl (k4, 40, .inl (fun _ => 0))), (q5, .inl (k6, 40, .inl (upd (fun _ => 0) 0 1))), (q7, .inl (k8, 40, .inl (fun _ => 0))), (q9, .inl (k10, 960, .inl (g_25))), (q11, .inl (k12, 300, .inl (fun _ => 0))), (q13, .inl (k14, 300, .inl (fun _ => 0))), (q15, .inl (k16, 300, .inl (fun _ => 0))), (q17, .inl (k18, 300, .inl (fun _ => 0))), (q19, .inl (k20, 2400, .inl (fun _ => 0))), (q21, .inl (k22, 512, .inl (fun _ => 0))), (q23, .inl (k24, 512, .inl (fun _ => 0)))]) [0, 1, 2, 3, 4, 12, 5, 6, 7, 8, 9, 10, 11] rfl
  have hD9 := hD.sub (ws' := [(h0, .inr (8, [.ref q1, .ref q3, .ref q5, .ref q7, .ref q9, .ref q11, .ref q13, .ref q15, .ref q17, .ref q19, .ref q21, .ref q23, .int 1, .int 0, .int 0, .int 0])), (q1, .inl (k2, 40, .inl (fun _ => 0))), (q3, .inl (k4, 40, .inl (fun _ => 0))), (q5, .inl (k6, 40, .inl (upd (fun _ => 0) 0 1))), (q7, .inl (k8, 40, .inl (fun _ => 0))), (q9, .inl (k10, 960, .inl (g_25))), (q11, .inl (k12, 300, .inl (fun _ => 0))), (q13, .inl (k14, 300, .inl (fun _ => 0))), (q15, .inl (k16, 300, .inl (fun _ => 0))), (q17, .inl (k18, 300, .inl (fun _ => 0))), (q19, .inl (k20, 2400, .inl (fun _ => 0))), (q21, .inl (k22, 512, .inl (fun _ => 0))), (q23, .inl (k24, 512, .inl (fun _ => 0)))]) [0, 1, 2, 3, 4, 12, 5, 6, 7, 8, 9, 10, 11] (by decide) rfl
  have hK9 := hK.sub (tys' := [(k2, .int), (k4, .int), (k6, .boolean), (k8, .int), (k10, .int), (k12, .int), (k14, .int), (k16, .int), (k18, .int), (k20, .int), (k22, .int), (k24, .int)]) [0, 1, 2, 3, 11, 4, 5, 6, 7, 8, 9, 10] rfl
  exact W.vret hx hb hr (fun t ht hW => ⟨⟨(q1, q3, q5, q7, q9, q11, q13, q15, q17, q19, q21, q23, k2, k4, k6, k8, k10, k12, k14, k16, k18, k20, k22, k24, g_25), rfl, hw26, by rw [ht]; exact hP9, va_K.moved hW.alike hK9, hD9⟩, hS.F ht⟩) hS.2.2 dX8_init_128
abbrev r_c_isDigitK : Room := { frames := 0, cells := 0, slots := 0, locals := 0 }
abbrev q_c_isDigitK (D : va_G) (i : Nat) (A : Nat → Prop) : Array Value → State → Outcome → State → Prop := va_Qi (fun (r : Int32) (_ : Unit) => r = 0) (fun u t => gq D A ((fun (_ : Unit) => []) u) ((fun (_ : Unit) => ([] : List (ClassId × FieldType))) u) t) A
set_option maxHeartbeats 4000000 in
set_option maxRecDepth 100000 in
theorem c_isDigitK (l : Launch) (D : va_G) (ks : KS) (sz : Nat) (i : Nat) (hi : i < 155) (hw : ¬ kwc i = 32) : Met l yX9_isDigit (Cond.code yX9_isDigit cX9_isDigit 1 (some .boolean) :: GW) r_c_isDigitK (va_Pc [.int (kwc i)] (gp D ks [] [] sz)) (q_c_isDigitK D i (va_A [] sz)) 0 0 (va_A [] sz) := by
  refine g_met (q_c_isDigitK D i) (by decide) (Nat.le_of_ble_eq_true rfl) ?_
  intro p e s m below meth c A ls H locs hx hb hr hml hown hg hlocks hin hnw hgk hP hK hD hS hA hl
  have hown : s.vm.findClass RX9 = some m.cls := hown
  have hl : lv_has ls 1 [(0, .int (kwc i))] := hl
  refine lv_iload_n hx hb dX9_isDigit_0 rfl (lv_at hl 0 rfl) ?_
  refine lv_bipush (v := 48) hx hb dX9_isDigit_1 (by decide) ?_
  refine lv_icmp_lt (tgt := 16) hx hb dX9_isDigit_3 (by decide) (fun q => absurd q (kw48 i hi hw)) (fun _ => ?_)
  refine lv_iload_n hx hb dX9_isDigit_6 rfl (lv_at hl 0 rfl) ?_
  refine lv_bipush (v := 57) hx hb dX9_isDigit_7 (by decide) ?_
  refine lv_icmp_gt (tgt := 16) hx hb dX9_isDigit_9 (by decide) (fun _ => ?_) (fun q => absurd (kw57 i hi hw) q)
  refine lv_iconst (v := 0) hx hb dX9_isDigit_16 (by decide) ?_
  refine W.widen (k := 0) (n := 0) (Nat.le_of_ble_eq_true rfl) (Nat.le_of_ble_eq_true rfl) ?_
  have hP9 := hP.sub (ws' := []) [] rfl
  have hD9 := hD.sub (ws' := []) [] (by decide) rfl
  have hK9 := hK.sub (tys' := []) [] rfl
  exact W.zret (v := 0) hx hb hr rfl (fun t ht hW => ⟨⟨0, (), rfl, (by first | rfl | trivial | assumption | decide), by rw [ht]; exact hP9, va_K.moved hW.alike hK9, hD9⟩, hS.F ht⟩) hS.2.2 dX9_isDigit_17
abbrev r_c_codeOfK : Room := { frames := 1, cells := 0, slots := 0, locals := 20 }
abbrev q_c_codeOfK (D : va_G) (i : Nat) (A : Nat → Prop) : Array Value → State → Outcome → State → Prop := va_Qi (fun (r : Int32) (_ : Unit) => r = kwc i - 97 + 1) (fun u t => gq D A ((fun (_ : Unit) => []) u) ((fun (_ : Unit) => ([] : List (ClassId × FieldType))) u) t) A
set_option maxHeartbeats 4000000 in
set_option maxRecDepth 100000 in
theorem c_codeOfK (l : Launch) (D : va_G) (ks : KS) (sz : Nat) (i : Nat) (hi : i < 155) (hw : ¬ kwc i = 32) : Met l yX9_codeOf (Cond.code yX9_codeOf cX9_codeOf 1 (some .int) :: GW) r_c_codeOfK (va_Pc [.int (kwc i)] (gp D ks [] [] sz)) (q_c_codeOfK D i (va_A [] sz)) 0 0 (va_A [] sz) := by
  refine g_met (q_c_codeOfK D i) (by decide) (Nat.le_of_ble_eq_true rfl) ?_
  intro p e s m below meth c A ls H locs hx hb hr hml hown hg hlocks hin hnw hgk hP hK hD hS hA hl
  have hown : s.vm.findClass RX9 = some m.cls := hown
  have hl : lv_has ls 1 [(0, .int (kwc i))] := hl
  refine lv_iload_n hx hb dX9_codeOf_0 rfl (lv_at hl 0 rfl) ?_
  refine g_int (wr := []) (tr := []) (g_runS (As := [.int (kwc i)]) (rest := []) (wc := []) (tc := []) hx hb hml hown hg gw_self hP hD hK hS hA hnw hgk [] [] (by decide) rfl rfl (c_isDigitK l D ks H.size i hi hw) w249 w250 w157 w251 hdS_yX9_isDigit ⟨Nat.le_of_ble_eq_true rfl, Nat.le_of_ble_eq_true rfl⟩ rfl hl.1 rfl (Nat.le_of_ble_eq_true rfl) dX9_codeOf_1 ⟨Nat.le_of_ble_eq_true rfl, Nat.le_of_ble_eq_true rfl⟩) hP hD hK hS hA [] [] [] rfl rfl (by decide) (by decide) rfl (fun r3 u2 H locs hw1 hP hD hK hS => ?_)
  have hw1 : r3 = 0 := hw1
  subst hw1
  have hP : va_P D vwCl [] H := hP
  have hD : va_D A [] := hD
  have hK : va_K D vwCl [] s := hK
  refine lv_if_eq (tgt := 17) hx hb dX9_codeOf_4 (by decide) (fun _ => ?_) (fun q => absurd (by decide) q)
  refine lv_iload_n hx hb dX9_codeOf_17 rfl (lv_at hl 0 rfl) ?_
  refine lv_bipush (v := 97) hx hb dX9_codeOf_18 (by decide) ?_
  refine lv_isub hx hb dX9_codeOf_20 ?_
  refine lv_iconst (v := 1) hx hb dX9_codeOf_21 (by decide) ?_
  refine lv_iadd hx hb dX9_codeOf_22 ?_
  refine W.widen (k := 0) (n := 0) (Nat.le_of_ble_eq_true rfl) (Nat.le_of_ble_eq_true rfl) ?_
  have hP9 := hP.sub (ws' := []) [] rfl
  have hD9 := hD.sub (ws' := []) [] (by decide) rfl
  have hK9 := hK.sub (tys' := []) [] rfl
  exact W.iret (v := (((kwc i) - 97) + 1)) hx hb hr (fun t ht hW => ⟨⟨(((kwc i) - 97) + 1), (), rfl, (by first | rfl | trivial | assumption | decide), by rw [ht]; exact hP9, va_K.moved hW.alike hK9, hD9⟩, hS.F ht⟩) hS.2.2 dX9_codeOf_23
abbrev r_c_Tape_init : Room := { frames := 4, cells := 5, slots := 16031, locals := 85 }
abbrev q_c_Tape_init (D : va_G) (h0 : Nat) (A : Nat → Prop) : Array Value → State → Outcome → State → Prop := va_Qv (fun (u : Nat × Nat × Nat × Nat × Nat × ClassId × ClassId × ClassId × ClassId × ClassId × (Nat → Int64)) => ∀ j : Nat, j < 28 → u.2.2.2.2.2.2.2.2.2.2 j = kg 155 j) (fun u t => gq D A ((fun (u : Nat × Nat × Nat × Nat × Nat × ClassId × ClassId × ClassId × ClassId × ClassId × (Nat → Int64)) => [(h0, .inr (9, [.ref u.1, .ref u.2.1, .ref u.2.2.1, .ref u.2.2.2.1, .ref u.2.2.2.2.1, .int 0, .int 0, .int 0, .int 0, .int 0, .int 0, .long 0])), (u.1, .inl (u.2.2.2.2.2.1, 4000, .inl (fun _ => 0))), (u.2.1, .inl (u.2.2.2.2.2.2.1, 28, .inr (.inl (u.2.2.2.2.2.2.2.2.2.2)))), (u.2.2.1, .inl (u.2.2.2.2.2.2.2.1, 4001, .inl (fun _ => 0))), (u.2.2.2.1, .inl (u.2.2.2.2.2.2.2.2.1, 4001, .inl (fun _ => 0))), (u.2.2.2.2.1, .inl (u.2.2.2.2.2.2.2.2.2.1, 4001, .inr (.inl (fun _ => 0))))]) u) ((fun (u : Nat × Nat × Nat × Nat × Nat × ClassId × ClassId × ClassId × ClassId × ClassId × (Nat → Int64)) => ([(u.2.2.2.2.2.1, .byte), (u.2.2.2.2.2.2.1, .long), (u.2.2.2.2.2.2.2.1, .int), (u.2.2.2.2.2.2.2.2.1, .int), (u.2.2.2.2.2.2.2.2.2.1, .long)] : List (ClassId × FieldType))) u) t) A
set_option maxHeartbeats 4000000 in
set_option maxRecDepth 100000 in
theorem c_Tape_init (l : Launch) (D : va_G) (ks : KS) (sz : Nat) (h0 : Nat) : Met l yX9_init (Cond.code yX9_init cX9_init 4 none :: GW) r_c_Tape_init (va_Pc [.ref h0] (gp D ks [(h0, .inr (9, [.null, .null, .null, .null, .null, .int 0, .int 0, .int 0, .int 0, .int 0, .int 0, .long 0]))] [] sz)) (q_c_Tape_init D h0 (va_A [(h0, .inr (9, [.null, .null, .null, .null, .null, .int 0, .int 0, .int 0, .int 0, .int 0, .int 0, .long 0]))] sz)) 5 16031 (va_A [(h0, .inr (9, [.null, .null, .null, .null, .null, .int 0, .int 0, .int 0, .int 0, .int 0, .int 0, .long 0]))] sz) := by
  refine g_met (q_c_Tape_init D h0) (by decide) (Nat.le_of_ble_eq_true rfl) ?_
  intro p e s m below meth c A ls H locs hx hb hr hml hown hg hlocks hin hnw hgk hP hK hD hS hA hl
  have hown : s.vm.findClass RX9 = some m.cls := hown
  have hin : meth.name = "<init>" := hin
  have hl : lv_has ls 4 [(0, .ref h0)] := hl
  refine lv_aload_n hx hb dX9_init_0 rfl (lv_at hl 0 rfl) ?_
  refine W.objInit hx hb hown (hg _ w195) (hg _ w188) (hg _ wobj) rfl (by rw [hml]; exact hl.1) rfl dX9_init_1 (Nat.le_of_ble_eq_true rfl) (Nat.le_of_ble_eq_true rfl) ?_
  refine W.eq (g2 := F0 m 4 ls []) rfl ?_
  refine lv_aload_n hx hb dX9_init_4 rfl (lv_at hl 0 rfl) ?_
  refine lv_sipush (v := 4000) hx hb dX9_init_5 (by decide) ?_
  refine va_newa (D := D) (atype := .byte) (ty := .byte) (n := 4000) (N' := 4000) (a0 := (4000, .inl (fun _ => 0))) hx hb (hg _ w295) rfl hK hP hD hS hA (fun _ => rfl) (by decide) (by decide) (by decide) (Nat.le_of_ble_eq_true rfl) (Nat.le_of_ble_eq_true rfl) dX9_init_8 (fun q1 k2 H hK hP hD hS => ?_)
  have hP : va_P D vwCl [(h0, .inr (9, [.null, .null, .null, .null, .null, .int 0, .int 0, .int 0, .int 0, .int 0, .int 0, .long 0])), (q1, .inl (k2, 4000, .inl (fun _ => 0)))] H := hP
  have hD : va_D A [(h0, .inr (9, [.null, .null, .null, .null, .null, .int 0, .int 0, .int 0, .int 0, .int 0, .int 0, .long 0])), (q1, .inl (k2, 4000, .inl (fun _ => 0)))] := hD
  have hK : va_K D vwCl [(k2, .byte)] s := hK
  refine va_putF (D := D) (ci := 9) (v := .ref q1) (ty := tyX9 0) (C := RX9) (T := TX9) (N := 12) hx hb hg inX9 tyX9 tyX9_ok nmX9 hown hK hP hD hS 0 rfl rfl 0 (by decide) (hg _ w252) (fun _ h9 => h9) rfl hin rfl (tyX9_ok 0 (by decide)) rfl rfl (Nat.le_of_ble_eq_true rfl) dX9_init_10 (fun H locs hP hD hS => ?_)
  have hP : va_P D vwCl [(h0, .inr (9, [.ref q1, .null, .null, .null, .null, .int 0, .int 0, .int 0, .int 0, .int 0, .int 0, .long 0])), (q1, .inl (k2, 4000, .inl (fun _ => 0)))] H := hP
  have hD : va_D A [(h0, .inr (9, [.ref q1, .null, .null, .null, .null, .int 0, .int 0, .int 0, .int 0, .int 0, .int 0, .long 0])), (q1, .inl (k2, 4000, .inl (fun _ => 0)))] := hD
  refine lv_aload_n hx hb dX9_init_13 rfl (lv_at hl 0 rfl) ?_
  refine lv_bipush (v := 28) hx hb dX9_init_14 (by decide) ?_
  refine va_newa (D := D) (atype := .long) (ty := .long) (n := 28) (N' := 28) (a0 := (28, .inr (.inl (fun _ => 0)))) hx hb (hg _ w296) rfl hK hP hD hS hA (fun _ => rfl) (by decide) (by decide) (by decide) (Nat.le_of_ble_eq_true rfl) (Nat.le_of_ble_eq_true rfl) dX9_init_16 (fun q3 k4 H hK hP hD hS => ?_)
  have hP : va_P D vwCl [(h0, .inr (9, [.ref q1, .null, .null, .null, .null, .int 0, .int 0, .int 0, .int 0, .int 0, .int 0, .long 0])), (q1, .inl (k2, 4000, .inl (fun _ => 0))), (q3, .inl (k4, 28, .inr (.inl (fun _ => 0))))] H := hP
  have hD : va_D A [(h0, .inr (9, [.ref q1, .null, .null, .null, .null, .int 0, .int 0, .int 0, .int 0, .int 0, .int 0, .long 0])), (q1, .inl (k2, 4000, .inl (fun _ => 0))), (q3, .inl (k4, 28, .inr (.inl (fun _ => 0))))] := hD
  have hK : va_K D vwCl [(k2, .byte), (k4, .long)] s := hK
  refine va_putF (D := D) (ci := 9) (v := .ref q3) (ty := tyX9 1) (C := RX9) (T := TX9) (N := 12) hx hb hg inX9 tyX9 tyX9_ok nmX9 hown hK hP hD hS 0 rfl rfl 1 (by decide) (hg _ w253) (fun _ h9 => h9) rfl hin rfl (tyX9_ok 1 (by decide)) rfl rfl (Nat.le_of_ble_eq_true rfl) dX9_init_18 (fun H locs hP hD hS => ?_)
  have hP : va_P D vwCl [(h0, .inr (9, [.ref q1, .ref q3, .null, .null, .null, .int 0, .int 0, .int 0, .int 0, .int 0, .int 0, .long 0])), (q1, .inl (k2, 4000, .inl (fun _ => 0))), (q3, .inl (k4, 28, .inr (.inl (fun _ => 0))))] H := hP
  have hD : va_D A [(h0, .inr (9, [.ref q1, .ref q3, .null, .null, .null, .int 0, .int 0, .int 0, .int 0, .int 0, .int 0, .long 0])), (q1, .inl (k2, 4000, .inl (fun _ => 0))), (q3, .inl (k4, 28, .inr (.inl (fun _ => 0))))] := hD
  refine lv_aload_n hx hb dX9_init_21 rfl (lv_at hl 0 rfl) ?_
  refine lv_sipush (v := 4001) hx hb dX9_init_22 (by decide) ?_
  refine va_newa (D := D) (atype := .int) (ty := .int) (n := 4001) (N' := 4001) (a0 := (4001, .inl (fun _ => 0))) hx hb (hg _ w297) rfl hK hP hD hS hA (fun _ => rfl) (by decide) (by decide) (by decide) (Nat.le_of_ble_eq_true rfl) (Nat.le_of_ble_eq_true rfl) dX9_init_25 (fun q5 k6 H hK hP hD hS => ?_)
  have hP : va_P D vwCl [(h0, .inr (9, [.ref q1, .ref q3, .null, .null, .null, .int 0, .int 0, .int 0, .int 0, .int 0, .int 0, .long 0])), (q1, .inl (k2, 4000, .inl (fun _ => 0))), (q3, .inl (k4, 28, .inr (.inl (fun _ => 0)))), (q5, .inl (k6, 4001, .inl (fun _ => 0)))] H := hP
  have hD : va_D A [(h0, .inr (9, [.ref q1, .ref q3, .null, .null, .null, .int 0, .int 0, .int 0, .int 0, .int 0, .int 0, .long 0])), (q1, .inl (k2, 4000, .inl (fun _ => 0))), (q3, .inl (k4, 28, .inr (.inl (fun _ => 0)))), (q5, .inl (k6, 4001, .inl (fun _ => 0)))] := hD
  have hK : va_K D vwCl [(k2, .byte), (k4, .long), (k6, .int)] s := hK
  refine va_putF (D := D) (ci := 9) (v := .ref q5) (ty := tyX9 2) (C := RX9) (T := TX9) (N := 12) hx hb hg inX9 tyX9 tyX9_ok nmX9 hown hK hP hD hS 0 rfl rfl 2 (by decide) (hg _ w254) (fun _ h9 => h9) rfl hin rfl (tyX9_ok 2 (by decide)) rfl rfl (Nat.le_of_ble_eq_true rfl) dX9_init_27 (fun H locs hP hD hS => ?_)
  have hP : va_P D vwCl [(h0, .inr (9, [.ref q1, .ref q3, .ref q5, .null, .null, .int 0, .int 0, .int 0, .int 0, .int 0, .int 0, .long 0])), (q1, .inl (k2, 4000, .inl (fun _ => 0))), (q3, .inl (k4, 28, .inr (.inl (fun _ => 0)))), (q5, .inl (k6, 4001, .inl (fun _ => 0)))] H := hP
  have hD : va_D A [(h0, .inr (9, [.ref q1, .ref q3, .ref q5, .null, .null, .int 0, .int 0, .int 0, .int 0, .int 0, .int 0, .long 0])), (q1, .inl (k2, 4000, .inl (fun _ => 0))), (q3, .inl (k4, 28, .inr (.inl (fun _ => 0)))), (q5, .inl (k6, 4001, .inl (fun _ => 0)))] := hD
  refine lv_aload_n hx hb dX9_init_30 rfl (lv_at hl 0 rfl) ?_
  refine lv_sipush (v := 4001) hx hb dX9_init_31 (by decide) ?_
  refine va_newa (D := D) (atype := .int) (ty := .int) (n := 4001) (N' := 4001) (a0 := (4001, .inl (fun _ => 0))) hx hb (hg _ w297) rfl hK hP hD hS hA (fun _ => rfl) (by decide) (by decide) (by decide) (Nat.le_of_ble_eq_true rfl) (Nat.le_of_ble_eq_true rfl) dX9_init_34 (fun q7 k8 H hK hP hD hS => ?_)
  have hP : va_P D vwCl [(h0, .inr (9, [.ref q1, .ref q3, .ref q5, .null, .null, .int 0, .int 0, .int 0, .int 0, .int 0, .int 0, .long 0])), (q1, .inl (k2, 4000, .inl (fun _ => 0))), (q3, .inl (k4, 28, .inr (.inl (fun _ => 0)))), (q5, .inl (k6, 4001, .inl (fun _ => 0))), (q7, .inl (k8, 4001, .inl (fun _ => 0)))] H := hP
  have hD : va_D A [(h0, .inr (9, [.ref q1, .ref q3, .ref q5, .null, .null, .int 0, .int 0, .int 0, .int 0, .int 0, .int 0, .long 0])), (q1, .inl (k2, 4000, .inl (fun _ => 0))), (q3, .inl (k4, 28, .inr (.inl (fun _ => 0)))), (q5, .inl (k6, 4001, .inl (fun _ => 0))), (q7, .inl (k8, 4001, .inl (fun _ => 0)))] := hD
  have hK : va_K D vwCl [(k2, .byte), (k4, .long), (k6, .int), (k8, .int)] s := hK
  refine va_putF (D := D) (ci := 9) (v := .ref q7) (ty := tyX9 3) (C := RX9) (T := TX9) (N := 12) hx hb hg inX9 tyX9 tyX9_ok nmX9 hown hK hP hD hS 0 rfl rfl 3 (by decide) (hg _ w255) (fun _ h9 => h9) rfl hin rfl (tyX9_ok 3 (by decide)) rfl rfl (Nat.le_of_ble_eq_true rfl) dX9_init_36 (fun H locs hP hD hS => ?_)
  have hP : va_P D vwCl [(h0, .inr (9, [.ref q1, .ref q3, .ref q5, .ref q7, .null, .int 0, .int 0, .int 0, .int 0, .int 0, .int 0, .long 0])), (q1, .inl (k2, 4000, .inl (fun _ => 0))), (q3, .inl (k4, 28, .inr (.inl (fun _ => 0)))), (q5, .inl (k6, 4001, .inl (fun _ => 0))), (q7, .inl (k8, 4001, .inl (fun _ => 0)))] H := hP
  have hD : va_D A [(h0, .inr (9, [.ref q1, .ref q3, .ref q5, .ref q7, .null, .int 0, .int 0, .int 0, .int 0, .int 0, .int 0, .long 0])), (q1, .inl (k2, 4000, .inl (fun _ => 0))), (q3, .inl (k4, 28, .inr (.inl (fun _ => 0)))), (q5, .inl (k6, 4001, .inl (fun _ => 0))), (q7, .inl (k8, 4001, .inl (fun _ => 0)))] := hD
  refine lv_aload_n hx hb dX9_init_39 rfl (lv_at hl 0 rfl) ?_
  refine lv_sipush (v := 4001) hx hb dX9_init_40 (by decide) ?_
  refine va_newa (D := D) (atype := .long) (ty := .long) (n := 4001) (N' := 4001) (a0 := (4001, .inr (.inl (fun _ => 0)))) hx hb (hg _ w296) rfl hK hP hD hS hA (fun _ => rfl) (by decide) (by decide) (by decide) (Nat.le_of_ble_eq_true rfl) (Nat.le_of_ble_eq_true rfl) dX9_init_43 (fun q9 k10 H hK hP hD hS => ?_)
  have hP : va_P D vwCl [(h0, .inr (9, [.ref q1, .ref q3, .ref q5, .ref q7, .null, .int 0, .int 0, .int 0, .int 0, .int 0, .int 0, .long 0])), (q1, .inl (k2, 4000, .inl (fun _ => 0))), (q3, .inl (k4, 28, .inr (.inl (fun _ => 0)))), (q5, .inl (k6, 4001, .inl (fun _ => 0))), (q7, .inl (k8, 4001, .inl (fun _ => 0))), (q9, .inl (k10, 4001, .inr (.inl (fun _ => 0))))] H := hP
  have hD : va_D A [(h0, .inr (9, [.ref q1, .ref q3, .ref q5, .ref q7, .null, .int 0, .int 0, .int 0, .int 0, .int 0, .int 0, .long 0])), (q1, .inl (k2, 4000, .inl (fun _ => 0))), (q3, .inl (k4, 28, .inr (.inl (fun _ => 0)))), (q5, .inl (k6, 4001, .inl (fun _ => 0))), (q7, .inl (k8, 4001, .inl (fun _ => 0))), (q9, .inl (k10, 4001, .inr (.inl (fun _ => 0))))] := hD
  have hK : va_K D vwCl [(k2, .byte), (k4, .long), (k6, .int), (k8, .int), (k10, .long)] s := hK
  refine va_putF (D := D) (ci := 9) (v := .ref q9) (ty := tyX9 4) (C := RX9) (T := TX9) (N := 12) hx hb hg inX9 tyX9 tyX9_ok nmX9 hown hK hP hD hS 0 rfl rfl 4 (by decide) (hg _ w256) (fun _ h9 => h9) rfl hin rfl (tyX9_ok 4 (by decide)) rfl rfl (Nat.le_of_ble_eq_true rfl) dX9_init_45 (fun H locs hP hD hS => ?_)
  have hP : va_P D vwCl [(h0, .inr (9, [.ref q1, .ref q3, .ref q5, .ref q7, .ref q9, .int 0, .int 0, .int 0, .int 0, .int 0, .int 0, .long 0])), (q1, .inl (k2, 4000, .inl (fun _ => 0))), (q3, .inl (k4, 28, .inr (.inl (fun _ => 0)))), (q5, .inl (k6, 4001, .inl (fun _ => 0))), (q7, .inl (k8, 4001, .inl (fun _ => 0))), (q9, .inl (k10, 4001, .inr (.inl (fun _ => 0))))] H := hP
  have hD : va_D A [(h0, .inr (9, [.ref q1, .ref q3, .ref q5, .ref q7, .ref q9, .int 0, .int 0, .int 0, .int 0, .int 0, .int 0, .long 0])), (q1, .inl (k2, 4000, .inl (fun _ => 0))), (q3, .inl (k4, 28, .inr (.inl (fun _ => 0)))), (q5, .inl (k6, 4001, .inl (fun _ => 0))), (q7, .inl (k8, 4001, .inl (fun _ => 0))), (q9, .inl (k10, 4001, .inr (.inl (fun _ => 0))))] := hD
  refine lv_iconst (v := 0) hx hb dX9_init_48 (by decide) ?_
  refine lv_istore_n (lv' := [(1, .int 0), (0, .ref h0)]) hx hb dX9_init_49 rfl hl (by decide) rfl (fun ls hl => ?_)
  refine lv_iconst (v := 0) hx hb dX9_init_50 (by decide) ?_
  refine lv_istore_n (lv' := [(2, .int 0), (1, .int 0), (0, .ref h0)]) hx hb dX9_init_51 rfl hl (by decide) rfl (fun ls hl => ?_)
  refine W.widen (k := 5) (n := 16031) (Nat.le_of_ble_eq_true rfl) (Nat.le_of_ble_eq_true rfl) ?_
  have lp11 : ∀ (n : Nat) (i : Nat) (k : Nat) (g : Nat → Int64) (H : Heap) (locs : List Loc) (ls : Array Slot), i ≤ 155 → k ≤ i → k = sp i → (∀ j : Nat, g j = kc i j) → 155 < i + n → va_P D vwCl [(h0, .inr (9, [.ref q1, .ref q3, .ref q5, .ref q7, .ref q9, .int 0, .int 0, .int 0, .int 0, .int 0, .int 0, .long 0])), (q1, .inl (k2, 4000, .inl (fun _ => 0))), (q3, .inl (k4, 28, .inr (.inl (g)))), (q5, .inl (k6, 4001, .inl (fun _ => 0))), (q7, .inl (k8, 4001, .inl (fun _ => 0))), (q9, .inl (k10, 4001, .inr (.inl (fun _ => 0))))] H → va_D A [(h0, .inr (9, [.ref q1, .ref q3, .ref q5, .ref q7, .ref q9, .int 0, .int 0, .int 0, .int 0, .int 0, .int 0, .long 0])), (q1, .inl (k2, 4000, .inl (fun _ => 0))), (q3, .inl (k4, 28, .inr (.inl (g)))), (q5, .inl (k6, 4001, .inl (fun _ => 0))), (q7, .inl (k8, 4001, .inl (fun _ => 0))), (q9, .inl (k10, 4001, .inr (.inl (fun _ => 0))))] → va_S A s.heap H locs → lv_has ls 4 [(2, .int (nI i)), (1, .int (nI k)), (0, .ref h0)] → W p l e r_c_Tape_init s m ([.ref h0] : List Value).toArray below meth c H locs (5) (16031) (MQ below (q_c_Tape_init D h0 A) ([.ref h0] : List Value).toArray s 5 16031 A) (F0 m 52 ls []) := by
    intro n
    induction n with
    | zero =>
      intro i k g H locs ls hi hk hsp hg9 hn hP hD hS hl
      exact absurd hn (by omega)
    | succ n ih =>
      intro i k g H locs ls hi hk hsp hg9 hn hP hD hS hl
      refine lv_iload_n hx hb dX9_init_52 rfl (lv_at hl 0 rfl) ?_
      refine va_ldcS hx hb hown hgk.1.2.1 dX9_init_53 ?_
      refine g_int (wr := [(h0, .inr (9, [.ref q1, .ref q3, .ref q5, .ref q7, .ref q9, .int 0, .int 0, .int 0, .int 0, .int 0, .int 0, .long 0])), (q1, .inl (k2, 4000, .inl (fun _ => 0))), (q3, .inl (k4, 28, .inr (.inl (g)))), (q5, .inl (k6, 4001, .inl (fun _ => 0))), (q7, .inl (k8, 4001, .inl (fun _ => 0))), (q9, .inl (k10, 4001, .inr (.inl (fun _ => 0))))]) (tr := [(k2, .byte), (k4, .long), (k6, .int), (k8, .int), (k10, .long)]) (g_runW (As := []) (rest := [.int (nI i)]) (wc := []) (tc := []) (C := RJ0) hx hb hml hown hg gw_self hP hD hK hS hA hnw hgk [] [] (by decide) rfl rfl (c_length l D ks H.size) w197 w198 w199 w158 w200 (vk_recv (i := 0) hgk.1.1 (by decide) hS) hdV_yJ0_length_8abf5 ⟨Nat.le_of_ble_eq_true rfl, Nat.le_of_ble_eq_true rfl⟩ rfl hl.1 rfl (Nat.le_of_ble_eq_true rfl) dX9_init_55 ⟨Nat.le_of_ble_eq_true rfl, Nat.le_of_ble_eq_true rfl⟩) hP hD hK hS hA [] [0, 1, 2, 3, 4, 5] [0, 1, 2, 3, 4] rfl rfl (by decide) (by decide) rfl (fun r14 u13 H locs hw12 hP hD hK hS => ?_)
      have hw12 : r14 = 155 := hw12
      subst hw12
      have hP : va_P D vwCl [(h0, .inr (9, [.ref q1, .ref q3, .ref q5, .ref q7, .ref q9, .int 0, .int 0, .int 0, .int 0, .int 0, .int 0, .long 0])), (q1, .inl (k2, 4000, .inl (fun _ => 0))), (q3, .inl (k4, 28, .inr (.inl (g)))), (q5, .inl (k6, 4001, .inl (fun _ => 0))), (q7, .inl (k8, 4001, .inl (fun _ => 0))), (q9, .inl (k10, 4001, .inr (.inl (fun _ => 0))))] H := hP
      have hD : va_D A [(h0, .inr (9, [.ref q1, .ref q3, .ref q5, .ref q7, .ref q9, .int 0, .int 0, .int 0, .int 0, .int 0, .int 0, .long 0])), (q1, .inl (k2, 4000, .inl (fun _ => 0))), (q3, .inl (k4, 28, .inr (.inl (g)))), (q5, .inl (k6, 4001, .inl (fun _ => 0))), (q7, .inl (k8, 4001, .inl (fun _ => 0))), (q9, .inl (k10, 4001, .inr (.inl (fun _ => 0))))] := hD
      have hK : va_K D vwCl [(k2, .byte), (k4, .long), (k6, .int), (k8, .int), (k10, .long)] s := hK
      refine lv_icmp_ge (tgt := 114) hx hb dX9_init_58 (by decide) (fun c15 => ?_) (fun c15 => ?_)
      · skip
        have gc15 : 155 ≤ i := g_ge_ge (L := 155) (by omega) (by omega) c15
        refine W.widen (k := 5) (n := 16031) (Nat.le_of_ble_eq_true rfl) (Nat.le_of_ble_eq_true rfl) ?_
        have hP9 := hP.sub (ws' := [(h0, .inr (9, [.ref q1, .ref q3, .ref q5, .ref q7, .ref q9, .int 0, .int 0, .int 0, .int 0, .int 0, .int 0, .long 0])), (q1, .inl (k2, 4000, .inl (fun _ => 0))), (q3, .inl (k4, 28, .inr (.inl (g)))), (q5, .inl (k6, 4001, .inl (fun _ => 0))), (q7, .inl (k8, 4001, .inl (fun _ => 0))), (q9, .inl (k10, 4001, .inr (.inl (fun _ => 0))))]) [0, 1, 2, 3, 4, 5] rfl
        have hD9 := hD.sub (ws' := [(h0, .inr (9, [.ref q1, .ref q3, .ref q5, .ref q7, .ref q9, .int 0, .int 0, .int 0, .int 0, .int 0, .int 0, .long 0])), (q1, .inl (k2, 4000, .inl (fun _ => 0))), (q3, .inl (k4, 28, .inr (.inl (g)))), (q5, .inl (k6, 4001, .inl (fun _ => 0))), (q7, .inl (k8, 4001, .inl (fun _ => 0))), (q9, .inl (k10, 4001, .inr (.inl (fun _ => 0))))]) [0, 1, 2, 3, 4, 5] (by decide) rfl
        have hK9 := hK.sub (tys' := [(k2, .byte), (k4, .long), (k6, .int), (k8, .int), (k10, .long)]) [0, 1, 2, 3, 4] rfl
        exact W.vret hx hb hr (fun t ht hW => ⟨⟨(q1, q3, q5, q7, q9, k2, k4, k6, k8, k10, g), rfl, (fun j hj => by have e9 : i = 155 := (by by_cases q : i < 155; have := sp_lt i q; omega; omega); rw [e9] at hg9; exact (hg9 j).trans (kc_kg j hj)), by rw [ht]; exact hP9, va_K.moved hW.alike hK9, hD9⟩, hS.F ht⟩) hS.2.2 dX9_init_114
      · skip
        have gc15 : i < 155 := g_lt_ge (L := 155) (by omega) (by omega) c15
        refine lv_iload_n hx hb dX9_init_61 rfl (lv_at hl 1 rfl) ?_
        refine lv_bipush (v := 28) hx hb dX9_init_62 (by decide) ?_
        refine lv_icmp_ge (tgt := 114) hx hb dX9_init_64 (by decide) (fun c16 => ?_) (fun c16 => ?_)
        · skip
          have gc16 : 28 ≤ k := g_ge_ge (L := 28) (by omega) (by omega) c16
          refine W.widen (k := 5) (n := 16031) (Nat.le_of_ble_eq_true rfl) (Nat.le_of_ble_eq_true rfl) ?_
          have hP9 := hP.sub (ws' := [(h0, .inr (9, [.ref q1, .ref q3, .ref q5, .ref q7, .ref q9, .int 0, .int 0, .int 0, .int 0, .int 0, .int 0, .long 0])), (q1, .inl (k2, 4000, .inl (fun _ => 0))), (q3, .inl (k4, 28, .inr (.inl (g)))), (q5, .inl (k6, 4001, .inl (fun _ => 0))), (q7, .inl (k8, 4001, .inl (fun _ => 0))), (q9, .inl (k10, 4001, .inr (.inl (fun _ => 0))))]) [0, 1, 2, 3, 4, 5] rfl
          have hD9 := hD.sub (ws' := [(h0, .inr (9, [.ref q1, .ref q3, .ref q5, .ref q7, .ref q9, .int 0, .int 0, .int 0, .int 0, .int 0, .int 0, .long 0])), (q1, .inl (k2, 4000, .inl (fun _ => 0))), (q3, .inl (k4, 28, .inr (.inl (g)))), (q5, .inl (k6, 4001, .inl (fun _ => 0))), (q7, .inl (k8, 4001, .inl (fun _ => 0))), (q9, .inl (k10, 4001, .inr (.inl (fun _ => 0))))]) [0, 1, 2, 3, 4, 5] (by decide) rfl
          have hK9 := hK.sub (tys' := [(k2, .byte), (k4, .long), (k6, .int), (k8, .int), (k10, .long)]) [0, 1, 2, 3, 4] rfl
          exact W.vret hx hb hr (fun t ht hW => ⟨⟨(q1, q3, q5, q7, q9, k2, k4, k6, k8, k10, g), rfl, (fun j hj => by have e9 : i = 155 := (by by_cases q : i < 155; have := sp_lt i q; omega; omega); rw [e9] at hg9; exact (hg9 j).trans (kc_kg j hj)), by rw [ht]; exact hP9, va_K.moved hW.alike hK9, hD9⟩, hS.F ht⟩) hS.2.2 dX9_init_114
        · skip
          have gc16 : k < 28 := g_lt_ge (L := 28) (by omega) (by omega) c16
          refine va_ldcS hx hb hown hgk.1.2.1 dX9_init_67 ?_
          refine lv_iload_n hx hb dX9_init_69 rfl (lv_at hl 0 rfl) ?_
          refine g_int (wr := [(h0, .inr (9, [.ref q1, .ref q3, .ref q5, .ref q7, .ref q9, .int 0, .int 0, .int 0, .int 0, .int 0, .int 0, .long 0])), (q1, .inl (k2, 4000, .inl (fun _ => 0))), (q3, .inl (k4, 28, .inr (.inl (g)))), (q5, .inl (k6, 4001, .inl (fun _ => 0))), (q7, .inl (k8, 4001, .inl (fun _ => 0))), (q9, .inl (k10, 4001, .inr (.inl (fun _ => 0))))]) (tr := [(k2, .byte), (k4, .long), (k6, .int), (k8, .int), (k10, .long)]) (g_runW (As := [.int (nI i)]) (rest := []) (wc := []) (tc := []) (C := RJ0) hx hb hml hown hg gw_self hP hD hK hS hA hnw hgk [] [] (by decide) rfl rfl (c_charAt l D ks H.size i (by (first | exact om_97ddfa34d464 gc15 | omega))) w207 w208 w209 w158 w210 (vk_recv (i := 0) hgk.1.1 (by decide) hS) hdV_yJ0_charAt_5068e ⟨Nat.le_of_ble_eq_true rfl, Nat.le_of_ble_eq_true rfl⟩ rfl hl.1 rfl (Nat.le_of_ble_eq_true rfl) dX9_init_70 ⟨Nat.le_of_ble_eq_true rfl, Nat.le_of_ble_eq_true rfl⟩) hP hD hK hS hA [] [0, 1, 2, 3, 4, 5] [0, 1, 2, 3, 4] rfl rfl (by decide) (by decide) rfl (fun r19 u18 H locs hw17 hP hD hK hS => ?_)
          have hw17 : r19 = kwc i := hw17
          subst hw17
          have hP : va_P D vwCl [(h0, .inr (9, [.ref q1, .ref q3, .ref q5, .ref q7, .ref q9, .int 0, .int 0, .int 0, .int 0, .int 0, .int 0, .long 0])), (q1, .inl (k2, 4000, .inl (fun _ => 0))), (q3, .inl (k4, 28, .inr (.inl (g)))), (q5, .inl (k6, 4001, .inl (fun _ => 0))), (q7, .inl (k8, 4001, .inl (fun _ => 0))), (q9, .inl (k10, 4001, .inr (.inl (fun _ => 0))))] H := hP
          have hD : va_D A [(h0, .inr (9, [.ref q1, .ref q3, .ref q5, .ref q7, .ref q9, .int 0, .int 0, .int 0, .int 0, .int 0, .int 0, .long 0])), (q1, .inl (k2, 4000, .inl (fun _ => 0))), (q3, .inl (k4, 28, .inr (.inl (g)))), (q5, .inl (k6, 4001, .inl (fun _ => 0))), (q7, .inl (k8, 4001, .inl (fun _ => 0))), (q9, .inl (k10, 4001, .inr (.inl (fun _ => 0))))] := hD
          have hK : va_K D vwCl [(k2, .byte), (k4, .long), (k6, .int), (k8, .int), (k10, .long)] s := hK
          refine lv_istore_n (lv' := [(3, .int (kwc i)), (2, .int (nI i)), (1, .int (nI k)), (0, .ref h0)]) hx hb dX9_init_73 rfl hl (by decide) rfl (fun ls hl => ?_)
          refine lv_iload_n hx hb dX9_init_74 rfl (lv_at hl 0 rfl) ?_
          refine lv_bipush (v := 32) hx hb dX9_init_75 (by decide) ?_
          refine lv_icmp_ne (tgt := 86) hx hb dX9_init_77 (by decide) (fun c20 => ?_) (fun c20 => ?_)
          · skip
            refine lv_aload_n hx hb dX9_init_86 rfl (lv_at hl 3 rfl) ?_
            refine va_get (D := D) (ci := 9) (v := .ref q3) (C := RX9) (T := TX9) (N := 12) hx hb hg inX9 hown hK hP 0 rfl rfl 1 (by decide) (hg _ w253) (fun _ h9 => h9) rfl dX9_init_87 ?_
            refine lv_iload_n hx hb dX9_init_90 rfl (lv_at hl 2 rfl) ?_
            refine lv_aload_n hx hb dX9_init_91 rfl (lv_at hl 3 rfl) ?_
            refine va_get (D := D) (ci := 9) (v := .ref q3) (C := RX9) (T := TX9) (N := 12) hx hb hg inX9 hown hK hP 0 rfl rfl 1 (by decide) (hg _ w253) (fun _ h9 => h9) rfl dX9_init_92 ?_
            refine lv_iload_n hx hb dX9_init_95 rfl (lv_at hl 2 rfl) ?_
            refine va_lald (D := D) (i := (nI k)) hx hb hK hP 2 1 rfl rfl (vp_in_nI (by omega) (by omega)) dX9_init_96 ?_
            refine lv_ldc2 (v := 37) hx hb hown (hg _ w245) dX9_init_97 ?_
            refine lv_lmul hx hb dX9_init_100 ?_
            refine lv_iload_n hx hb dX9_init_101 rfl (lv_at hl 0 rfl) ?_
            refine g_int (wr := [(h0, .inr (9, [.ref q1, .ref q3, .ref q5, .ref q7, .ref q9, .int 0, .int 0, .int 0, .int 0, .int 0, .int 0, .long 0])), (q1, .inl (k2, 4000, .inl (fun _ => 0))), (q3, .inl (k4, 28, .inr (.inl (g)))), (q5, .inl (k6, 4001, .inl (fun _ => 0))), (q7, .inl (k8, 4001, .inl (fun _ => 0))), (q9, .inl (k10, 4001, .inr (.inl (fun _ => 0))))]) (tr := [(k2, .byte), (k4, .long), (k6, .int), (k8, .int), (k10, .long)]) (g_runS (As := [.int (kwc i)]) (rest := [.long (((g) (Int32.toNatClampNeg (nI k))) * 37), .int (nI k), .ref q3]) (wc := []) (tc := []) hx hb hml hown hg gw_self hP hD hK hS hA hnw hgk [] [] (by decide) rfl rfl (c_codeOfK l D ks H.size i (by (first | exact om_97ddfa34d464 gc15 | omega)) c20) w246 w247 w157 w248 hdS_yX9_codeOf ⟨Nat.le_of_ble_eq_true rfl, Nat.le_of_ble_eq_true rfl⟩ rfl hl.1 rfl (Nat.le_of_ble_eq_true rfl) dX9_init_102 ⟨Nat.le_of_ble_eq_true rfl, Nat.le_of_ble_eq_true rfl⟩) hP hD hK hS hA [] [0, 1, 2, 3, 4, 5] [0, 1, 2, 3, 4] rfl rfl (by decide) (by decide) rfl (fun r23 u22 H locs hw21 hP hD hK hS => ?_)
            have hw21 : r23 = kwc i - 97 + 1 := hw21
            subst hw21
            have hP : va_P D vwCl [(h0, .inr (9, [.ref q1, .ref q3, .ref q5, .ref q7, .ref q9, .int 0, .int 0, .int 0, .int 0, .int 0, .int 0, .long 0])), (q1, .inl (k2, 4000, .inl (fun _ => 0))), (q3, .inl (k4, 28, .inr (.inl (g)))), (q5, .inl (k6, 4001, .inl (fun _ => 0))), (q7, .inl (k8, 4001, .inl (fun _ => 0))), (q9, .inl (k10, 4001, .inr (.inl (fun _ => 0))))] H := hP
            have hD : va_D A [(h0, .inr (9, [.ref q1, .ref q3, .ref q5, .ref q7, .ref q9, .int 0, .int 0, .int 0, .int 0, .int 0, .int 0, .long 0])), (q1, .inl (k2, 4000, .inl (fun _ => 0))), (q3, .inl (k4, 28, .inr (.inl (g)))), (q5, .inl (k6, 4001, .inl (fun _ => 0))), (q7, .inl (k8, 4001, .inl (fun _ => 0))), (q9, .inl (k10, 4001, .inr (.inl (fun _ => 0))))] := hD
            have hK : va_K D vwCl [(k2, .byte), (k4, .long), (k6, .int), (k8, .int), (k10, .long)] s := hK
            refine lv_i2l hx hb dX9_init_105 rfl ?_
            refine lv_ladd hx hb dX9_init_106 ?_
            refine va_last (D := D) (i := (nI k)) (x := ((((g) (Int32.toNatClampNeg (nI k))) * 37) + ((kwc i - 97 + 1)).toInt64)) hx hb hK hP hD hS 2 1 rfl rfl (vp_in_nI (by omega) (by omega)) dX9_init_107 (fun H locs hP hD hS => ?_)
            have hP : va_P D vwCl [(h0, .inr (9, [.ref q1, .ref q3, .ref q5, .ref q7, .ref q9, .int 0, .int 0, .int 0, .int 0, .int 0, .int 0, .long 0])), (q1, .inl (k2, 4000, .inl (fun _ => 0))), (q3, .inl (k4, 28, .inr (.inl (vp_updL g (Int32.toNatClampNeg (nI k)) ((((g) (Int32.toNatClampNeg (nI k))) * 37) + ((kwc i - 97 + 1)).toInt64))))), (q5, .inl (k6, 4001, .inl (fun _ => 0))), (q7, .inl (k8, 4001, .inl (fun _ => 0))), (q9, .inl (k10, 4001, .inr (.inl (fun _ => 0))))] H := hP
            have hD : va_D A [(h0, .inr (9, [.ref q1, .ref q3, .ref q5, .ref q7, .ref q9, .int 0, .int 0, .int 0, .int 0, .int 0, .int 0, .long 0])), (q1, .inl (k2, 4000, .inl (fun _ => 0))), (q3, .inl (k4, 28, .inr (.inl (vp_updL g (Int32.toNatClampNeg (nI k)) ((((g) (Int32.toNatClampNeg (nI k))) * 37) + ((kwc i - 97 + 1)).toInt64))))), (q5, .inl (k6, 4001, .inl (fun _ => 0))), (q7, .inl (k8, 4001, .inl (fun _ => 0))), (q9, .inl (k10, 4001, .inr (.inl (fun _ => 0))))] := hD
            obtain ⟨f24, hf24⟩ : ∃ z, z = vp_updL g (Int32.toNatClampNeg (nI k)) ((((g) (Int32.toNatClampNeg (nI k))) * 37) + ((kwc i - 97 + 1)).toInt64) := ⟨_, rfl⟩
            rw [← hf24] at hP hD
            refine lv_iinc (v := (nI (i + 1))) (lv' := [(2, .int (nI (i + 1))), (3, .int (kwc i)), (1, .int (nI k)), (0, .ref h0)]) hx hb dX9_init_108 hl (k := 1) rfl (nI_1 _) (by decide) rfl (fun ls hl => ?_)
            refine lv_goto (tgt := 52) hx hb dX9_init_111 (by decide) ?_
            exact ih (i + 1) k f24 H locs ls (by omega) (by omega) (by rw [hsp, sp, if_neg c20]; rfl) (by intro j; rw [hf24, nI_clamp (by omega), kc_n c20]; exact kc_up hsp hg9 j) (by omega) (hP.sub [0, 1, 2, 3, 4, 5] rfl) (hD.sub [0, 1, 2, 3, 4, 5] (by decide) rfl) hS (lv_sub hl [0, 2, 3] rfl)
          · skip
            refine lv_iinc (v := (nI (k + 1))) (lv' := [(1, .int (nI (k + 1))), (3, .int (kwc i)), (2, .int (nI i)), (0, .ref h0)]) hx hb dX9_init_80 hl (k := 2) rfl (nI_1 _) (by decide) rfl (fun ls hl => ?_)
            refine lv_goto (tgt := 108) hx hb dX9_init_83 (by decide) ?_
            refine lv_iinc (v := (nI (i + 1))) (lv' := [(2, .int (nI (i + 1))), (1, .int (nI (k + 1))), (3, .int (kwc i)), (0, .ref h0)]) hx hb dX9_init_108 hl (k := 2) rfl (nI_1 _) (by decide) rfl (fun ls hl => ?_)
            refine lv_goto (tgt := 52) hx hb dX9_init_111 (by decide) ?_
            exact ih (i + 1) (k + 1) g H locs ls (by omega) (by omega) (by rw [hsp, sp, if_pos c20]) (by intro j; rw [kc_p c20]; exact hg9 j) (by omega) (hP.sub [0, 1, 2, 3, 4, 5] rfl) (hD.sub [0, 1, 2, 3, 4, 5] (by decide) rfl) hS (lv_sub hl [0, 1, 3] rfl)
  exact lp11 156 0 0 _ H locs ls (by omega) (by omega) rfl (fun _ => rfl) (by omega) hP hD hS hl
end
section
/-! worlds with a part that is not written out -/
theorem va_Pl {D : va_G} {ws R : va_W} {H : Heap} (h : va_P D vwCl (ws ++ R) H) : va_P D vwCl ws H := fun k q hq => h k q (by rw [List.getElem?_append_left (List.getElem?_eq_some_iff.mp hq).1]; exact hq)
theorem va_Pr {D : va_G} {ws R : va_W} {H : Heap} (h : va_P D vwCl (ws ++ R) H) : va_P D vwCl R H := fun k q hq => h (ws.length + k) q (by rw [List.getElem?_append_right (Nat.le_add_right _ _), Nat.add_sub_cancel_left]; exact hq)
theorem va_Pap {D : va_G} {ws R : va_W} {H : Heap} (h1 : va_P D vwCl ws H) (h2 : va_P D vwCl R H) : va_P D vwCl (ws ++ R) H := by
  intro k q hq
  rcases Nat.lt_or_ge k ws.length with h | h
  · rw [List.getElem?_append_left h] at hq
    exact h1 k q hq
  · rw [List.getElem?_append_right h] at hq
    exact h2 _ q hq
theorem va_Dl {A : Nat → Prop} {ws R : va_W} (h : va_D A (ws ++ R)) : va_D A ws := by
  have e : ∀ (k : Nat) (q : Nat × va_E), ws[k]? = some q → (ws ++ R)[k]? = some q := fun k q hq => by rw [List.getElem?_append_left (List.getElem?_eq_some_iff.mp hq).1]; exact hq
  exact ⟨fun i j p q h1 h2 z => h.1 i j p q (e i p h1) (e j q h2) z, fun k q hq => h.2 k q (e k q hq)⟩
theorem va_Dr {A : Nat → Prop} {ws R : va_W} (h : va_D A (ws ++ R)) : va_D A R := by
  have e : ∀ (k : Nat) (q : Nat × va_E), R[k]? = some q → (ws ++ R)[ws.length + k]? = some q := fun k q hq => by rw [List.getElem?_append_right (Nat.le_add_right _ _), Nat.add_sub_cancel_left]; exact hq
  exact ⟨fun i j p q h1 h2 z => Nat.add_left_cancel (h.1 _ _ p q (e i p h1) (e j q h2) z), fun k q hq => h.2 _ q (e k q hq)⟩
theorem dj_ap {A : Nat → Prop} {ws R : va_W} (h : va_D A (ws ++ R)) : dj ws R := by
  intro i j p q h1 h2 z
  have l := (List.getElem?_eq_some_iff.mp h1).1
  have := h.1 i (ws.length + j) p q (by rw [List.getElem?_append_left l]; exact h1) (by rw [List.getElem?_append_right (Nat.le_add_right _ _), Nat.add_sub_cancel_left]; exact h2) z
  omega
theorem va_Dap {A : Nat → Prop} {ws R : va_W} (h1 : va_D A ws) (h2 : va_D A R) (hd : dj ws R) : va_D A (ws ++ R) := by
  have c : ∀ (k : Nat) (q : Nat × va_E), (ws ++ R)[k]? = some q → (k < ws.length ∧ ws[k]? = some q) ∨ (ws.length ≤ k ∧ R[k - ws.length]? = some q) := by
    intro k q hq
    rcases Nat.lt_or_ge k ws.length with h | h
    · rw [List.getElem?_append_left h] at hq
      exact Or.inl ⟨h, hq⟩
    · rw [List.getElem?_append_right h] at hq
      exact Or.inr ⟨h, hq⟩
  refine ⟨fun i j p q a1 a2 z => ?_, fun k q hq => ?_⟩
  · rcases c i p a1 with ⟨b1, b2⟩ | ⟨b1, b2⟩ <;> rcases c j q a2 with ⟨d1, d2⟩ | ⟨d1, d2⟩
    · exact h1.1 i j p q b2 d2 z
    · exact absurd z (hd i _ p q b2 d2)
    · exact absurd z.symm (hd j _ q p d2 b2)
    · have := h2.1 _ _ p q b2 d2 z
      omega
  · rcases c k q hq with ⟨_, b⟩ | ⟨_, b⟩
    · exact h1.2 k q b
    · exact h2.2 _ q b
theorem dj_app {w1 w2 R : va_W} (h1 : dj w1 R) (h2 : dj w2 R) : dj (w1 ++ w2) R := by
  intro i j p q a1 a2
  rcases Nat.lt_or_ge i w1.length with h | h
  · rw [List.getElem?_append_left h] at a1
    exact h1 i j p q a1 a2
  · rw [List.getElem?_append_right h] at a1
    exact h2 _ j p q a1 a2
theorem dj_l {w1 w2 R : va_W} (h : dj (w1 ++ w2) R) : dj w1 R := fun i j p q a1 a2 => h i j p q (by rw [List.getElem?_append_left (List.getElem?_eq_some_iff.mp a1).1]; exact a1) a2
theorem dj_r {w1 w2 R : va_W} (h : dj (w1 ++ w2) R) : dj w2 R := fun i j p q a1 a2 => h (w1.length + i) j p q (by rw [List.getElem?_append_right (Nat.le_add_right _ _), Nat.add_sub_cancel_left]; exact a1) a2
theorem sub_in {e wc : va_W} {isC : List Nat} (hC : isC.map (fun i => e[i]?) = wc.map some) {k : Nat} {p : Nat × va_E} (h : wc[k]? = some p) : ∃ i : Nat, e[i]? = some p := by
  have h1 : (isC.map (fun i => e[i]?))[k]? = some (some p) := by rw [hC, List.getElem?_map, h]; rfl
  rw [List.getElem?_map] at h1
  cases hi : isC[k]? with
  | none => rw [hi] at h1; cases h1
  | some i => rw [hi] at h1; exact ⟨i, Option.some.inj h1⟩
theorem dj_sub {e wc R : va_W} (isC : List Nat) (hC : isC.map (fun i => e[i]?) = wc.map some) (h : dj e R) : dj wc R := by
  intro i j p q a1 a2
  obtain ⟨k, hk⟩ := sub_in hC a1
  exact h k j p q hk a2
theorem va_Prot {D : va_G} {e R : va_W} {x : Nat × va_E} {H : Heap} (h : va_P D vwCl ((e ++ R) ++ [x]) H) : va_P D vwCl ((e ++ [x]) ++ R) H := va_Pap (va_Pap (va_Pl (va_Pl h)) (va_Pr h)) (va_Pr (va_Pl h))
theorem va_Drot {A : Nat → Prop} {e R : va_W} {x : Nat × va_E} (h : va_D A ((e ++ R) ++ [x])) : va_D A ((e ++ [x]) ++ R) :=
  va_Dap (va_Dap (va_Dl (va_Dl h)) (va_Dr h) (dj_l (dj_ap h))) (va_Dr (va_Dl h)) (dj_app (dj_ap (va_Dl h)) (dj_r (dj_ap h)).sy)
theorem va_Kl {D : va_G} {t R : List (ClassId × FieldType)} {s : State} (h : va_K D vwCl (t ++ R) s) : va_K D vwCl t s := ⟨h.1, fun k q hq => h.2 k q (by rw [List.getElem?_append_left (List.getElem?_eq_some_iff.mp hq).1]; exact hq)⟩
theorem va_Kr {D : va_G} {t R : List (ClassId × FieldType)} {s : State} (h : va_K D vwCl (t ++ R) s) : va_K D vwCl R s := ⟨h.1, fun k q hq => h.2 (t.length + k) q (by rw [List.getElem?_append_right (Nat.le_add_right _ _), Nat.add_sub_cancel_left]; exact hq)⟩
section GR
variable {p : Program} {l : Launch} {e : Env} {R : Room} {s : State} {m : MethodId} {args : Array Value} {below : List Frame} {meth : Method} {c : Code} {H : Heap} {locs : List Loc} {cells slots : Nat} {Q : State → Prop}
variable {pc : Nat} {ls : Array Slot} {st0 rest : List Value} {D : va_G} {A : Nat → Prop} {te tr RT : List (ClassId × FieldType)} {we wc wr RW : va_W}
theorem gR_void {S : Type} {post : S → Prop} {wq : S → va_W} {tq : S → List (ClassId × FieldType)} {mc ms : Nat} {av : Array Value} (hr : va_Run p l e R s m args below meth c H locs cells slots mc ms (F0 m pc ls st0) rest (va_Qv post (fun u t => gq D (va_A wc H.size) (wq u) (tq u) t) (va_A wc H.size) av) (va_A wc H.size))
    (hP : va_P D vwCl (we ++ RW) H) (hD : va_D A (we ++ RW)) (hK : va_K D vwCl (te ++ RT) s) (hS : va_S A s.heap H locs) (hA : ∀ q, s.heap.size ≤ q → A q) (isC isR isU : List Nat) (hC : isC.map (fun i => we[i]?) = wc.map some) (hR : isR.map (fun i => we[i]?) = wr.map some) (hn : va_nd isR = true) (hdis : ∀ i ∈ isR, i ∉ isC) (hU : isU.filterMap (fun i => te[i]?) = tr)
    (kk : ∀ (u : S) (H1 : Heap) (locs1 : List Loc), post u → va_P D vwCl ((wr ++ wq u) ++ RW) H1 → va_D A ((wr ++ wq u) ++ RW) → va_K D vwCl ((tr ++ tq u) ++ RT) s → va_S A s.heap H1 locs1 → W p l e R s m args below meth c H1 locs1 (cells + mc) (slots + ms) Q (F0 m (pc + 3) ls rest)) : W p l e R s m args below meth c H locs cells slots Q (F0 m pc ls st0) := by
  have hPe := va_Pl hP
  have hDe := va_Dl hD
  have hd := dj_ap hD
  have hF := va_free (wc := wc) hDe hS hA isC hC
  have hdc : dj wc RW := dj_sub isC hC hd
  refine va_callv hr hS (fun q _ h => hF q h) hF (fun u t H1 locs ht hvm hw hB hz1 hk1 hS => ?_)
  obtain ⟨hP1, hK1, hD1⟩ := hB
  rw [ht] at hP1
  obtain ⟨hP2, hD2⟩ := va_join hPe hDe isC isR hC hR hn hdis hk1 hF hP1 hD1
  exact kk u H1 locs hw (va_Pap hP2 (va_side (va_Pr hP) hdc hk1)) (va_Dap hD2 (va_Dr hD) (dj_app (dj_sub isR hR hd) (dj_side (va_Pr hP) hdc hD1))) ((((va_Kl hK).sub isU hU).app (va_K.moved hvm.symm hK1)).app (va_Kr hK)) hS
end GR
def RC {β : Type} (blk : β → va_W) (d : Nat → β) : Nat → va_W
  | 0 => []
  | n + 1 => blk (d n) ++ RC blk d n
theorem RC_ext {β : Type} {blk : β → va_W} {d d' : Nat → β} : ∀ n, (∀ k, k < n → d' k = d k) → RC blk d' n = RC blk d n
  | 0, _ => rfl
  | n + 1, h => by
    show blk (d' n) ++ RC blk d' n = blk (d n) ++ RC blk d n
    rw [h n (by omega), RC_ext n (fun k hk => h k (by omega))]
theorem RC_up {β : Type} {blk : β → va_W} {d : Nat → β} {x : β} (n : Nat) : RC blk (fun j => if j = n then x else d j) (n + 1) = blk x ++ RC blk d n := by
  show blk (if n = n then x else d n) ++ RC blk (fun j => if j = n then x else d j) n = _
  rw [if_pos rfl, RC_ext n (fun k hk => if_neg (by omega))]
def RTy {β : Type} (t : β → List (ClassId × FieldType)) (d : Nat → β) : Nat → List (ClassId × FieldType)
  | 0 => []
  | n + 1 => t (d n) ++ RTy t d n
theorem RTy_ext {β : Type} {t : β → List (ClassId × FieldType)} {d d' : Nat → β} : ∀ n, (∀ k, k < n → d' k = d k) → RTy t d' n = RTy t d n
  | 0, _ => rfl
  | n + 1, h => by
    show t (d' n) ++ RTy t d' n = t (d n) ++ RTy t d n
    rw [h n (by omega), RTy_ext n (fun k hk => h k (by omega))]
theorem RTy_up {β : Type} {t : β → List (ClassId × FieldType)} {d : Nat → β} {x : β} (n : Nat) : RTy t (fun j => if j = n then x else d j) (n + 1) = t x ++ RTy t d n := by
  show t (if n = n then x else d n) ++ RTy t (fun j => if j = n then x else d j) n = _
  rw [if_pos rfl, RTy_ext n (fun k hk => if_neg (by omega))]
theorem up_fn {β : Type} {fst : β → Nat} {d : Nat → β} {x : β} {n : Nat} : va_up (fun q => if q < n then some (fst (d q)) else none) n (some (fst x)) = (fun q => if q < n + 1 then some (fst (if q = n then x else d q)) else none) := by
  funext q
  show (if q = n then some (fst x) else if q < n then some (fst (d q)) else none) = _
  by_cases h : q = n
  · rw [if_pos h, if_pos (by omega), if_pos h]
  · rw [if_neg h]
    by_cases h2 : q < n
    · rw [if_pos h2, if_pos (by omega), if_neg h]
    · rw [if_neg h2, if_neg (by omega)]
theorem RC_get {β : Type} {blk : β → va_W} {d : Nat → β} {m : Nat} (hm : ∀ x, (blk x).length = m) : ∀ (n i t : Nat) (rest : va_W), i < n → t < m → (RC blk d n ++ rest)[m * (n - 1 - i) + t]? = (blk (d i))[t]?
  | 0, i, t, rest, h, _ => absurd h (Nat.not_lt_zero _)
  | n + 1, i, t, rest, h, ht => by
    show ((blk (d n) ++ RC blk d n) ++ rest)[_]? = _
    rw [List.append_assoc]
    by_cases e : i = n
    · subst e
      rw [show m * (i + 1 - 1 - i) + t = t from by rw [show i + 1 - 1 - i = 0 from by omega]; omega, List.getElem?_append_left (by rw [hm]; exact ht)]
    · have ih := RC_get (d := d) hm n i t rest (by omega) ht
      have e2 : m * (n + 1 - 1 - i) + t = m + (m * (n - 1 - i) + t) := by
        rw [show n + 1 - 1 - i = (n - 1 - i) + 1 from by omega, Nat.mul_succ]
        omega
      rw [e2, List.getElem?_append_right (by rw [hm]; omega), hm, Nat.add_sub_cancel_left]
      exact ih
theorem RC_len {β : Type} {blk : β → va_W} {d : Nat → β} {m : Nat} (hm : ∀ x, (blk x).length = m) : ∀ n, (RC blk d n).length = m * n
  | 0 => rfl
  | n + 1 => by
    show (blk (d n) ++ RC blk d n).length = _
    rw [List.length_append, hm, RC_len hm n, Nat.mul_succ, Nat.add_comm]
abbrev CU : Type := Nat × Nat × Nat × Nat × Nat × ClassId × ClassId × ClassId × ClassId
def cblk (x : CU) : va_W := [(x.1, .inr (3, [.ref x.2.1, .ref x.2.2.1, .ref x.2.2.2.1, .ref x.2.2.2.2.1, .int 0, .int 0, .int 0, .int 0, .int 0, .int 0, .int 0, .int 0, .int 0])), (x.2.1, .inl (x.2.2.2.2.2.1, 8, .inl (fun _ => 0))), (x.2.2.1, .inl (x.2.2.2.2.2.2.1, 8, .inl (fun _ => 0))), (x.2.2.2.1, .inl (x.2.2.2.2.2.2.2.1, 8, .inl (fun _ => 0))), (x.2.2.2.2.1, .inl (x.2.2.2.2.2.2.2.2, 20, .inl (fun _ => 0)))]
def cty (x : CU) : List (ClassId × FieldType) := [(x.2.2.2.2.2.1, .int), (x.2.2.2.2.2.2.1, .int), (x.2.2.2.2.2.2.2.1, .int), (x.2.2.2.2.2.2.2.2, .int)]
def wblk (x : Nat) : va_W := [(x, .inr (10, [.int 0, .int 0, .int 0, .int 0, .int 0]))]
abbrev BU : Type := (Nat → Nat) × (Nat → ClassId) × (Nat → CU) × (Nat → Nat)
def be17 (h : Nat) (u : BU) : va_W := [(h, .inr (0, [.ref (u.1 1), .ref (u.1 2), .ref (u.1 3), .ref (u.1 4), .ref (u.1 5), .ref (u.1 11), .ref (u.1 12), .ref (u.1 13), .ref (u.1 14), .ref (u.1 15), .ref (u.1 16), .int 0, .int 0])), (u.1 1, .inr (6, [.ref (u.1 6), .int 0])), (u.1 2, .inr (6, [.ref (u.1 7), .int 0])), (u.1 3, .inr (6, [.ref (u.1 8), .int 0])), (u.1 4, .inr (6, [.ref (u.1 9), .int 0])), (u.1 5, .inr (6, [.ref (u.1 10), .int 0])), (u.1 6, .inl (u.2.1 6, 24, .inr (.inl (fun _ => 0)))), (u.1 7, .inl (u.2.1 7, 12, .inr (.inl (fun _ => 0)))), (u.1 8, .inl (u.2.1 8, 24, .inr (.inl (fun _ => 0)))), (u.1 9, .inl (u.2.1 9, 20, .inr (.inl (fun _ => 0)))), (u.1 10, .inl (u.2.1 10, 20, .inr (.inl (fun _ => 0)))), (u.1 11, .inl (u.2.1 11, 24, .inl (fun _ => 0))), (u.1 12, .inl (u.2.1 12, 12, .inl (fun _ => 0))), (u.1 13, .inl (u.2.1 13, 24, .inr (.inr (.inr (.inr (fun q => if q < 24 then some (u.2.2.1 q).1 else none)))))), (u.1 14, .inl (u.2.1 14, 12, .inr (.inr (.inr (.inr (fun q => if q < 12 then some (u.2.2.2 q) else none)))))), (u.1 15, .inl (u.2.1 15, 12, .inl (fun _ => 0))), (u.1 16, .inl (u.2.1 16, 8200, .inl (fun _ => 0)))]
def bt11 (u : BU) : List (ClassId × FieldType) := [(u.2.1 6, .long), (u.2.1 7, .long), (u.2.1 8, .long), (u.2.1 9, .long), (u.2.1 10, .long), (u.2.1 11, .int), (u.2.1 12, .int), (u.2.1 13, .object RX3), (u.2.1 14, .object RX10), (u.2.1 15, .int), (u.2.1 16, .int)]
def bkw (h : Nat) (u : BU) : va_W := be17 h u ++ (RC wblk u.2.2.2 12 ++ RC cblk u.2.2.1 24)
def bkt (u : BU) : List (ClassId × FieldType) := bt11 u ++ RTy cty u.2.2.1 24

theorem w472 : Cond.methodLink RX0 3 objectInit ∈ GW := gw_k tk9_2 77 (by decide +kernel) rfl
theorem nfX6 : ∀ j, j < 2 → defaultValue (tyX6 j) = vp_V [.null, .int 0] j := by decide +kernel
theorem w473 : Cond.classLink RX0 9 "WiringHouse$Names" ∈ GW := gw_k tk9_2 78 (by decide +kernel) rfl
theorem w474 : Cond.instantiable RX6 2 ∈ GW := gw_k tk9_2 79 (by decide +kernel) rfl
theorem w477 : Cond.code yX6_init cX6_init 2 none ∈ GW := gw_k tk9_2 82 (rfl) rfl
theorem hdS_yX6_init : yX6_init.cls ≠ "java/lang/invoke/MethodHandle" ∧ yX6_init.cls ≠ "java/lang/invoke/VarHandle" ∧ (parseMethodDescriptor yX6_init.desc).map (fun d => d.parameters.length) = some 1 := by decide +kernel
theorem w475 : Cond.methodLink RX0 11 yX6_init ∈ GW := gw_k tk9_2 80 (by decide +kernel) rfl
theorem w476 : Cond.instanceMethod yX6_init ∈ GW := gw_k tk9_2 81 (by decide +kernel) rfl
theorem w608 : Cond.fieldLink RX0 32 "WiringHouse$Book" "typeUnder" "[I" ∈ GW := gw_k tk9_2 213 (by decide +kernel) rfl
theorem w490 : Cond.classLink RX0 39 "WiringHouse$Component" ∈ GW := gw_k tk9_2 95 (by decide +kernel) rfl
theorem w492 : Cond.classLink RX0 45 "WiringHouse$Wrap" ∈ GW := gw_k tk9_2 97 (by decide +kernel) rfl
theorem nfX10 : ∀ j, j < 5 → defaultValue (tyX10 j) = vp_V [.int 0, .int 0, .int 0, .int 0, .int 0] j := by decide +kernel
theorem w570 : Cond.instantiable RX10 5 ∈ GW := gw_k tk9_2 175 (by decide +kernel) rfl
theorem w170 : Cond.initialized RX10 ∈ GW := gw_k tk9_1 15 (by decide +kernel) rfl
theorem hdS_yX10_init : yX10_init.cls ≠ "java/lang/invoke/MethodHandle" ∧ yX10_init.cls ≠ "java/lang/invoke/VarHandle" ∧ (parseMethodDescriptor yX10_init.desc).map (fun d => d.parameters.length) = some 0 := by decide +kernel
theorem w572 : Cond.instanceMethod yX10_init ∈ GW := gw_k tk9_2 177 (by decide +kernel) rfl
theorem w573 : Cond.code yX10_init cX10_init 1 none ∈ GW := gw_k tk9_2 178 (rfl) rfl
theorem n571 : lw_tbl[571]? = some (Cond.methodLinkNest RX0 58 yX10_init "WiringHouse") := la9 (n := 155) (i := 416) lz9 (la9 (n := 240) (i := 176) ln9_1 (lb9 (i := 176) (by decide +kernel)))
theorem nfX3 : ∀ j, j < 13 → defaultValue (tyX3 j) = vp_V [.null, .null, .null, .null, .int 0, .int 0, .int 0, .int 0, .int 0, .int 0, .int 0, .int 0, .int 0] j := by decide +kernel
theorem w494 : Cond.instantiable RX3 13 ∈ GW := gw_k tk9_2 99 (by decide +kernel) rfl
theorem hdS_yX3_init : yX3_init.cls ≠ "java/lang/invoke/MethodHandle" ∧ yX3_init.cls ≠ "java/lang/invoke/VarHandle" ∧ (parseMethodDescriptor yX3_init.desc).map (fun d => d.parameters.length) = some 0 := by decide +kernel
theorem w496 : Cond.instanceMethod yX3_init ∈ GW := gw_k tk9_2 101 (by decide +kernel) rfl
theorem w497 : Cond.code yX3_init cX3_init 1 none ∈ GW := gw_k tk9_2 102 (rfl) rfl
theorem n495 : lw_tbl[495]? = some (Cond.methodLinkNest RX0 57 yX3_init "WiringHouse") := la9 (n := 155) (i := 340) lz9 (la9 (n := 240) (i := 100) ln9_1 (lb9 (i := 100) (by decide +kernel)))
theorem dk9_dX0_init_0_0 : dOk cX0_init [(0, .aload_n 0, 1), (1, .invokespecial 3, 3), (4, .aload_n 0, 1), (5, .new 9, 3), (8, .dup, 1), (9, .bipush 24, 2), (11, .invokespecial 11, 3), (14, .putfield 14, 3), (17, .aload_n 0, 1), (18, .new 9, 3), (21, .dup, 1), (22, .bipush 12, 2), (24, .invokespecial 11, 3), (27, .putfield 20, 3), (30, .aload_n 0, 1), (31, .new 9, 3), (34, .dup, 1), (35, .bipush 24, 2), (37, .invokespecial 11, 3), (40, .putfield 23, 3), (43, .aload_n 0, 1), (44, .new 9, 3), (47, .dup, 1), (48, .bipush 20, 2)] = true ∧ dOk cX0_init [(50, .invokespecial 11, 3), (53, .putfield 26, 3), (56, .aload_n 0, 1), (57, .new 9, 3), (60, .dup, 1), (61, .bipush 20, 2), (63, .invokespecial 11, 3), (66, .putfield 29, 3), (69, .aload_n 0, 1), (70, .bipush 24, 2), (72, .newarray .int, 2), (74, .putfield 32, 3), (77, .aload_n 0, 1), (78, .bipush 12, 2), (80, .newarray .int, 2), (82, .putfield 36, 3), (85, .aload_n 0, 1), (86, .bipush 24, 2), (88, .anewarray 39, 3), (91, .putfield 41, 3), (94, .aload_n 0, 1), (95, .bipush 12, 2), (97, .anewarray 45, 3), (100, .putfield 47, 3)] = true ∧ dOk cX0_init [(103, .aload_n 0, 1), (104, .bipush 12, 2), (106, .newarray .int, 2), (108, .putfield 51, 3), (111, .aload_n 0, 1), (112, .sipush 8200, 3), (115, .newarray .int, 2), (117, .putfield 54, 3), (120, .iconst 0, 1), (121, .istore_n 1, 1), (149, .iload_n 1, 1), (150, .bipush 12, 2), (152, .if_icmp .ge 22, 3), (174, .return_, 1), (155, .aload_n 0, 1), (156, .getfield 47, 3), (159, .iload_n 1, 1), (160, .new 45, 3), (163, .dup, 1), (164, .invokespecial 58, 3), (167, .aastore, 1), (168, .iinc 1 1, 3), (171, .goto (-22), 3), (122, .iload_n 1, 1)] = true ∧ dOk cX0_init [(123, .bipush 24, 2), (125, .if_icmp .ge 22, 3), (147, .iconst 0, 1), (148, .istore_n 1, 1), (128, .aload_n 0, 1), (129, .getfield 41, 3), (132, .iload_n 1, 1), (133, .new 39, 3), (136, .dup, 1), (137, .invokespecial 57, 3), (140, .aastore, 1), (141, .iinc 1 1, 3), (144, .goto (-22), 3)] = true := by decide +kernel
theorem dX0_init_0 : decode cX0_init 0 = .ok (.aload_n 0, 1) := dr9 dk9_dX0_init_0_0.1 0 (0, .aload_n 0, 1) rfl
theorem dX0_init_1 : decode cX0_init 1 = .ok (.invokespecial 3, 3) := dr9 dk9_dX0_init_0_0.1 1 (1, .invokespecial 3, 3) rfl
theorem dX0_init_4 : decode cX0_init 4 = .ok (.aload_n 0, 1) := dr9 dk9_dX0_init_0_0.1 2 (4, .aload_n 0, 1) rfl
theorem dX0_init_5 : decode cX0_init 5 = .ok (.new 9, 3) := dr9 dk9_dX0_init_0_0.1 3 (5, .new 9, 3) rfl
theorem dX0_init_8 : decode cX0_init 8 = .ok (.dup, 1) := dr9 dk9_dX0_init_0_0.1 4 (8, .dup, 1) rfl
theorem dX0_init_9 : decode cX0_init 9 = .ok (.bipush 24, 2) := dr9 dk9_dX0_init_0_0.1 5 (9, .bipush 24, 2) rfl
theorem dX0_init_11 : decode cX0_init 11 = .ok (.invokespecial 11, 3) := dr9 dk9_dX0_init_0_0.1 6 (11, .invokespecial 11, 3) rfl
theorem dX0_init_14 : decode cX0_init 14 = .ok (.putfield 14, 3) := dr9 dk9_dX0_init_0_0.1 7 (14, .putfield 14, 3) rfl
theorem dX0_init_17 : decode cX0_init 17 = .ok (.aload_n 0, 1) := dr9 dk9_dX0_init_0_0.1 8 (17, .aload_n 0, 1) rfl
theorem dX0_init_18 : decode cX0_init 18 = .ok (.new 9, 3) := dr9 dk9_dX0_init_0_0.1 9 (18, .new 9, 3) rfl
theorem dX0_init_21 : decode cX0_init 21 = .ok (.dup, 1) := dr9 dk9_dX0_init_0_0.1 10 (21, .dup, 1) rfl
theorem dX0_init_22 : decode cX0_init 22 = .ok (.bipush 12, 2) := dr9 dk9_dX0_init_0_0.1 11 (22, .bipush 12, 2) rfl
theorem dX0_init_24 : decode cX0_init 24 = .ok (.invokespecial 11, 3) := dr9 dk9_dX0_init_0_0.1 12 (24, .invokespecial 11, 3) rfl
theorem dX0_init_27 : decode cX0_init 27 = .ok (.putfield 20, 3) := dr9 dk9_dX0_init_0_0.1 13 (27, .putfield 20, 3) rfl
theorem dX0_init_30 : decode cX0_init 30 = .ok (.aload_n 0, 1) := dr9 dk9_dX0_init_0_0.1 14 (30, .aload_n 0, 1) rfl
theorem dX0_init_31 : decode cX0_init 31 = .ok (.new 9, 3) := dr9 dk9_dX0_init_0_0.1 15 (31, .new 9, 3) rfl
theorem dX0_init_34 : decode cX0_init 34 = .ok (.dup, 1) := dr9 dk9_dX0_init_0_0.1 16 (34, .dup, 1) rfl
theorem dX0_init_35 : decode cX0_init 35 = .ok (.bipush 24, 2) := dr9 dk9_dX0_init_0_0.1 17 (35, .bipush 24, 2) rfl
theorem dX0_init_37 : decode cX0_init 37 = .ok (.invokespecial 11, 3) := dr9 dk9_dX0_init_0_0.1 18 (37, .invokespecial 11, 3) rfl
theorem dX0_init_40 : decode cX0_init 40 = .ok (.putfield 23, 3) := dr9 dk9_dX0_init_0_0.1 19 (40, .putfield 23, 3) rfl
theorem dX0_init_43 : decode cX0_init 43 = .ok (.aload_n 0, 1) := dr9 dk9_dX0_init_0_0.1 20 (43, .aload_n 0, 1) rfl
theorem dX0_init_44 : decode cX0_init 44 = .ok (.new 9, 3) := dr9 dk9_dX0_init_0_0.1 21 (44, .new 9, 3) rfl
theorem dX0_init_47 : decode cX0_init 47 = .ok (.dup, 1) := dr9 dk9_dX0_init_0_0.1 22 (47, .dup, 1) rfl
theorem dX0_init_48 : decode cX0_init 48 = .ok (.bipush 20, 2) := dr9 dk9_dX0_init_0_0.1 23 (48, .bipush 20, 2) rfl
theorem dX0_init_50 : decode cX0_init 50 = .ok (.invokespecial 11, 3) := dr9 dk9_dX0_init_0_0.2.1 0 (50, .invokespecial 11, 3) rfl
theorem dX0_init_53 : decode cX0_init 53 = .ok (.putfield 26, 3) := dr9 dk9_dX0_init_0_0.2.1 1 (53, .putfield 26, 3) rfl
theorem dX0_init_56 : decode cX0_init 56 = .ok (.aload_n 0, 1) := dr9 dk9_dX0_init_0_0.2.1 2 (56, .aload_n 0, 1) rfl
theorem dX0_init_57 : decode cX0_init 57 = .ok (.new 9, 3) := dr9 dk9_dX0_init_0_0.2.1 3 (57, .new 9, 3) rfl
theorem dX0_init_60 : decode cX0_init 60 = .ok (.dup, 1) := dr9 dk9_dX0_init_0_0.2.1 4 (60, .dup, 1) rfl
theorem dX0_init_61 : decode cX0_init 61 = .ok (.bipush 20, 2) := dr9 dk9_dX0_init_0_0.2.1 5 (61, .bipush 20, 2) rfl
theorem dX0_init_63 : decode cX0_init 63 = .ok (.invokespecial 11, 3) := dr9 dk9_dX0_init_0_0.2.1 6 (63, .invokespecial 11, 3) rfl
theorem dX0_init_66 : decode cX0_init 66 = .ok (.putfield 29, 3) := dr9 dk9_dX0_init_0_0.2.1 7 (66, .putfield 29, 3) rfl
theorem dX0_init_69 : decode cX0_init 69 = .ok (.aload_n 0, 1) := dr9 dk9_dX0_init_0_0.2.1 8 (69, .aload_n 0, 1) rfl
theorem dX0_init_70 : decode cX0_init 70 = .ok (.bipush 24, 2) := dr9 dk9_dX0_init_0_0.2.1 9 (70, .bipush 24, 2) rfl
theorem dX0_init_72 : decode cX0_init 72 = .ok (.newarray .int, 2) := dr9 dk9_dX0_init_0_0.2.1 10 (72, .newarray .int, 2) rfl
theorem dX0_init_74 : decode cX0_init 74 = .ok (.putfield 32, 3) := dr9 dk9_dX0_init_0_0.2.1 11 (74, .putfield 32, 3) rfl
theorem dX0_init_77 : decode cX0_init 77 = .ok (.aload_n 0, 1) := dr9 dk9_dX0_init_0_0.2.1 12 (77, .aload_n 0, 1) rfl
theorem dX0_init_78 : decode cX0_init 78 = .ok (.bipush 12, 2) := dr9 dk9_dX0_init_0_0.2.1 13 (78, .bipush 12, 2) rfl
theorem dX0_init_80 : decode cX0_init 80 = .ok (.newarray .int, 2) := dr9 dk9_dX0_init_0_0.2.1 14 (80, .newarray .int, 2) rfl
theorem dX0_init_82 : decode cX0_init 82 = .ok (.putfield 36, 3) := dr9 dk9_dX0_init_0_0.2.1 15 (82, .putfield 36, 3) rfl
theorem dX0_init_85 : decode cX0_init 85 = .ok (.aload_n 0, 1) := dr9 dk9_dX0_init_0_0.2.1 16 (85, .aload_n 0, 1) rfl
theorem dX0_init_86 : decode cX0_init 86 = .ok (.bipush 24, 2) := dr9 dk9_dX0_init_0_0.2.1 17 (86, .bipush 24, 2) rfl
theorem dX0_init_88 : decode cX0_init 88 = .ok (.anewarray 39, 3) := dr9 dk9_dX0_init_0_0.2.1 18 (88, .anewarray 39, 3) rfl
theorem dX0_init_91 : decode cX0_init 91 = .ok (.putfield 41, 3) := dr9 dk9_dX0_init_0_0.2.1 19 (91, .putfield 41, 3) rfl
theorem dX0_init_94 : decode cX0_init 94 = .ok (.aload_n 0, 1) := dr9 dk9_dX0_init_0_0.2.1 20 (94, .aload_n 0, 1) rfl
theorem dX0_init_95 : decode cX0_init 95 = .ok (.bipush 12, 2) := dr9 dk9_dX0_init_0_0.2.1 21 (95, .bipush 12, 2) rfl
theorem dX0_init_97 : decode cX0_init 97 = .ok (.anewarray 45, 3) := dr9 dk9_dX0_init_0_0.2.1 22 (97, .anewarray 45, 3) rfl
theorem dX0_init_100 : decode cX0_init 100 = .ok (.putfield 47, 3) := dr9 dk9_dX0_init_0_0.2.1 23 (100, .putfield 47, 3) rfl
theorem dX0_init_103 : decode cX0_init 103 = .ok (.aload_n 0, 1) := dr9 dk9_dX0_init_0_0.2.2.1 0 (103, .aload_n 0, 1) rfl
theorem dX0_init_104 : decode cX0_init 104 = .ok (.bipush 12, 2) := dr9 dk9_dX0_init_0_0.2.2.1 1 (104, .bipush 12, 2) rfl
theorem dX0_init_106 : decode cX0_init 106 = .ok (.newarray .int, 2) := dr9 dk9_dX0_init_0_0.2.2.1 2 (106, .newarray .int, 2) rfl
theorem dX0_init_108 : decode cX0_init 108 = .ok (.putfield 51, 3) := dr9 dk9_dX0_init_0_0.2.2.1 3 (108, .putfield 51, 3) rfl
theorem dX0_init_111 : decode cX0_init 111 = .ok (.aload_n 0, 1) := dr9 dk9_dX0_init_0_0.2.2.1 4 (111, .aload_n 0, 1) rfl
theorem dX0_init_112 : decode cX0_init 112 = .ok (.sipush 8200, 3) := dr9 dk9_dX0_init_0_0.2.2.1 5 (112, .sipush 8200, 3) rfl
theorem dX0_init_115 : decode cX0_init 115 = .ok (.newarray .int, 2) := dr9 dk9_dX0_init_0_0.2.2.1 6 (115, .newarray .int, 2) rfl
theorem dX0_init_117 : decode cX0_init 117 = .ok (.putfield 54, 3) := dr9 dk9_dX0_init_0_0.2.2.1 7 (117, .putfield 54, 3) rfl
theorem dX0_init_120 : decode cX0_init 120 = .ok (.iconst 0, 1) := dr9 dk9_dX0_init_0_0.2.2.1 8 (120, .iconst 0, 1) rfl
theorem dX0_init_121 : decode cX0_init 121 = .ok (.istore_n 1, 1) := dr9 dk9_dX0_init_0_0.2.2.1 9 (121, .istore_n 1, 1) rfl
theorem dX0_init_149 : decode cX0_init 149 = .ok (.iload_n 1, 1) := dr9 dk9_dX0_init_0_0.2.2.1 10 (149, .iload_n 1, 1) rfl
theorem dX0_init_150 : decode cX0_init 150 = .ok (.bipush 12, 2) := dr9 dk9_dX0_init_0_0.2.2.1 11 (150, .bipush 12, 2) rfl
theorem dX0_init_152 : decode cX0_init 152 = .ok (.if_icmp .ge 22, 3) := dr9 dk9_dX0_init_0_0.2.2.1 12 (152, .if_icmp .ge 22, 3) rfl
theorem dX0_init_174 : decode cX0_init 174 = .ok (.return_, 1) := dr9 dk9_dX0_init_0_0.2.2.1 13 (174, .return_, 1) rfl
theorem dX0_init_155 : decode cX0_init 155 = .ok (.aload_n 0, 1) := dr9 dk9_dX0_init_0_0.2.2.1 14 (155, .aload_n 0, 1) rfl
theorem dX0_init_156 : decode cX0_init 156 = .ok (.getfield 47, 3) := dr9 dk9_dX0_init_0_0.2.2.1 15 (156, .getfield 47, 3) rfl
theorem dX0_init_159 : decode cX0_init 159 = .ok (.iload_n 1, 1) := dr9 dk9_dX0_init_0_0.2.2.1 16 (159, .iload_n 1, 1) rfl
theorem dX0_init_160 : decode cX0_init 160 = .ok (.new 45, 3) := dr9 dk9_dX0_init_0_0.2.2.1 17 (160, .new 45, 3) rfl
theorem dX0_init_163 : decode cX0_init 163 = .ok (.dup, 1) := dr9 dk9_dX0_init_0_0.2.2.1 18 (163, .dup, 1) rfl
theorem dX0_init_164 : decode cX0_init 164 = .ok (.invokespecial 58, 3) := dr9 dk9_dX0_init_0_0.2.2.1 19 (164, .invokespecial 58, 3) rfl
theorem dX0_init_167 : decode cX0_init 167 = .ok (.aastore, 1) := dr9 dk9_dX0_init_0_0.2.2.1 20 (167, .aastore, 1) rfl
theorem dX0_init_168 : decode cX0_init 168 = .ok (.iinc 1 1, 3) := dr9 dk9_dX0_init_0_0.2.2.1 21 (168, .iinc 1 1, 3) rfl
theorem dX0_init_171 : decode cX0_init 171 = .ok (.goto (-22), 3) := dr9 dk9_dX0_init_0_0.2.2.1 22 (171, .goto (-22), 3) rfl
theorem dX0_init_122 : decode cX0_init 122 = .ok (.iload_n 1, 1) := dr9 dk9_dX0_init_0_0.2.2.1 23 (122, .iload_n 1, 1) rfl
theorem dX0_init_123 : decode cX0_init 123 = .ok (.bipush 24, 2) := dr9 dk9_dX0_init_0_0.2.2.2 0 (123, .bipush 24, 2) rfl
theorem dX0_init_125 : decode cX0_init 125 = .ok (.if_icmp .ge 22, 3) := dr9 dk9_dX0_init_0_0.2.2.2 1 (125, .if_icmp .ge 22, 3) rfl
theorem dX0_init_147 : decode cX0_init 147 = .ok (.iconst 0, 1) := dr9 dk9_dX0_init_0_0.2.2.2 2 (147, .iconst 0, 1) rfl
theorem dX0_init_148 : decode cX0_init 148 = .ok (.istore_n 1, 1) := dr9 dk9_dX0_init_0_0.2.2.2 3 (148, .istore_n 1, 1) rfl
theorem dX0_init_128 : decode cX0_init 128 = .ok (.aload_n 0, 1) := dr9 dk9_dX0_init_0_0.2.2.2 4 (128, .aload_n 0, 1) rfl
theorem dX0_init_129 : decode cX0_init 129 = .ok (.getfield 41, 3) := dr9 dk9_dX0_init_0_0.2.2.2 5 (129, .getfield 41, 3) rfl
theorem dX0_init_132 : decode cX0_init 132 = .ok (.iload_n 1, 1) := dr9 dk9_dX0_init_0_0.2.2.2 6 (132, .iload_n 1, 1) rfl
theorem dX0_init_133 : decode cX0_init 133 = .ok (.new 39, 3) := dr9 dk9_dX0_init_0_0.2.2.2 7 (133, .new 39, 3) rfl
theorem dX0_init_136 : decode cX0_init 136 = .ok (.dup, 1) := dr9 dk9_dX0_init_0_0.2.2.2 8 (136, .dup, 1) rfl
theorem dX0_init_137 : decode cX0_init 137 = .ok (.invokespecial 57, 3) := dr9 dk9_dX0_init_0_0.2.2.2 9 (137, .invokespecial 57, 3) rfl
theorem dX0_init_140 : decode cX0_init 140 = .ok (.aastore, 1) := dr9 dk9_dX0_init_0_0.2.2.2 10 (140, .aastore, 1) rfl
theorem dX0_init_141 : decode cX0_init 141 = .ok (.iinc 1 1, 3) := dr9 dk9_dX0_init_0_0.2.2.2 11 (141, .iinc 1 1, 3) rfl
theorem dX0_init_144 : decode cX0_init 144 = .ok (.goto (-22), 3) := dr9 dk9_dX0_init_0_0.2.2.2 12 (144, .goto (-22), 3) rfl
abbrev r_c_Book_init : Room := { frames := 2, cells := 148, slots := 9822, locals := 41 }
abbrev q_c_Book_init (D : va_G) (h0 : Nat) (A : Nat → Prop) : Array Value → State → Outcome → State → Prop := va_Qv (fun (_ : BU) => True) (fun u t => gq D A ((fun (u : BU) => bkw h0 u) u) ((fun (u : BU) => bkt u) u) t) A
set_option maxHeartbeats 4000000 in
set_option maxRecDepth 100000 in
theorem c_Book_init (l : Launch) (D : va_G) (ks : KS) (sz : Nat) (h0 : Nat) : Met l yX0_init (Cond.code yX0_init cX0_init 2 none :: GW) r_c_Book_init (va_Pc [.ref h0] (gp D ks [(h0, .inr (0, [.null, .null, .null, .null, .null, .null, .null, .null, .null, .null, .null, .int 0, .int 0]))] [] sz)) (q_c_Book_init D h0 (va_A [(h0, .inr (0, [.null, .null, .null, .null, .null, .null, .null, .null, .null, .null, .null, .int 0, .int 0]))] sz)) 148 9822 (va_A [(h0, .inr (0, [.null, .null, .null, .null, .null, .null, .null, .null, .null, .null, .null, .int 0, .int 0]))] sz) := by
  refine g_met (q_c_Book_init D h0) (by decide) (Nat.le_of_ble_eq_true rfl) ?_
  intro p e s m below meth c A ls H locs hx hb hr hml hown hg hlocks hin hnw hgk hP hK hD hS hA hl
  have hown : s.vm.findClass RX0 = some m.cls := hown
  have hin : meth.name = "<init>" := hin
  have hl : lv_has ls 2 [(0, .ref h0)] := hl
  refine lv_aload_n hx hb dX0_init_0 rfl (lv_at hl 0 rfl) ?_
  refine W.objInit hx hb hown (hg _ w472) (hg _ w188) (hg _ wobj) rfl (by rw [hml]; exact hl.1) rfl dX0_init_1 (Nat.le_of_ble_eq_true rfl) (Nat.le_of_ble_eq_true rfl) ?_
  refine W.eq (g2 := F0 m 4 ls []) rfl ?_
  refine lv_aload_n hx hb dX0_init_4 rfl (lv_at hl 0 rfl) ?_
  refine va_new (ci := 6) (fs := [.null, .int 0]) (C := RX6) (T := TX6) (N := 2) hx hb hg inX6 tyX6 tyX6_ok hown (hg _ w473) (hg _ w474) (hg _ w168) hK hP hD hS hA rfl nfX6 (Nat.le_of_ble_eq_true rfl) (Nat.le_of_ble_eq_true rfl) dX0_init_5 (fun q1 H hP hD hS => ?_)
  refine va_cv hP hD (ws' := [(h0, .inr (0, [.null, .null, .null, .null, .null, .null, .null, .null, .null, .null, .null, .int 0, .int 0])), (q1, .inr (6, [.null, .int 0]))]) rfl (fun hP hD => ?_)
  refine lv_dup hx hb dX0_init_8 rfl ?_
  refine lv_bipush (v := 24) hx hb dX0_init_9 (by decide) ?_
  refine g_void (wr := [(h0, .inr (0, [.null, .null, .null, .null, .null, .null, .null, .null, .null, .null, .null, .int 0, .int 0]))]) (tr := []) (g_runI (As := [.int 24]) (rest := [.ref q1, .ref h0]) (wc := [(q1, .inr (6, [.null, .int 0]))]) (tc := []) hx hb hml hown hg gw_self hP hD hK hS hA hnw hgk [1] [] (by decide) rfl rfl (c_Names_init24 l D ks H.size q1) w475 w476 w168 w477 rfl hdS_yX6_init ⟨Nat.le_of_ble_eq_true rfl, Nat.le_of_ble_eq_true rfl⟩ rfl hl.1 rfl (Nat.le_of_ble_eq_true rfl) dX0_init_11 ⟨Nat.le_of_ble_eq_true rfl, Nat.le_of_ble_eq_true rfl⟩) hP hD hK hS hA [1] [0] [] rfl rfl (by decide) (by decide) rfl (fun u5 H locs hw4 hP hD hK hS => ?_)
  obtain ⟨a_2, k_3⟩ := u5
  refine va_cv hP hD (ws' := [(h0, .inr (0, [.null, .null, .null, .null, .null, .null, .null, .null, .null, .null, .null, .int 0, .int 0])), (q1, .inr (6, [.ref a_2, .int 0])), (a_2, .inl (k_3, 24, .inr (.inl (fun _ => 0))))]) rfl (fun hP hD => ?_)
  have hK : va_K D vwCl [(k_3, .long)] s := hK
  refine va_putF (D := D) (ci := 0) (v := .ref q1) (ty := tyX0 0) (C := RX0) (T := TX0) (N := 13) hx hb hg inX0 tyX0 tyX0_ok nmX0 hown hK hP hD hS 0 rfl rfl 0 (by decide) (hg _ w593) (fun _ h9 => h9) rfl hin rfl (tyX0_ok 0 (by decide)) rfl rfl (Nat.le_of_ble_eq_true rfl) dX0_init_14 (fun H locs hP hD hS => ?_)
  refine va_cv hP hD (ws' := [(h0, .inr (0, [.ref q1, .null, .null, .null, .null, .null, .null, .null, .null, .null, .null, .int 0, .int 0])), (q1, .inr (6, [.ref a_2, .int 0])), (a_2, .inl (k_3, 24, .inr (.inl (fun _ => 0))))]) rfl (fun hP hD => ?_)
  refine lv_aload_n hx hb dX0_init_17 rfl (lv_at hl 0 rfl) ?_
  refine va_new (ci := 6) (fs := [.null, .int 0]) (C := RX6) (T := TX6) (N := 2) hx hb hg inX6 tyX6 tyX6_ok hown (hg _ w473) (hg _ w474) (hg _ w168) hK hP hD hS hA rfl nfX6 (Nat.le_of_ble_eq_true rfl) (Nat.le_of_ble_eq_true rfl) dX0_init_18 (fun q6 H hP hD hS => ?_)
  refine va_cv hP hD (ws' := [(h0, .inr (0, [.ref q1, .null, .null, .null, .null, .null, .null, .null, .null, .null, .null, .int 0, .int 0])), (q1, .inr (6, [.ref a_2, .int 0])), (a_2, .inl (k_3, 24, .inr (.inl (fun _ => 0)))), (q6, .inr (6, [.null, .int 0]))]) rfl (fun hP hD => ?_)
  refine lv_dup hx hb dX0_init_21 rfl ?_
  refine lv_bipush (v := 12) hx hb dX0_init_22 (by decide) ?_
  refine g_void (wr := [(h0, .inr (0, [.ref q1, .null, .null, .null, .null, .null, .null, .null, .null, .null, .null, .int 0, .int 0])), (q1, .inr (6, [.ref a_2, .int 0])), (a_2, .inl (k_3, 24, .inr (.inl (fun _ => 0))))]) (tr := [(k_3, .long)]) (g_runI (As := [.int 12]) (rest := [.ref q6, .ref h0]) (wc := [(q6, .inr (6, [.null, .int 0]))]) (tc := []) hx hb hml hown hg gw_self hP hD hK hS hA hnw hgk [3] [] (by decide) rfl rfl (c_Names_init12 l D ks H.size q6) w475 w476 w168 w477 rfl hdS_yX6_init ⟨Nat.le_of_ble_eq_true rfl, Nat.le_of_ble_eq_true rfl⟩ rfl hl.1 rfl (Nat.le_of_ble_eq_true rfl) dX0_init_24 ⟨Nat.le_of_ble_eq_true rfl, Nat.le_of_ble_eq_true rfl⟩) hP hD hK hS hA [3] [0, 1, 2] [0] rfl rfl (by decide) (by decide) rfl (fun u10 H locs hw9 hP hD hK hS => ?_)
  obtain ⟨a_7, k_8⟩ := u10
  refine va_cv hP hD (ws' := [(h0, .inr (0, [.ref q1, .null, .null, .null, .null, .null, .null, .null, .null, .null, .null, .int 0, .int 0])), (q1, .inr (6, [.ref a_2, .int 0])), (a_2, .inl (k_3, 24, .inr (.inl (fun _ => 0)))), (q6, .inr (6, [.ref a_7, .int 0])), (a_7, .inl (k_8, 12, .inr (.inl (fun _ => 0))))]) rfl (fun hP hD => ?_)
  have hK : va_K D vwCl [(k_3, .long), (k_8, .long)] s := hK
  refine va_putF (D := D) (ci := 0) (v := .ref q6) (ty := tyX0 1) (C := RX0) (T := TX0) (N := 13) hx hb hg inX0 tyX0 tyX0_ok nmX0 hown hK hP hD hS 0 rfl rfl 1 (by decide) (hg _ w596) (fun _ h9 => h9) rfl hin rfl (tyX0_ok 1 (by decide)) rfl rfl (Nat.le_of_ble_eq_true rfl) dX0_init_27 (fun H locs hP hD hS => ?_)
  refine va_cv hP hD (ws' := [(h0, .inr (0, [.ref q1, .ref q6, .null, .null, .null, .null, .null, .null, .null, .null, .null, .int 0, .int 0])), (q1, .inr (6, [.ref a_2, .int 0])), (a_2, .inl (k_3, 24, .inr (.inl (fun _ => 0)))), (q6, .inr (6, [.ref a_7, .int 0])), (a_7, .inl (k_8, 12, .inr (.inl (fun _ => 0))))]) rfl (fun hP hD => ?_)
  refine lv_aload_n hx hb dX0_init_30 rfl (lv_at hl 0 rfl) ?_
  refine va_new (ci := 6) (fs := [.null, .int 0]) (C := RX6) (T := TX6) (N := 2) hx hb hg inX6 tyX6 tyX6_ok hown (hg _ w473) (hg _ w474) (hg _ w168) hK hP hD hS hA rfl nfX6 (Nat.le_of_ble_eq_true rfl) (Nat.le_of_ble_eq_true rfl) dX0_init_31 (fun q11 H hP hD hS => ?_)
  refine va_cv hP hD (ws' := [(h0, .inr (0, [.ref q1, .ref q6, .null, .null, .null, .null, .null, .null, .null, .null, .null, .int 0, .int 0])), (q1, .inr (6, [.ref a_2, .int 0])), (a_2, .inl (k_3, 24, .inr (.inl (fun _ => 0)))), (q6, .inr (6, [.ref a_7, .int 0])), (a_7, .inl (k_8, 12, .inr (.inl (fun _ => 0)))), (q11, .inr (6, [.null, .int 0]))]) rfl (fun hP hD => ?_)
  refine lv_dup hx hb dX0_init_34 rfl ?_
  refine lv_bipush (v := 24) hx hb dX0_init_35 (by decide) ?_
  refine g_void (wr := [(h0, .inr (0, [.ref q1, .ref q6, .null, .null, .null, .null, .null, .null, .null, .null, .null, .int 0, .int 0])), (q1, .inr (6, [.ref a_2, .int 0])), (a_2, .inl (k_3, 24, .inr (.inl (fun _ => 0)))), (q6, .inr (6, [.ref a_7, .int 0])), (a_7, .inl (k_8, 12, .inr (.inl (fun _ => 0))))]) (tr := [(k_3, .long), (k_8, .long)]) (g_runI (As := [.int 24]) (rest := [.ref q11, .ref h0]) (wc := [(q11, .inr (6, [.null, .int 0]))]) (tc := []) hx hb hml hown hg gw_self hP hD hK hS hA hnw hgk [5] [] (by decide) rfl rfl (c_Names_init24 l D ks H.size q11) w475 w476 w168 w477 rfl hdS_yX6_init ⟨Nat.le_of_ble_eq_true rfl, Nat.le_of_ble_eq_true rfl⟩ rfl hl.1 rfl (Nat.le_of_ble_eq_true rfl) dX0_init_37 ⟨Nat.le_of_ble_eq_true rfl, Nat.le_of_ble_eq_true rfl⟩) hP hD hK hS hA [5] [0, 1, 2, 3, 4] [0, 1] rfl rfl (by decide) (by decide) rfl (fun u15 H locs hw14 hP hD hK hS => ?_)
  obtain ⟨a_12, k_13⟩ := u15
  refine va_cv hP hD (ws' := [(h0, .inr (0, [.ref q1, .ref q6, .null, .null, .null, .null, .null, .null, .null, .null, .null, .int 0, .int 0])), (q1, .inr (6, [.ref a_2, .int 0])), (a_2, .inl (k_3, 24, .inr (.inl (fun _ => 0)))), (q6, .inr (6, [.ref a_7, .int 0])), (a_7, .inl (k_8, 12, .inr (.inl (fun _ => 0)))), (q11, .inr (6, [.ref a_12, .int 0])), (a_12, .inl (k_13, 24, .inr (.inl (fun _ => 0))))]) rfl (fun hP hD => ?_)
  have hK : va_K D vwCl [(k_3, .long), (k_8, .long), (k_13, .long)] s := hK
  refine va_putF (D := D) (ci := 0) (v := .ref q11) (ty := tyX0 2) (C := RX0) (T := TX0) (N := 13) hx hb hg inX0 tyX0 tyX0_ok nmX0 hown hK hP hD hS 0 rfl rfl 2 (by decide) (hg _ w599) (fun _ h9 => h9) rfl hin rfl (tyX0_ok 2 (by decide)) rfl rfl (Nat.le_of_ble_eq_true rfl) dX0_init_40 (fun H locs hP hD hS => ?_)
  refine va_cv hP hD (ws' := [(h0, .inr (0, [.ref q1, .ref q6, .ref q11, .null, .null, .null, .null, .null, .null, .null, .null, .int 0, .int 0])), (q1, .inr (6, [.ref a_2, .int 0])), (a_2, .inl (k_3, 24, .inr (.inl (fun _ => 0)))), (q6, .inr (6, [.ref a_7, .int 0])), (a_7, .inl (k_8, 12, .inr (.inl (fun _ => 0)))), (q11, .inr (6, [.ref a_12, .int 0])), (a_12, .inl (k_13, 24, .inr (.inl (fun _ => 0))))]) rfl (fun hP hD => ?_)
  refine lv_aload_n hx hb dX0_init_43 rfl (lv_at hl 0 rfl) ?_
  refine va_new (ci := 6) (fs := [.null, .int 0]) (C := RX6) (T := TX6) (N := 2) hx hb hg inX6 tyX6 tyX6_ok hown (hg _ w473) (hg _ w474) (hg _ w168) hK hP hD hS hA rfl nfX6 (Nat.le_of_ble_eq_true rfl) (Nat.le_of_ble_eq_true rfl) dX0_init_44 (fun q16 H hP hD hS => ?_)
  refine va_cv hP hD (ws' := [(h0, .inr (0, [.ref q1, .ref q6, .ref q11, .null, .null, .null, .null, .null, .null, .null, .null, .int 0, .int 0])), (q1, .inr (6, [.ref a_2, .int 0])), (a_2, .inl (k_3, 24, .inr (.inl (fun _ => 0)))), (q6, .inr (6, [.ref a_7, .int 0])), (a_7, .inl (k_8, 12, .inr (.inl (fun _ => 0)))), (q11, .inr (6, [.ref a_12, .int 0])), (a_12, .inl (k_13, 24, .inr (.inl (fun _ => 0)))), (q16, .inr (6, [.null, .int 0]))]) rfl (fun hP hD => ?_)
  refine lv_dup hx hb dX0_init_47 rfl ?_
  refine lv_bipush (v := 20) hx hb dX0_init_48 (by decide) ?_
  refine g_void (wr := [(h0, .inr (0, [.ref q1, .ref q6, .ref q11, .null, .null, .null, .null, .null, .null, .null, .null, .int 0, .int 0])), (q1, .inr (6, [.ref a_2, .int 0])), (a_2, .inl (k_3, 24, .inr (.inl (fun _ => 0)))), (q6, .inr (6, [.ref a_7, .int 0])), (a_7, .inl (k_8, 12, .inr (.inl (fun _ => 0)))), (q11, .inr (6, [.ref a_12, .int 0])), (a_12, .inl (k_13, 24, .inr (.inl (fun _ => 0))))]) (tr := [(k_3, .long), (k_8, .long), (k_13, .long)]) (g_runI (As := [.int 20]) (rest := [.ref q16, .ref h0]) (wc := [(q16, .inr (6, [.null, .int 0]))]) (tc := []) hx hb hml hown hg gw_self hP hD hK hS hA hnw hgk [7] [] (by decide) rfl rfl (c_Names_init20 l D ks H.size q16) w475 w476 w168 w477 rfl hdS_yX6_init ⟨Nat.le_of_ble_eq_true rfl, Nat.le_of_ble_eq_true rfl⟩ rfl hl.1 rfl (Nat.le_of_ble_eq_true rfl) dX0_init_50 ⟨Nat.le_of_ble_eq_true rfl, Nat.le_of_ble_eq_true rfl⟩) hP hD hK hS hA [7] [0, 1, 2, 3, 4, 5, 6] [0, 1, 2] rfl rfl (by decide) (by decide) rfl (fun u20 H locs hw19 hP hD hK hS => ?_)
  obtain ⟨a_17, k_18⟩ := u20
  refine va_cv hP hD (ws' := [(h0, .inr (0, [.ref q1, .ref q6, .ref q11, .null, .null, .null, .null, .null, .null, .null, .null, .int 0, .int 0])), (q1, .inr (6, [.ref a_2, .int 0])), (a_2, .inl (k_3, 24, .inr (.inl (fun _ => 0)))), (q6, .inr (6, [.ref a_7, .int 0])), (a_7, .inl (k_8, 12, .inr (.inl (fun _ => 0)))), (q11, .inr (6, [.ref a_12, .int 0])), (a_12, .inl (k_13, 24, .inr (.inl (fun _ => 0)))), (q16, .inr (6, [.ref a_17, .int 0])), (a_17, .inl (k_18, 20, .inr (.inl (fun _ => 0))))]) rfl (fun hP hD => ?_)
  have hK : va_K D vwCl [(k_3, .long), (k_8, .long), (k_13, .long), (k_18, .long)] s := hK
  refine va_putF (D := D) (ci := 0) (v := .ref q16) (ty := tyX0 3) (C := RX0) (T := TX0) (N := 13) hx hb hg inX0 tyX0 tyX0_ok nmX0 hown hK hP hD hS 0 rfl rfl 3 (by decide) (hg _ w603) (fun _ h9 => h9) rfl hin rfl (tyX0_ok 3 (by decide)) rfl rfl (Nat.le_of_ble_eq_true rfl) dX0_init_53 (fun H locs hP hD hS => ?_)
  refine va_cv hP hD (ws' := [(h0, .inr (0, [.ref q1, .ref q6, .ref q11, .ref q16, .null, .null, .null, .null, .null, .null, .null, .int 0, .int 0])), (q1, .inr (6, [.ref a_2, .int 0])), (a_2, .inl (k_3, 24, .inr (.inl (fun _ => 0)))), (q6, .inr (6, [.ref a_7, .int 0])), (a_7, .inl (k_8, 12, .inr (.inl (fun _ => 0)))), (q11, .inr (6, [.ref a_12, .int 0])), (a_12, .inl (k_13, 24, .inr (.inl (fun _ => 0)))), (q16, .inr (6, [.ref a_17, .int 0])), (a_17, .inl (k_18, 20, .inr (.inl (fun _ => 0))))]) rfl (fun hP hD => ?_)
  refine lv_aload_n hx hb dX0_init_56 rfl (lv_at hl 0 rfl) ?_
  refine va_new (ci := 6) (fs := [.null, .int 0]) (C := RX6) (T := TX6) (N := 2) hx hb hg inX6 tyX6 tyX6_ok hown (hg _ w473) (hg _ w474) (hg _ w168) hK hP hD hS hA rfl nfX6 (Nat.le_of_ble_eq_true rfl) (Nat.le_of_ble_eq_true rfl) dX0_init_57 (fun q21 H hP hD hS => ?_)
  refine va_cv hP hD (ws' := [(h0, .inr (0, [.ref q1, .ref q6, .ref q11, .ref q16, .null, .null, .null, .null, .null, .null, .null, .int 0, .int 0])), (q1, .inr (6, [.ref a_2, .int 0])), (a_2, .inl (k_3, 24, .inr (.inl (fun _ => 0)))), (q6, .inr (6, [.ref a_7, .int 0])), (a_7, .inl (k_8, 12, .inr (.inl (fun _ => 0)))), (q11, .inr (6, [.ref a_12, .int 0])), (a_12, .inl (k_13, 24, .inr (.inl (fun _ => 0)))), (q16, .inr (6, [.ref a_17, .int 0])), (a_17, .inl (k_18, 20, .inr (.inl (fun _ => 0)))), (q21, .inr (6, [.null, .int 0]))]) rfl (fun hP hD => ?_)
  refine lv_dup hx hb dX0_init_60 rfl ?_
  refine lv_bipush (v := 20) hx hb dX0_init_61 (by decide) ?_
  refine g_void (wr := [(h0, .inr (0, [.ref q1, .ref q6, .ref q11, .ref q16, .null, .null, .null, .null, .null, .null, .null, .int 0, .int 0])), (q1, .inr (6, [.ref a_2, .int 0])), (a_2, .inl (k_3, 24, .inr (.inl (fun _ => 0)))), (q6, .inr (6, [.ref a_7, .int 0])), (a_7, .inl (k_8, 12, .inr (.inl (fun _ => 0)))), (q11, .inr (6, [.ref a_12, .int 0])), (a_12, .inl (k_13, 24, .inr (.inl (fun _ => 0)))), (q16, .inr (6, [.ref a_17, .int 0])), (a_17, .inl (k_18, 20, .inr (.inl (fun _ => 0))))]) (tr := [(k_3, .long), (k_8, .long), (k_13, .long), (k_18, .long)]) (g_runI (As := [.int 20]) (rest := [.ref q21, .ref h0]) (wc := [(q21, .inr (6, [.null, .int 0]))]) (tc := []) hx hb hml hown hg gw_self hP hD hK hS hA hnw hgk [9] [] (by decide) rfl rfl (c_Names_init20 l D ks H.size q21) w475 w476 w168 w477 rfl hdS_yX6_init ⟨Nat.le_of_ble_eq_true rfl, Nat.le_of_ble_eq_true rfl⟩ rfl hl.1 rfl (Nat.le_of_ble_eq_true rfl) dX0_init_63 ⟨Nat.le_of_ble_eq_true rfl, Nat.le_of_ble_eq_true rfl⟩) hP hD hK hS hA [9] [0, 1, 2, 3, 4, 5, 6, 7, 8] [0, 1, 2, 3] rfl rfl (by decide) (by decide) rfl (fun u25 H locs hw24 hP hD hK hS => ?_)
  obtain ⟨a_22, k_23⟩ := u25
  refine va_cv hP hD (ws' := [(h0, .inr (0, [.ref q1, .ref q6, .ref q11, .ref q16, .null, .null, .null, .null, .null, .null, .null, .int 0, .int 0])), (q1, .inr (6, [.ref a_2, .int 0])), (a_2, .inl (k_3, 24, .inr (.inl (fun _ => 0)))), (q6, .inr (6, [.ref a_7, .int 0])), (a_7, .inl (k_8, 12, .inr (.inl (fun _ => 0)))), (q11, .inr (6, [.ref a_12, .int 0])), (a_12, .inl (k_13, 24, .inr (.inl (fun _ => 0)))), (q16, .inr (6, [.ref a_17, .int 0])), (a_17, .inl (k_18, 20, .inr (.inl (fun _ => 0)))), (q21, .inr (6, [.ref a_22, .int 0])), (a_22, .inl (k_23, 20, .inr (.inl (fun _ => 0))))]) rfl (fun hP hD => ?_)
  have hK : va_K D vwCl [(k_3, .long), (k_8, .long), (k_13, .long), (k_18, .long), (k_23, .long)] s := hK
  refine va_putF (D := D) (ci := 0) (v := .ref q21) (ty := tyX0 4) (C := RX0) (T := TX0) (N := 13) hx hb hg inX0 tyX0 tyX0_ok nmX0 hown hK hP hD hS 0 rfl rfl 4 (by decide) (hg _ w606) (fun _ h9 => h9) rfl hin rfl (tyX0_ok 4 (by decide)) rfl rfl (Nat.le_of_ble_eq_true rfl) dX0_init_66 (fun H locs hP hD hS => ?_)
  refine va_cv hP hD (ws' := [(h0, .inr (0, [.ref q1, .ref q6, .ref q11, .ref q16, .ref q21, .null, .null, .null, .null, .null, .null, .int 0, .int 0])), (q1, .inr (6, [.ref a_2, .int 0])), (a_2, .inl (k_3, 24, .inr (.inl (fun _ => 0)))), (q6, .inr (6, [.ref a_7, .int 0])), (a_7, .inl (k_8, 12, .inr (.inl (fun _ => 0)))), (q11, .inr (6, [.ref a_12, .int 0])), (a_12, .inl (k_13, 24, .inr (.inl (fun _ => 0)))), (q16, .inr (6, [.ref a_17, .int 0])), (a_17, .inl (k_18, 20, .inr (.inl (fun _ => 0)))), (q21, .inr (6, [.ref a_22, .int 0])), (a_22, .inl (k_23, 20, .inr (.inl (fun _ => 0))))]) rfl (fun hP hD => ?_)
  refine lv_aload_n hx hb dX0_init_69 rfl (lv_at hl 0 rfl) ?_
  refine lv_bipush (v := 24) hx hb dX0_init_70 (by decide) ?_
  refine va_newa (D := D) (atype := .int) (ty := .int) (n := 24) (N' := 24) (a0 := (24, .inl (fun _ => 0))) hx hb (hg _ w297) rfl hK hP hD hS hA (fun _ => rfl) (by decide) (by decide) (by decide) (Nat.le_of_ble_eq_true rfl) (Nat.le_of_ble_eq_true rfl) dX0_init_72 (fun q26 k27 H hK hP hD hS => ?_)
  refine va_cv hP hD (ws' := [(h0, .inr (0, [.ref q1, .ref q6, .ref q11, .ref q16, .ref q21, .null, .null, .null, .null, .null, .null, .int 0, .int 0])), (q1, .inr (6, [.ref a_2, .int 0])), (a_2, .inl (k_3, 24, .inr (.inl (fun _ => 0)))), (q6, .inr (6, [.ref a_7, .int 0])), (a_7, .inl (k_8, 12, .inr (.inl (fun _ => 0)))), (q11, .inr (6, [.ref a_12, .int 0])), (a_12, .inl (k_13, 24, .inr (.inl (fun _ => 0)))), (q16, .inr (6, [.ref a_17, .int 0])), (a_17, .inl (k_18, 20, .inr (.inl (fun _ => 0)))), (q21, .inr (6, [.ref a_22, .int 0])), (a_22, .inl (k_23, 20, .inr (.inl (fun _ => 0)))), (q26, .inl (k27, 24, .inl (fun _ => 0)))]) rfl (fun hP hD => ?_)
  have hK : va_K D vwCl [(k_3, .long), (k_8, .long), (k_13, .long), (k_18, .long), (k_23, .long), (k27, .int)] s := hK
  refine va_putF (D := D) (ci := 0) (v := .ref q26) (ty := tyX0 5) (C := RX0) (T := TX0) (N := 13) hx hb hg inX0 tyX0 tyX0_ok nmX0 hown hK hP hD hS 0 rfl rfl 5 (by decide) (hg _ w608) (fun _ h9 => h9) rfl hin rfl (tyX0_ok 5 (by decide)) rfl rfl (Nat.le_of_ble_eq_true rfl) dX0_init_74 (fun H locs hP hD hS => ?_)
  refine va_cv hP hD (ws' := [(h0, .inr (0, [.ref q1, .ref q6, .ref q11, .ref q16, .ref q21, .ref q26, .null, .null, .null, .null, .null, .int 0, .int 0])), (q1, .inr (6, [.ref a_2, .int 0])), (a_2, .inl (k_3, 24, .inr (.inl (fun _ => 0)))), (q6, .inr (6, [.ref a_7, .int 0])), (a_7, .inl (k_8, 12, .inr (.inl (fun _ => 0)))), (q11, .inr (6, [.ref a_12, .int 0])), (a_12, .inl (k_13, 24, .inr (.inl (fun _ => 0)))), (q16, .inr (6, [.ref a_17, .int 0])), (a_17, .inl (k_18, 20, .inr (.inl (fun _ => 0)))), (q21, .inr (6, [.ref a_22, .int 0])), (a_22, .inl (k_23, 20, .inr (.inl (fun _ => 0)))), (q26, .inl (k27, 24, .inl (fun _ => 0)))]) rfl (fun hP hD => ?_)
  refine lv_aload_n hx hb dX0_init_77 rfl (lv_at hl 0 rfl) ?_
  refine lv_bipush (v := 12) hx hb dX0_init_78 (by decide) ?_
  refine va_newa (D := D) (atype := .int) (ty := .int) (n := 12) (N' := 12) (a0 := (12, .inl (fun _ => 0))) hx hb (hg _ w297) rfl hK hP hD hS hA (fun _ => rfl) (by decide) (by decide) (by decide) (Nat.le_of_ble_eq_true rfl) (Nat.le_of_ble_eq_true rfl) dX0_init_80 (fun q28 k29 H hK hP hD hS => ?_)
  refine va_cv hP hD (ws' := [(h0, .inr (0, [.ref q1, .ref q6, .ref q11, .ref q16, .ref q21, .ref q26, .null, .null, .null, .null, .null, .int 0, .int 0])), (q1, .inr (6, [.ref a_2, .int 0])), (a_2, .inl (k_3, 24, .inr (.inl (fun _ => 0)))), (q6, .inr (6, [.ref a_7, .int 0])), (a_7, .inl (k_8, 12, .inr (.inl (fun _ => 0)))), (q11, .inr (6, [.ref a_12, .int 0])), (a_12, .inl (k_13, 24, .inr (.inl (fun _ => 0)))), (q16, .inr (6, [.ref a_17, .int 0])), (a_17, .inl (k_18, 20, .inr (.inl (fun _ => 0)))), (q21, .inr (6, [.ref a_22, .int 0])), (a_22, .inl (k_23, 20, .inr (.inl (fun _ => 0)))), (q26, .inl (k27, 24, .inl (fun _ => 0))), (q28, .inl (k29, 12, .inl (fun _ => 0)))]) rfl (fun hP hD => ?_)
  have hK : va_K D vwCl [(k_3, .long), (k_8, .long), (k_13, .long), (k_18, .long), (k_23, .long), (k27, .int), (k29, .int)] s := hK
  refine va_putF (D := D) (ci := 0) (v := .ref q28) (ty := tyX0 6) (C := RX0) (T := TX0) (N := 13) hx hb hg inX0 tyX0 tyX0_ok nmX0 hown hK hP hD hS 0 rfl rfl 6 (by decide) (hg _ w610) (fun _ h9 => h9) rfl hin rfl (tyX0_ok 6 (by decide)) rfl rfl (Nat.le_of_ble_eq_true rfl) dX0_init_82 (fun H locs hP hD hS => ?_)
  refine va_cv hP hD (ws' := [(h0, .inr (0, [.ref q1, .ref q6, .ref q11, .ref q16, .ref q21, .ref q26, .ref q28, .null, .null, .null, .null, .int 0, .int 0])), (q1, .inr (6, [.ref a_2, .int 0])), (a_2, .inl (k_3, 24, .inr (.inl (fun _ => 0)))), (q6, .inr (6, [.ref a_7, .int 0])), (a_7, .inl (k_8, 12, .inr (.inl (fun _ => 0)))), (q11, .inr (6, [.ref a_12, .int 0])), (a_12, .inl (k_13, 24, .inr (.inl (fun _ => 0)))), (q16, .inr (6, [.ref a_17, .int 0])), (a_17, .inl (k_18, 20, .inr (.inl (fun _ => 0)))), (q21, .inr (6, [.ref a_22, .int 0])), (a_22, .inl (k_23, 20, .inr (.inl (fun _ => 0)))), (q26, .inl (k27, 24, .inl (fun _ => 0))), (q28, .inl (k29, 12, .inl (fun _ => 0)))]) rfl (fun hP hD => ?_)
  refine lv_aload_n hx hb dX0_init_85 rfl (lv_at hl 0 rfl) ?_
  refine lv_bipush (v := 24) hx hb dX0_init_86 (by decide) ?_
  refine va_newq (D := D) (C := RX3) (n := 24) (N' := 24) hx hb hown (hg _ w490) hgk.2.2.1 hK hP hD hS hA (by decide) (by decide) (by decide) (Nat.le_of_ble_eq_true rfl) (Nat.le_of_ble_eq_true rfl) dX0_init_88 (fun q30 k31 H hK hP hD hS => ?_)
  refine va_cv hP hD (ws' := [(h0, .inr (0, [.ref q1, .ref q6, .ref q11, .ref q16, .ref q21, .ref q26, .ref q28, .null, .null, .null, .null, .int 0, .int 0])), (q1, .inr (6, [.ref a_2, .int 0])), (a_2, .inl (k_3, 24, .inr (.inl (fun _ => 0)))), (q6, .inr (6, [.ref a_7, .int 0])), (a_7, .inl (k_8, 12, .inr (.inl (fun _ => 0)))), (q11, .inr (6, [.ref a_12, .int 0])), (a_12, .inl (k_13, 24, .inr (.inl (fun _ => 0)))), (q16, .inr (6, [.ref a_17, .int 0])), (a_17, .inl (k_18, 20, .inr (.inl (fun _ => 0)))), (q21, .inr (6, [.ref a_22, .int 0])), (a_22, .inl (k_23, 20, .inr (.inl (fun _ => 0)))), (q26, .inl (k27, 24, .inl (fun _ => 0))), (q28, .inl (k29, 12, .inl (fun _ => 0))), (q30, .inl (k31, 24, .inr (.inr (.inr (.inr (fun _ => none))))))]) rfl (fun hP hD => ?_)
  have hK : va_K D vwCl [(k_3, .long), (k_8, .long), (k_13, .long), (k_18, .long), (k_23, .long), (k27, .int), (k29, .int), (k31, .object RX3)] s := hK
  refine va_putF (D := D) (ci := 0) (v := .ref q30) (ty := tyX0 7) (C := RX0) (T := TX0) (N := 13) hx hb hg inX0 tyX0 tyX0_ok nmX0 hown hK hP hD hS 0 rfl rfl 7 (by decide) (hg _ w614) (fun _ h9 => h9) rfl hin rfl (tyX0_ok 7 (by decide)) rfl rfl (Nat.le_of_ble_eq_true rfl) dX0_init_91 (fun H locs hP hD hS => ?_)
  refine va_cv hP hD (ws' := [(h0, .inr (0, [.ref q1, .ref q6, .ref q11, .ref q16, .ref q21, .ref q26, .ref q28, .ref q30, .null, .null, .null, .int 0, .int 0])), (q1, .inr (6, [.ref a_2, .int 0])), (a_2, .inl (k_3, 24, .inr (.inl (fun _ => 0)))), (q6, .inr (6, [.ref a_7, .int 0])), (a_7, .inl (k_8, 12, .inr (.inl (fun _ => 0)))), (q11, .inr (6, [.ref a_12, .int 0])), (a_12, .inl (k_13, 24, .inr (.inl (fun _ => 0)))), (q16, .inr (6, [.ref a_17, .int 0])), (a_17, .inl (k_18, 20, .inr (.inl (fun _ => 0)))), (q21, .inr (6, [.ref a_22, .int 0])), (a_22, .inl (k_23, 20, .inr (.inl (fun _ => 0)))), (q26, .inl (k27, 24, .inl (fun _ => 0))), (q28, .inl (k29, 12, .inl (fun _ => 0))), (q30, .inl (k31, 24, .inr (.inr (.inr (.inr (fun _ => none))))))]) rfl (fun hP hD => ?_)
  refine lv_aload_n hx hb dX0_init_94 rfl (lv_at hl 0 rfl) ?_
  refine lv_bipush (v := 12) hx hb dX0_init_95 (by decide) ?_
  refine va_newq (D := D) (C := RX10) (n := 12) (N' := 12) hx hb hown (hg _ w492) hgk.2.2.2.1 hK hP hD hS hA (by decide) (by decide) (by decide) (Nat.le_of_ble_eq_true rfl) (Nat.le_of_ble_eq_true rfl) dX0_init_97 (fun q32 k33 H hK hP hD hS => ?_)
  refine va_cv hP hD (ws' := [(h0, .inr (0, [.ref q1, .ref q6, .ref q11, .ref q16, .ref q21, .ref q26, .ref q28, .ref q30, .null, .null, .null, .int 0, .int 0])), (q1, .inr (6, [.ref a_2, .int 0])), (a_2, .inl (k_3, 24, .inr (.inl (fun _ => 0)))), (q6, .inr (6, [.ref a_7, .int 0])), (a_7, .inl (k_8, 12, .inr (.inl (fun _ => 0)))), (q11, .inr (6, [.ref a_12, .int 0])), (a_12, .inl (k_13, 24, .inr (.inl (fun _ => 0)))), (q16, .inr (6, [.ref a_17, .int 0])), (a_17, .inl (k_18, 20, .inr (.inl (fun _ => 0)))), (q21, .inr (6, [.ref a_22, .int 0])), (a_22, .inl (k_23, 20, .inr (.inl (fun _ => 0)))), (q26, .inl (k27, 24, .inl (fun _ => 0))), (q28, .inl (k29, 12, .inl (fun _ => 0))), (q30, .inl (k31, 24, .inr (.inr (.inr (.inr (fun _ => none)))))), (q32, .inl (k33, 12, .inr (.inr (.inr (.inr (fun _ => none))))))]) rfl (fun hP hD => ?_)
  have hK : va_K D vwCl [(k_3, .long), (k_8, .long), (k_13, .long), (k_18, .long), (k_23, .long), (k27, .int), (k29, .int), (k31, .object RX3), (k33, .object RX10)] s := hK
  refine va_putF (D := D) (ci := 0) (v := .ref q32) (ty := tyX0 8) (C := RX0) (T := TX0) (N := 13) hx hb hg inX0 tyX0 tyX0_ok nmX0 hown hK hP hD hS 0 rfl rfl 8 (by decide) (hg _ w619) (fun _ h9 => h9) rfl hin rfl (tyX0_ok 8 (by decide)) rfl rfl (Nat.le_of_ble_eq_true rfl) dX0_init_100 (fun H locs hP hD hS => ?_)
  refine va_cv hP hD (ws' := [(h0, .inr (0, [.ref q1, .ref q6, .ref q11, .ref q16, .ref q21, .ref q26, .ref q28, .ref q30, .ref q32, .null, .null, .int 0, .int 0])), (q1, .inr (6, [.ref a_2, .int 0])), (a_2, .inl (k_3, 24, .inr (.inl (fun _ => 0)))), (q6, .inr (6, [.ref a_7, .int 0])), (a_7, .inl (k_8, 12, .inr (.inl (fun _ => 0)))), (q11, .inr (6, [.ref a_12, .int 0])), (a_12, .inl (k_13, 24, .inr (.inl (fun _ => 0)))), (q16, .inr (6, [.ref a_17, .int 0])), (a_17, .inl (k_18, 20, .inr (.inl (fun _ => 0)))), (q21, .inr (6, [.ref a_22, .int 0])), (a_22, .inl (k_23, 20, .inr (.inl (fun _ => 0)))), (q26, .inl (k27, 24, .inl (fun _ => 0))), (q28, .inl (k29, 12, .inl (fun _ => 0))), (q30, .inl (k31, 24, .inr (.inr (.inr (.inr (fun _ => none)))))), (q32, .inl (k33, 12, .inr (.inr (.inr (.inr (fun _ => none))))))]) rfl (fun hP hD => ?_)
  refine lv_aload_n hx hb dX0_init_103 rfl (lv_at hl 0 rfl) ?_
  refine lv_bipush (v := 12) hx hb dX0_init_104 (by decide) ?_
  refine va_newa (D := D) (atype := .int) (ty := .int) (n := 12) (N' := 12) (a0 := (12, .inl (fun _ => 0))) hx hb (hg _ w297) rfl hK hP hD hS hA (fun _ => rfl) (by decide) (by decide) (by decide) (Nat.le_of_ble_eq_true rfl) (Nat.le_of_ble_eq_true rfl) dX0_init_106 (fun q34 k35 H hK hP hD hS => ?_)
  refine va_cv hP hD (ws' := [(h0, .inr (0, [.ref q1, .ref q6, .ref q11, .ref q16, .ref q21, .ref q26, .ref q28, .ref q30, .ref q32, .null, .null, .int 0, .int 0])), (q1, .inr (6, [.ref a_2, .int 0])), (a_2, .inl (k_3, 24, .inr (.inl (fun _ => 0)))), (q6, .inr (6, [.ref a_7, .int 0])), (a_7, .inl (k_8, 12, .inr (.inl (fun _ => 0)))), (q11, .inr (6, [.ref a_12, .int 0])), (a_12, .inl (k_13, 24, .inr (.inl (fun _ => 0)))), (q16, .inr (6, [.ref a_17, .int 0])), (a_17, .inl (k_18, 20, .inr (.inl (fun _ => 0)))), (q21, .inr (6, [.ref a_22, .int 0])), (a_22, .inl (k_23, 20, .inr (.inl (fun _ => 0)))), (q26, .inl (k27, 24, .inl (fun _ => 0))), (q28, .inl (k29, 12, .inl (fun _ => 0))), (q30, .inl (k31, 24, .inr (.inr (.inr (.inr (fun _ => none)))))), (q32, .inl (k33, 12, .inr (.inr (.inr (.inr (fun _ => none)))))), (q34, .inl (k35, 12, .inl (fun _ => 0)))]) rfl (fun hP hD => ?_)
  have hK : va_K D vwCl [(k_3, .long), (k_8, .long), (k_13, .long), (k_18, .long), (k_23, .long), (k27, .int), (k29, .int), (k31, .object RX3), (k33, .object RX10), (k35, .int)] s := hK
  refine va_putF (D := D) (ci := 0) (v := .ref q34) (ty := tyX0 9) (C := RX0) (T := TX0) (N := 13) hx hb hg inX0 tyX0 tyX0_ok nmX0 hown hK hP hD hS 0 rfl rfl 9 (by decide) (hg _ w621) (fun _ h9 => h9) rfl hin rfl (tyX0_ok 9 (by decide)) rfl rfl (Nat.le_of_ble_eq_true rfl) dX0_init_108 (fun H locs hP hD hS => ?_)
  refine va_cv hP hD (ws' := [(h0, .inr (0, [.ref q1, .ref q6, .ref q11, .ref q16, .ref q21, .ref q26, .ref q28, .ref q30, .ref q32, .ref q34, .null, .int 0, .int 0])), (q1, .inr (6, [.ref a_2, .int 0])), (a_2, .inl (k_3, 24, .inr (.inl (fun _ => 0)))), (q6, .inr (6, [.ref a_7, .int 0])), (a_7, .inl (k_8, 12, .inr (.inl (fun _ => 0)))), (q11, .inr (6, [.ref a_12, .int 0])), (a_12, .inl (k_13, 24, .inr (.inl (fun _ => 0)))), (q16, .inr (6, [.ref a_17, .int 0])), (a_17, .inl (k_18, 20, .inr (.inl (fun _ => 0)))), (q21, .inr (6, [.ref a_22, .int 0])), (a_22, .inl (k_23, 20, .inr (.inl (fun _ => 0)))), (q26, .inl (k27, 24, .inl (fun _ => 0))), (q28, .inl (k29, 12, .inl (fun _ => 0))), (q30, .inl (k31, 24, .inr (.inr (.inr (.inr (fun _ => none)))))), (q32, .inl (k33, 12, .inr (.inr (.inr (.inr (fun _ => none)))))), (q34, .inl (k35, 12, .inl (fun _ => 0)))]) rfl (fun hP hD => ?_)
  refine lv_aload_n hx hb dX0_init_111 rfl (lv_at hl 0 rfl) ?_
  refine lv_sipush (v := 8200) hx hb dX0_init_112 (by decide) ?_
  refine va_newa (D := D) (atype := .int) (ty := .int) (n := 8200) (N' := 8200) (a0 := (8200, .inl (fun _ => 0))) hx hb (hg _ w297) rfl hK hP hD hS hA (fun _ => rfl) (by decide) (by decide) (by decide) (Nat.le_of_ble_eq_true rfl) (Nat.le_of_ble_eq_true rfl) dX0_init_115 (fun q36 k37 H hK hP hD hS => ?_)
  refine va_cv hP hD (ws' := [(h0, .inr (0, [.ref q1, .ref q6, .ref q11, .ref q16, .ref q21, .ref q26, .ref q28, .ref q30, .ref q32, .ref q34, .null, .int 0, .int 0])), (q1, .inr (6, [.ref a_2, .int 0])), (a_2, .inl (k_3, 24, .inr (.inl (fun _ => 0)))), (q6, .inr (6, [.ref a_7, .int 0])), (a_7, .inl (k_8, 12, .inr (.inl (fun _ => 0)))), (q11, .inr (6, [.ref a_12, .int 0])), (a_12, .inl (k_13, 24, .inr (.inl (fun _ => 0)))), (q16, .inr (6, [.ref a_17, .int 0])), (a_17, .inl (k_18, 20, .inr (.inl (fun _ => 0)))), (q21, .inr (6, [.ref a_22, .int 0])), (a_22, .inl (k_23, 20, .inr (.inl (fun _ => 0)))), (q26, .inl (k27, 24, .inl (fun _ => 0))), (q28, .inl (k29, 12, .inl (fun _ => 0))), (q30, .inl (k31, 24, .inr (.inr (.inr (.inr (fun _ => none)))))), (q32, .inl (k33, 12, .inr (.inr (.inr (.inr (fun _ => none)))))), (q34, .inl (k35, 12, .inl (fun _ => 0))), (q36, .inl (k37, 8200, .inl (fun _ => 0)))]) rfl (fun hP hD => ?_)
  have hK : va_K D vwCl [(k_3, .long), (k_8, .long), (k_13, .long), (k_18, .long), (k_23, .long), (k27, .int), (k29, .int), (k31, .object RX3), (k33, .object RX10), (k35, .int), (k37, .int)] s := hK
  refine va_putF (D := D) (ci := 0) (v := .ref q36) (ty := tyX0 10) (C := RX0) (T := TX0) (N := 13) hx hb hg inX0 tyX0 tyX0_ok nmX0 hown hK hP hD hS 0 rfl rfl 10 (by decide) (hg _ w623) (fun _ h9 => h9) rfl hin rfl (tyX0_ok 10 (by decide)) rfl rfl (Nat.le_of_ble_eq_true rfl) dX0_init_117 (fun H locs hP hD hS => ?_)
  refine va_cv hP hD (ws' := [(h0, .inr (0, [.ref q1, .ref q6, .ref q11, .ref q16, .ref q21, .ref q26, .ref q28, .ref q30, .ref q32, .ref q34, .ref q36, .int 0, .int 0])), (q1, .inr (6, [.ref a_2, .int 0])), (a_2, .inl (k_3, 24, .inr (.inl (fun _ => 0)))), (q6, .inr (6, [.ref a_7, .int 0])), (a_7, .inl (k_8, 12, .inr (.inl (fun _ => 0)))), (q11, .inr (6, [.ref a_12, .int 0])), (a_12, .inl (k_13, 24, .inr (.inl (fun _ => 0)))), (q16, .inr (6, [.ref a_17, .int 0])), (a_17, .inl (k_18, 20, .inr (.inl (fun _ => 0)))), (q21, .inr (6, [.ref a_22, .int 0])), (a_22, .inl (k_23, 20, .inr (.inl (fun _ => 0)))), (q26, .inl (k27, 24, .inl (fun _ => 0))), (q28, .inl (k29, 12, .inl (fun _ => 0))), (q30, .inl (k31, 24, .inr (.inr (.inr (.inr (fun _ => none)))))), (q32, .inl (k33, 12, .inr (.inr (.inr (.inr (fun _ => none)))))), (q34, .inl (k35, 12, .inl (fun _ => 0))), (q36, .inl (k37, 8200, .inl (fun _ => 0)))]) rfl (fun hP hD => ?_)
  refine lv_iconst (v := 0) hx hb dX0_init_120 (by decide) ?_
  refine lv_istore_n (lv' := [(1, .int 0), (0, .ref h0)]) hx hb dX0_init_121 rfl hl (by decide) rfl (fun ls hl => ?_)
  have lp2 : ∀ (n i : Nat) (d : Nat → CU) (w : Nat → Nat) (H : Heap) (locs : List Loc) (ls : Array Slot), i ≤ 12 → 12 < i + n → va_P D vwCl ([(h0, .inr (0, [.ref q1, .ref q6, .ref q11, .ref q16, .ref q21, .ref q26, .ref q28, .ref q30, .ref q32, .ref q34, .ref q36, .int 0, .int 0])), (q1, .inr (6, [.ref a_2, .int 0])), (a_2, .inl (k_3, 24, .inr (.inl (fun _ => 0)))), (q6, .inr (6, [.ref a_7, .int 0])), (a_7, .inl (k_8, 12, .inr (.inl (fun _ => 0)))), (q11, .inr (6, [.ref a_12, .int 0])), (a_12, .inl (k_13, 24, .inr (.inl (fun _ => 0)))), (q16, .inr (6, [.ref a_17, .int 0])), (a_17, .inl (k_18, 20, .inr (.inl (fun _ => 0)))), (q21, .inr (6, [.ref a_22, .int 0])), (a_22, .inl (k_23, 20, .inr (.inl (fun _ => 0)))), (q26, .inl (k27, 24, .inl (fun _ => 0))), (q28, .inl (k29, 12, .inl (fun _ => 0))), (q30, .inl (k31, 24, .inr (.inr (.inr (.inr (fun q => if q < 24 then some (d q).1 else none)))))), (q32, .inl (k33, 12, .inr (.inr (.inr (.inr (fun q => if q < i then some (w q) else none)))))), (q34, .inl (k35, 12, .inl (fun _ => 0))), (q36, .inl (k37, 8200, .inl (fun _ => 0)))] ++ (RC wblk w i ++ RC cblk d 24)) H → va_D A ([(h0, .inr (0, [.ref q1, .ref q6, .ref q11, .ref q16, .ref q21, .ref q26, .ref q28, .ref q30, .ref q32, .ref q34, .ref q36, .int 0, .int 0])), (q1, .inr (6, [.ref a_2, .int 0])), (a_2, .inl (k_3, 24, .inr (.inl (fun _ => 0)))), (q6, .inr (6, [.ref a_7, .int 0])), (a_7, .inl (k_8, 12, .inr (.inl (fun _ => 0)))), (q11, .inr (6, [.ref a_12, .int 0])), (a_12, .inl (k_13, 24, .inr (.inl (fun _ => 0)))), (q16, .inr (6, [.ref a_17, .int 0])), (a_17, .inl (k_18, 20, .inr (.inl (fun _ => 0)))), (q21, .inr (6, [.ref a_22, .int 0])), (a_22, .inl (k_23, 20, .inr (.inl (fun _ => 0)))), (q26, .inl (k27, 24, .inl (fun _ => 0))), (q28, .inl (k29, 12, .inl (fun _ => 0))), (q30, .inl (k31, 24, .inr (.inr (.inr (.inr (fun q => if q < 24 then some (d q).1 else none)))))), (q32, .inl (k33, 12, .inr (.inr (.inr (.inr (fun q => if q < i then some (w q) else none)))))), (q34, .inl (k35, 12, .inl (fun _ => 0))), (q36, .inl (k37, 8200, .inl (fun _ => 0)))] ++ (RC wblk w i ++ RC cblk d 24)) → va_K D vwCl ([(k_3, .long), (k_8, .long), (k_13, .long), (k_18, .long), (k_23, .long), (k27, .int), (k29, .int), (k31, .object RX3), (k33, .object RX10), (k35, .int), (k37, .int)] ++ RTy cty d 24) s → va_S A s.heap H locs → lv_has ls 2 [(1, .int (nI i)), (0, .ref h0)] → W p l e r_c_Book_init s m ([.ref h0] : List Value).toArray below meth c H locs (136 + 1 * i) (9762 + 5 * i) (MQ below (q_c_Book_init D h0 A) ([.ref h0] : List Value).toArray s 148 9822 A) (F0 m 149 ls []) := by
    intro n
    induction n with
    | zero =>
      intro i d w H locs ls hi hn hP hD hK hS hl
      exact absurd hn (by omega)
    | succ n ih =>
      intro i d w H locs ls hi hn hP hD hK hS hl
      refine lv_iload_n hx hb dX0_init_149 rfl (lv_at hl 0 rfl) ?_
      refine lv_bipush (v := 12) hx hb dX0_init_150 (by decide) ?_
      refine lv_icmp_ge (tgt := 174) hx hb dX0_init_152 (by decide) (fun c2 => ?_) (fun c2 => ?_)
      · have gc2 : 12 ≤ i := g_ge_ge (L := 12) (by omega) (by omega) c2
        have e9 : i = 12 := by omega
        subst e9
        have hP9 : va_P D vwCl (bkw h0 ((fun k => List.getD [0, q1, q6, q11, q16, q21, a_2, a_7, a_12, a_17, a_22, q26, q28, q30, q32, q34, q36] k 0, fun k => List.getD [k_3, k_3, k_3, k_3, k_3, k_3, k_3, k_8, k_13, k_18, k_23, k27, k29, k31, k33, k35, k37] k k_3, d, w) : BU)) H := va_Pap ((va_Pl hP).sub (ws' := be17 h0 ((fun k => List.getD [0, q1, q6, q11, q16, q21, a_2, a_7, a_12, a_17, a_22, q26, q28, q30, q32, q34, q36] k 0, fun k => List.getD [k_3, k_3, k_3, k_3, k_3, k_3, k_3, k_8, k_13, k_18, k_23, k27, k29, k31, k33, k35, k37] k k_3, d, w) : BU)) [0, 1, 3, 5, 7, 9, 2, 4, 6, 8, 10, 11, 12, 13, 14, 15, 16] rfl) (va_Pr hP)
        have hD9 : va_D A (bkw h0 ((fun k => List.getD [0, q1, q6, q11, q16, q21, a_2, a_7, a_12, a_17, a_22, q26, q28, q30, q32, q34, q36] k 0, fun k => List.getD [k_3, k_3, k_3, k_3, k_3, k_3, k_3, k_8, k_13, k_18, k_23, k27, k29, k31, k33, k35, k37] k k_3, d, w) : BU)) := va_Dap ((va_Dl hD).sub (ws' := be17 h0 ((fun k => List.getD [0, q1, q6, q11, q16, q21, a_2, a_7, a_12, a_17, a_22, q26, q28, q30, q32, q34, q36] k 0, fun k => List.getD [k_3, k_3, k_3, k_3, k_3, k_3, k_3, k_8, k_13, k_18, k_23, k27, k29, k31, k33, k35, k37] k k_3, d, w) : BU)) [0, 1, 3, 5, 7, 9, 2, 4, 6, 8, 10, 11, 12, 13, 14, 15, 16] (by decide) rfl) (va_Dr hD) (dj_sub (wc := be17 h0 ((fun k => List.getD [0, q1, q6, q11, q16, q21, a_2, a_7, a_12, a_17, a_22, q26, q28, q30, q32, q34, q36] k 0, fun k => List.getD [k_3, k_3, k_3, k_3, k_3, k_3, k_3, k_8, k_13, k_18, k_23, k27, k29, k31, k33, k35, k37] k k_3, d, w) : BU)) [0, 1, 3, 5, 7, 9, 2, 4, 6, 8, 10, 11, 12, 13, 14, 15, 16] rfl (dj_ap hD))
        have hK9 : va_K D vwCl (bkt ((fun k => List.getD [0, q1, q6, q11, q16, q21, a_2, a_7, a_12, a_17, a_22, q26, q28, q30, q32, q34, q36] k 0, fun k => List.getD [k_3, k_3, k_3, k_3, k_3, k_3, k_3, k_8, k_13, k_18, k_23, k27, k29, k31, k33, k35, k37] k k_3, d, w) : BU)) s := ((va_Kl hK).sub (tys' := bt11 ((fun k => List.getD [0, q1, q6, q11, q16, q21, a_2, a_7, a_12, a_17, a_22, q26, q28, q30, q32, q34, q36] k 0, fun k => List.getD [k_3, k_3, k_3, k_3, k_3, k_3, k_3, k_8, k_13, k_18, k_23, k27, k29, k31, k33, k35, k37] k k_3, d, w) : BU)) [0, 1, 2, 3, 4, 5, 6, 7, 8, 9, 10] rfl).app (va_Kr hK)
        refine W.widen (k := 148) (n := 9822) (Nat.le_of_ble_eq_true rfl) (Nat.le_of_ble_eq_true rfl) ?_
        exact W.vret hx hb hr (fun t ht hW => ⟨⟨((fun k => List.getD [0, q1, q6, q11, q16, q21, a_2, a_7, a_12, a_17, a_22, q26, q28, q30, q32, q34, q36] k 0, fun k => List.getD [k_3, k_3, k_3, k_3, k_3, k_3, k_3, k_8, k_13, k_18, k_23, k27, k29, k31, k33, k35, k37] k k_3, d, w) : BU), rfl, trivial, by rw [ht]; exact hP9, va_K.moved hW.alike hK9, hD9⟩, hS.F ht⟩) hS.2.2 dX0_init_174
      · have gc2 : i < 12 := g_lt_ge (L := 12) (by omega) (by omega) c2
        refine lv_aload_n hx hb dX0_init_155 rfl (lv_at hl 1 rfl) ?_
        refine va_get (D := D) (ci := 0) (v := .ref q32) (C := RX0) (T := TX0) (N := 13) hx hb hg inX0 hown hK hP 0 rfl rfl 8 (by decide) (hg _ w619) (fun _ h9 => h9) rfl dX0_init_156 ?_
        refine lv_iload_n hx hb dX0_init_159 rfl (lv_at hl 0 rfl) ?_
        refine va_new (ci := 10) (fs := [.int 0, .int 0, .int 0, .int 0, .int 0]) (C := RX10) (T := TX10) (N := 5) hx hb hg inX10 tyX10 tyX10_ok hown (hg _ w492) (hg _ w570) (hg _ w170) hK hP hD hS hA rfl nfX10 (by show 136 + 1 * i + 1 ≤ 148; (first | exact om_4c7f92a00236 gc2 | omega)) (by show 9762 + 5 * i + 5 ≤ 9822; (first | exact om_ecdab5b674bb gc2 | omega)) dX0_init_160 (fun qn H hP hD hS => ?_)
        have hP : va_P D vwCl (HAppend.hAppend (α := va_W) (β := va_W) (γ := va_W) [(h0, .inr (0, [.ref q1, .ref q6, .ref q11, .ref q16, .ref q21, .ref q26, .ref q28, .ref q30, .ref q32, .ref q34, .ref q36, .int 0, .int 0])), (q1, .inr (6, [.ref a_2, .int 0])), (a_2, .inl (k_3, 24, .inr (.inl (fun _ => 0)))), (q6, .inr (6, [.ref a_7, .int 0])), (a_7, .inl (k_8, 12, .inr (.inl (fun _ => 0)))), (q11, .inr (6, [.ref a_12, .int 0])), (a_12, .inl (k_13, 24, .inr (.inl (fun _ => 0)))), (q16, .inr (6, [.ref a_17, .int 0])), (a_17, .inl (k_18, 20, .inr (.inl (fun _ => 0)))), (q21, .inr (6, [.ref a_22, .int 0])), (a_22, .inl (k_23, 20, .inr (.inl (fun _ => 0)))), (q26, .inl (k27, 24, .inl (fun _ => 0))), (q28, .inl (k29, 12, .inl (fun _ => 0))), (q30, .inl (k31, 24, .inr (.inr (.inr (.inr (fun q => if q < 24 then some (d q).1 else none)))))), (q32, .inl (k33, 12, .inr (.inr (.inr (.inr (fun q => if q < i then some (w q) else none)))))), (q34, .inl (k35, 12, .inl (fun _ => 0))), (q36, .inl (k37, 8200, .inl (fun _ => 0))), (qn, .inr (10, [.int 0, .int 0, .int 0, .int 0, .int 0]))] (RC wblk w i ++ RC cblk d 24)) H := va_Prot hP
        have hD : va_D A (HAppend.hAppend (α := va_W) (β := va_W) (γ := va_W) [(h0, .inr (0, [.ref q1, .ref q6, .ref q11, .ref q16, .ref q21, .ref q26, .ref q28, .ref q30, .ref q32, .ref q34, .ref q36, .int 0, .int 0])), (q1, .inr (6, [.ref a_2, .int 0])), (a_2, .inl (k_3, 24, .inr (.inl (fun _ => 0)))), (q6, .inr (6, [.ref a_7, .int 0])), (a_7, .inl (k_8, 12, .inr (.inl (fun _ => 0)))), (q11, .inr (6, [.ref a_12, .int 0])), (a_12, .inl (k_13, 24, .inr (.inl (fun _ => 0)))), (q16, .inr (6, [.ref a_17, .int 0])), (a_17, .inl (k_18, 20, .inr (.inl (fun _ => 0)))), (q21, .inr (6, [.ref a_22, .int 0])), (a_22, .inl (k_23, 20, .inr (.inl (fun _ => 0)))), (q26, .inl (k27, 24, .inl (fun _ => 0))), (q28, .inl (k29, 12, .inl (fun _ => 0))), (q30, .inl (k31, 24, .inr (.inr (.inr (.inr (fun q => if q < 24 then some (d q).1 else none)))))), (q32, .inl (k33, 12, .inr (.inr (.inr (.inr (fun q => if q < i then some (w q) else none)))))), (q34, .inl (k35, 12, .inl (fun _ => 0))), (q36, .inl (k37, 8200, .inl (fun _ => 0))), (qn, .inr (10, [.int 0, .int 0, .int 0, .int 0, .int 0]))] (RC wblk w i ++ RC cblk d 24)) := va_Drot hD
        refine lv_dup hx hb dX0_init_163 rfl ?_
        refine gR_void (wr := [(h0, .inr (0, [.ref q1, .ref q6, .ref q11, .ref q16, .ref q21, .ref q26, .ref q28, .ref q30, .ref q32, .ref q34, .ref q36, .int 0, .int 0])), (q1, .inr (6, [.ref a_2, .int 0])), (a_2, .inl (k_3, 24, .inr (.inl (fun _ => 0)))), (q6, .inr (6, [.ref a_7, .int 0])), (a_7, .inl (k_8, 12, .inr (.inl (fun _ => 0)))), (q11, .inr (6, [.ref a_12, .int 0])), (a_12, .inl (k_13, 24, .inr (.inl (fun _ => 0)))), (q16, .inr (6, [.ref a_17, .int 0])), (a_17, .inl (k_18, 20, .inr (.inl (fun _ => 0)))), (q21, .inr (6, [.ref a_22, .int 0])), (a_22, .inl (k_23, 20, .inr (.inl (fun _ => 0)))), (q26, .inl (k27, 24, .inl (fun _ => 0))), (q28, .inl (k29, 12, .inl (fun _ => 0))), (q30, .inl (k31, 24, .inr (.inr (.inr (.inr (fun q => if q < 24 then some (d q).1 else none)))))), (q32, .inl (k33, 12, .inr (.inr (.inr (.inr (fun q => if q < i then some (w q) else none)))))), (q34, .inl (k35, 12, .inl (fun _ => 0))), (q36, .inl (k37, 8200, .inl (fun _ => 0)))]) (tr := [(k_3, .long), (k_8, .long), (k_13, .long), (k_18, .long), (k_23, .long), (k27, .int), (k29, .int), (k31, .object RX3), (k33, .object RX10), (k35, .int), (k37, .int)]) (g_runIN (As := []) (rest := [.ref qn, .int (nI i), .ref q32]) (wc := [(qn, .inr (10, [.int 0, .int 0, .int 0, .int 0, .int 0]))]) (tc := []) hx hb hml hown hg gw_self (va_Pl hP) (va_Dl hD) (va_Kl hK) hS hA hnw hgk [17] [] (by decide) rfl rfl (c_Wrap_init l D ks H.size qn) n571 w572 w170 w573 rfl hdS_yX10_init ⟨Nat.le_of_ble_eq_true rfl, Nat.le_of_ble_eq_true rfl⟩ rfl hl.1 rfl (Nat.le_of_ble_eq_true rfl) dX0_init_164 ⟨(by show 136 + 1 * i + 1 + 0 ≤ 148; (first | exact om_818b8312b926 gc2 | omega)), (by show 9762 + 5 * i + 5 + 0 ≤ 9822; (first | exact om_60beb380f0c2 gc2 | omega))⟩) hP hD hK hS hA [17] [0, 1, 2, 3, 4, 5, 6, 7, 8, 9, 10, 11, 12, 13, 14, 15, 16] [0, 1, 2, 3, 4, 5, 6, 7, 8, 9, 10] rfl rfl (by decide) (by decide) rfl (fun u H locs hw hP hD hK hS => ?_)
        refine va_cv hP hD (ws' := (HAppend.hAppend (α := va_W) (β := va_W) (γ := va_W) [(h0, .inr (0, [.ref q1, .ref q6, .ref q11, .ref q16, .ref q21, .ref q26, .ref q28, .ref q30, .ref q32, .ref q34, .ref q36, .int 0, .int 0])), (q1, .inr (6, [.ref a_2, .int 0])), (a_2, .inl (k_3, 24, .inr (.inl (fun _ => 0)))), (q6, .inr (6, [.ref a_7, .int 0])), (a_7, .inl (k_8, 12, .inr (.inl (fun _ => 0)))), (q11, .inr (6, [.ref a_12, .int 0])), (a_12, .inl (k_13, 24, .inr (.inl (fun _ => 0)))), (q16, .inr (6, [.ref a_17, .int 0])), (a_17, .inl (k_18, 20, .inr (.inl (fun _ => 0)))), (q21, .inr (6, [.ref a_22, .int 0])), (a_22, .inl (k_23, 20, .inr (.inl (fun _ => 0)))), (q26, .inl (k27, 24, .inl (fun _ => 0))), (q28, .inl (k29, 12, .inl (fun _ => 0))), (q30, .inl (k31, 24, .inr (.inr (.inr (.inr (fun q => if q < 24 then some (d q).1 else none)))))), (q32, .inl (k33, 12, .inr (.inr (.inr (.inr (fun q => if q < i then some (w q) else none)))))), (q34, .inl (k35, 12, .inl (fun _ => 0))), (q36, .inl (k37, 8200, .inl (fun _ => 0))), (qn, .inr (10, [.int 0, .int 0, .int 0, .int 0, .int 0]))] (RC wblk w i ++ RC cblk d 24))) rfl (fun hP hD => ?_)
        have hK : va_K D vwCl ([(k_3, .long), (k_8, .long), (k_13, .long), (k_18, .long), (k_23, .long), (k27, .int), (k29, .int), (k31, .object RX3), (k33, .object RX10), (k35, .int), (k37, .int)] ++ RTy cty d 24) s := hK
        refine va_astq (D := D) (i := nI i) (v := qn) (r := (RX10, TX10, 5)) hx hb hK hP hD hS 14 8 17 10 rfl rfl rfl rfl (vp_in_nI (by omega) (by omega)) dX0_init_167 (fun H locs hP hD hS => ?_)
        refine va_cv hP hD (ws' := (HAppend.hAppend (α := va_W) (β := va_W) (γ := va_W) [(h0, .inr (0, [.ref q1, .ref q6, .ref q11, .ref q16, .ref q21, .ref q26, .ref q28, .ref q30, .ref q32, .ref q34, .ref q36, .int 0, .int 0])), (q1, .inr (6, [.ref a_2, .int 0])), (a_2, .inl (k_3, 24, .inr (.inl (fun _ => 0)))), (q6, .inr (6, [.ref a_7, .int 0])), (a_7, .inl (k_8, 12, .inr (.inl (fun _ => 0)))), (q11, .inr (6, [.ref a_12, .int 0])), (a_12, .inl (k_13, 24, .inr (.inl (fun _ => 0)))), (q16, .inr (6, [.ref a_17, .int 0])), (a_17, .inl (k_18, 20, .inr (.inl (fun _ => 0)))), (q21, .inr (6, [.ref a_22, .int 0])), (a_22, .inl (k_23, 20, .inr (.inl (fun _ => 0)))), (q26, .inl (k27, 24, .inl (fun _ => 0))), (q28, .inl (k29, 12, .inl (fun _ => 0))), (q30, .inl (k31, 24, .inr (.inr (.inr (.inr (fun q => if q < 24 then some (d q).1 else none)))))), (q32, .inl (k33, 12, .inr (.inr (.inr (.inr (va_up (fun q => if q < i then some (w q) else none) (Int32.toNatClampNeg (nI i)) (some qn))))))), (q34, .inl (k35, 12, .inl (fun _ => 0))), (q36, .inl (k37, 8200, .inl (fun _ => 0))), (qn, .inr (10, [.int 0, .int 0, .int 0, .int 0, .int 0]))] (RC wblk w i ++ RC cblk d 24))) rfl (fun hP hD => ?_)
        rw [nI_clamp (by omega)] at hP hD
        have eup : va_up (fun q => if q < i then some (w q) else none) i (some qn) = (fun q => if q < i + 1 then some (if q = i then qn else w q) else none) := up_fn (fst := fun y : Nat => y) (d := w) (x := qn) (n := i)
        rw [eup] at hP hD
        have hP : va_P D vwCl (HAppend.hAppend (α := va_W) (β := va_W) (γ := va_W) [(h0, .inr (0, [.ref q1, .ref q6, .ref q11, .ref q16, .ref q21, .ref q26, .ref q28, .ref q30, .ref q32, .ref q34, .ref q36, .int 0, .int 0])), (q1, .inr (6, [.ref a_2, .int 0])), (a_2, .inl (k_3, 24, .inr (.inl (fun _ => 0)))), (q6, .inr (6, [.ref a_7, .int 0])), (a_7, .inl (k_8, 12, .inr (.inl (fun _ => 0)))), (q11, .inr (6, [.ref a_12, .int 0])), (a_12, .inl (k_13, 24, .inr (.inl (fun _ => 0)))), (q16, .inr (6, [.ref a_17, .int 0])), (a_17, .inl (k_18, 20, .inr (.inl (fun _ => 0)))), (q21, .inr (6, [.ref a_22, .int 0])), (a_22, .inl (k_23, 20, .inr (.inl (fun _ => 0)))), (q26, .inl (k27, 24, .inl (fun _ => 0))), (q28, .inl (k29, 12, .inl (fun _ => 0))), (q30, .inl (k31, 24, .inr (.inr (.inr (.inr (fun q => if q < 24 then some (d q).1 else none)))))), (q32, .inl (k33, 12, .inr (.inr (.inr (.inr (fun q => if q < i + 1 then some (if q = i then qn else w q) else none)))))), (q34, .inl (k35, 12, .inl (fun _ => 0))), (q36, .inl (k37, 8200, .inl (fun _ => 0)))] (RC wblk (fun j => if j = i then qn else w j) (i + 1) ++ RC cblk d 24)) H := by rw [RC_up]; exact hP
        have hD : va_D A (HAppend.hAppend (α := va_W) (β := va_W) (γ := va_W) [(h0, .inr (0, [.ref q1, .ref q6, .ref q11, .ref q16, .ref q21, .ref q26, .ref q28, .ref q30, .ref q32, .ref q34, .ref q36, .int 0, .int 0])), (q1, .inr (6, [.ref a_2, .int 0])), (a_2, .inl (k_3, 24, .inr (.inl (fun _ => 0)))), (q6, .inr (6, [.ref a_7, .int 0])), (a_7, .inl (k_8, 12, .inr (.inl (fun _ => 0)))), (q11, .inr (6, [.ref a_12, .int 0])), (a_12, .inl (k_13, 24, .inr (.inl (fun _ => 0)))), (q16, .inr (6, [.ref a_17, .int 0])), (a_17, .inl (k_18, 20, .inr (.inl (fun _ => 0)))), (q21, .inr (6, [.ref a_22, .int 0])), (a_22, .inl (k_23, 20, .inr (.inl (fun _ => 0)))), (q26, .inl (k27, 24, .inl (fun _ => 0))), (q28, .inl (k29, 12, .inl (fun _ => 0))), (q30, .inl (k31, 24, .inr (.inr (.inr (.inr (fun q => if q < 24 then some (d q).1 else none)))))), (q32, .inl (k33, 12, .inr (.inr (.inr (.inr (fun q => if q < i + 1 then some (if q = i then qn else w q) else none)))))), (q34, .inl (k35, 12, .inl (fun _ => 0))), (q36, .inl (k37, 8200, .inl (fun _ => 0)))] (RC wblk (fun j => if j = i then qn else w j) (i + 1) ++ RC cblk d 24)) := by rw [RC_up]; exact hD
        have hK : va_K D vwCl ([(k_3, .long), (k_8, .long), (k_13, .long), (k_18, .long), (k_23, .long), (k27, .int), (k29, .int), (k31, .object RX3), (k33, .object RX10), (k35, .int), (k37, .int)] ++ RTy cty d 24) s := hK
        refine lv_iinc (v := (nI (i + 1))) (lv' := [(1, .int (nI (i + 1))), (0, .ref h0)]) hx hb dX0_init_168 hl (k := 0) rfl (nI_1 _) (by decide) rfl (fun ls hl => ?_)
        refine lv_goto (tgt := 149) hx hb dX0_init_171 (by decide) ?_
        refine W.widen (k := 136 + 1 * (i + 1)) (n := 9762 + 5 * (i + 1)) (by show 136 + 1 * i + 1 + 0 ≤ 136 + 1 * (i + 1); (first | exact om_097b5fa772dd | omega)) (by show 9762 + 5 * i + 5 + 0 ≤ 9762 + 5 * (i + 1); (first | exact om_6be2806efb3d | omega)) ?_
        exact ih (i + 1) d (fun j => if j = i then qn else w j) H locs ls (by omega) (by omega) hP hD hK hS hl
  have lp1 : ∀ (n i : Nat) (d : Nat → CU) (H : Heap) (locs : List Loc) (ls : Array Slot), i ≤ 24 → 24 < i + n → va_P D vwCl ([(h0, .inr (0, [.ref q1, .ref q6, .ref q11, .ref q16, .ref q21, .ref q26, .ref q28, .ref q30, .ref q32, .ref q34, .ref q36, .int 0, .int 0])), (q1, .inr (6, [.ref a_2, .int 0])), (a_2, .inl (k_3, 24, .inr (.inl (fun _ => 0)))), (q6, .inr (6, [.ref a_7, .int 0])), (a_7, .inl (k_8, 12, .inr (.inl (fun _ => 0)))), (q11, .inr (6, [.ref a_12, .int 0])), (a_12, .inl (k_13, 24, .inr (.inl (fun _ => 0)))), (q16, .inr (6, [.ref a_17, .int 0])), (a_17, .inl (k_18, 20, .inr (.inl (fun _ => 0)))), (q21, .inr (6, [.ref a_22, .int 0])), (a_22, .inl (k_23, 20, .inr (.inl (fun _ => 0)))), (q26, .inl (k27, 24, .inl (fun _ => 0))), (q28, .inl (k29, 12, .inl (fun _ => 0))), (q30, .inl (k31, 24, .inr (.inr (.inr (.inr (fun q => if q < i then some (d q).1 else none)))))), (q32, .inl (k33, 12, .inr (.inr (.inr (.inr (fun _ => none)))))), (q34, .inl (k35, 12, .inl (fun _ => 0))), (q36, .inl (k37, 8200, .inl (fun _ => 0)))] ++ RC cblk d i) H → va_D A ([(h0, .inr (0, [.ref q1, .ref q6, .ref q11, .ref q16, .ref q21, .ref q26, .ref q28, .ref q30, .ref q32, .ref q34, .ref q36, .int 0, .int 0])), (q1, .inr (6, [.ref a_2, .int 0])), (a_2, .inl (k_3, 24, .inr (.inl (fun _ => 0)))), (q6, .inr (6, [.ref a_7, .int 0])), (a_7, .inl (k_8, 12, .inr (.inl (fun _ => 0)))), (q11, .inr (6, [.ref a_12, .int 0])), (a_12, .inl (k_13, 24, .inr (.inl (fun _ => 0)))), (q16, .inr (6, [.ref a_17, .int 0])), (a_17, .inl (k_18, 20, .inr (.inl (fun _ => 0)))), (q21, .inr (6, [.ref a_22, .int 0])), (a_22, .inl (k_23, 20, .inr (.inl (fun _ => 0)))), (q26, .inl (k27, 24, .inl (fun _ => 0))), (q28, .inl (k29, 12, .inl (fun _ => 0))), (q30, .inl (k31, 24, .inr (.inr (.inr (.inr (fun q => if q < i then some (d q).1 else none)))))), (q32, .inl (k33, 12, .inr (.inr (.inr (.inr (fun _ => none)))))), (q34, .inl (k35, 12, .inl (fun _ => 0))), (q36, .inl (k37, 8200, .inl (fun _ => 0)))] ++ RC cblk d i) → va_K D vwCl ([(k_3, .long), (k_8, .long), (k_13, .long), (k_18, .long), (k_23, .long), (k27, .int), (k29, .int), (k31, .object RX3), (k33, .object RX10), (k35, .int), (k37, .int)] ++ RTy cty d i) s → va_S A s.heap H locs → lv_has ls 2 [(1, .int (nI i)), (0, .ref h0)] → W p l e r_c_Book_init s m ([.ref h0] : List Value).toArray below meth c H locs (16 + 5 * i) (8394 + 57 * i) (MQ below (q_c_Book_init D h0 A) ([.ref h0] : List Value).toArray s 148 9822 A) (F0 m 122 ls []) := by
    intro n
    induction n with
    | zero =>
      intro i d H locs ls hi hn hP hD hK hS hl
      exact absurd hn (by omega)
    | succ n ih =>
      intro i d H locs ls hi hn hP hD hK hS hl
      refine lv_iload_n hx hb dX0_init_122 rfl (lv_at hl 0 rfl) ?_
      refine lv_bipush (v := 24) hx hb dX0_init_123 (by decide) ?_
      refine lv_icmp_ge (tgt := 147) hx hb dX0_init_125 (by decide) (fun c2 => ?_) (fun c2 => ?_)
      · have gc2 : 24 ≤ i := g_ge_ge (L := 24) (by omega) (by omega) c2
        have e9 : i = 24 := by omega
        subst e9
        refine lv_iconst (v := 0) hx hb dX0_init_147 (by decide) ?_
        refine lv_istore_n (lv' := [(1, .int (nI 0)), (0, .ref h0)]) hx hb dX0_init_148 rfl hl (by decide) rfl (fun ls hl => ?_)
        have ew0 : (fun _ => none : Nat → Option Nat) = (fun q => if q < 0 then some ((fun _ => 0 : Nat → Nat) q) else none) := by funext q; rw [if_neg (Nat.not_lt_zero q)]
        exact lp2 13 0 d (fun _ => 0) H locs ls (by omega) (by omega) (by rw [← ew0]; exact hP) (by rw [← ew0]; exact hD) hK hS hl
      · have gc2 : i < 24 := g_lt_ge (L := 24) (by omega) (by omega) c2
        refine lv_aload_n hx hb dX0_init_128 rfl (lv_at hl 1 rfl) ?_
        refine va_get (D := D) (ci := 0) (v := .ref q30) (C := RX0) (T := TX0) (N := 13) hx hb hg inX0 hown hK hP 0 rfl rfl 7 (by decide) (hg _ w614) (fun _ h9 => h9) rfl dX0_init_129 ?_
        refine lv_iload_n hx hb dX0_init_132 rfl (lv_at hl 0 rfl) ?_
        refine va_new (ci := 3) (fs := [.null, .null, .null, .null, .int 0, .int 0, .int 0, .int 0, .int 0, .int 0, .int 0, .int 0, .int 0]) (C := RX3) (T := TX3) (N := 13) hx hb hg inX3 tyX3 tyX3_ok hown (hg _ w490) (hg _ w494) (hg _ w169) hK hP hD hS hA rfl nfX3 (by show 16 + 5 * i + 1 ≤ 148; (first | exact om_7f8c846ea616 gc2 | omega)) (by show 8394 + 57 * i + 13 ≤ 9822; (first | exact om_74d79b0c04be gc2 | omega)) dX0_init_133 (fun qn H hP hD hS => ?_)
        have hP : va_P D vwCl ([(h0, .inr (0, [.ref q1, .ref q6, .ref q11, .ref q16, .ref q21, .ref q26, .ref q28, .ref q30, .ref q32, .ref q34, .ref q36, .int 0, .int 0])), (q1, .inr (6, [.ref a_2, .int 0])), (a_2, .inl (k_3, 24, .inr (.inl (fun _ => 0)))), (q6, .inr (6, [.ref a_7, .int 0])), (a_7, .inl (k_8, 12, .inr (.inl (fun _ => 0)))), (q11, .inr (6, [.ref a_12, .int 0])), (a_12, .inl (k_13, 24, .inr (.inl (fun _ => 0)))), (q16, .inr (6, [.ref a_17, .int 0])), (a_17, .inl (k_18, 20, .inr (.inl (fun _ => 0)))), (q21, .inr (6, [.ref a_22, .int 0])), (a_22, .inl (k_23, 20, .inr (.inl (fun _ => 0)))), (q26, .inl (k27, 24, .inl (fun _ => 0))), (q28, .inl (k29, 12, .inl (fun _ => 0))), (q30, .inl (k31, 24, .inr (.inr (.inr (.inr (fun q => if q < i then some (d q).1 else none)))))), (q32, .inl (k33, 12, .inr (.inr (.inr (.inr (fun _ => none)))))), (q34, .inl (k35, 12, .inl (fun _ => 0))), (q36, .inl (k37, 8200, .inl (fun _ => 0))), (qn, .inr (3, [.null, .null, .null, .null, .int 0, .int 0, .int 0, .int 0, .int 0, .int 0, .int 0, .int 0, .int 0]))] ++ RC cblk d i) H := va_Prot hP
        have hD : va_D A ([(h0, .inr (0, [.ref q1, .ref q6, .ref q11, .ref q16, .ref q21, .ref q26, .ref q28, .ref q30, .ref q32, .ref q34, .ref q36, .int 0, .int 0])), (q1, .inr (6, [.ref a_2, .int 0])), (a_2, .inl (k_3, 24, .inr (.inl (fun _ => 0)))), (q6, .inr (6, [.ref a_7, .int 0])), (a_7, .inl (k_8, 12, .inr (.inl (fun _ => 0)))), (q11, .inr (6, [.ref a_12, .int 0])), (a_12, .inl (k_13, 24, .inr (.inl (fun _ => 0)))), (q16, .inr (6, [.ref a_17, .int 0])), (a_17, .inl (k_18, 20, .inr (.inl (fun _ => 0)))), (q21, .inr (6, [.ref a_22, .int 0])), (a_22, .inl (k_23, 20, .inr (.inl (fun _ => 0)))), (q26, .inl (k27, 24, .inl (fun _ => 0))), (q28, .inl (k29, 12, .inl (fun _ => 0))), (q30, .inl (k31, 24, .inr (.inr (.inr (.inr (fun q => if q < i then some (d q).1 else none)))))), (q32, .inl (k33, 12, .inr (.inr (.inr (.inr (fun _ => none)))))), (q34, .inl (k35, 12, .inl (fun _ => 0))), (q36, .inl (k37, 8200, .inl (fun _ => 0))), (qn, .inr (3, [.null, .null, .null, .null, .int 0, .int 0, .int 0, .int 0, .int 0, .int 0, .int 0, .int 0, .int 0]))] ++ RC cblk d i) := va_Drot hD
        refine lv_dup hx hb dX0_init_136 rfl ?_
        refine gR_void (wr := [(h0, .inr (0, [.ref q1, .ref q6, .ref q11, .ref q16, .ref q21, .ref q26, .ref q28, .ref q30, .ref q32, .ref q34, .ref q36, .int 0, .int 0])), (q1, .inr (6, [.ref a_2, .int 0])), (a_2, .inl (k_3, 24, .inr (.inl (fun _ => 0)))), (q6, .inr (6, [.ref a_7, .int 0])), (a_7, .inl (k_8, 12, .inr (.inl (fun _ => 0)))), (q11, .inr (6, [.ref a_12, .int 0])), (a_12, .inl (k_13, 24, .inr (.inl (fun _ => 0)))), (q16, .inr (6, [.ref a_17, .int 0])), (a_17, .inl (k_18, 20, .inr (.inl (fun _ => 0)))), (q21, .inr (6, [.ref a_22, .int 0])), (a_22, .inl (k_23, 20, .inr (.inl (fun _ => 0)))), (q26, .inl (k27, 24, .inl (fun _ => 0))), (q28, .inl (k29, 12, .inl (fun _ => 0))), (q30, .inl (k31, 24, .inr (.inr (.inr (.inr (fun q => if q < i then some (d q).1 else none)))))), (q32, .inl (k33, 12, .inr (.inr (.inr (.inr (fun _ => none)))))), (q34, .inl (k35, 12, .inl (fun _ => 0))), (q36, .inl (k37, 8200, .inl (fun _ => 0)))]) (tr := [(k_3, .long), (k_8, .long), (k_13, .long), (k_18, .long), (k_23, .long), (k27, .int), (k29, .int), (k31, .object RX3), (k33, .object RX10), (k35, .int), (k37, .int)]) (g_runIN (As := []) (rest := [.ref qn, .int (nI i), .ref q30]) (wc := [(qn, .inr (3, [.null, .null, .null, .null, .int 0, .int 0, .int 0, .int 0, .int 0, .int 0, .int 0, .int 0, .int 0]))]) (tc := []) hx hb hml hown hg gw_self (va_Pl hP) (va_Dl hD) (va_Kl hK) hS hA hnw hgk [17] [] (by decide) rfl rfl (c_Component_init l D ks H.size qn) n495 w496 w169 w497 rfl hdS_yX3_init ⟨Nat.le_of_ble_eq_true rfl, Nat.le_of_ble_eq_true rfl⟩ rfl hl.1 rfl (Nat.le_of_ble_eq_true rfl) dX0_init_137 ⟨(by show 16 + 5 * i + 1 + 4 ≤ 148; (first | exact om_b687616ed6d7 gc2 | omega)), (by show 8394 + 57 * i + 13 + 44 ≤ 9822; (first | exact om_bee8ef8ad682 gc2 | omega))⟩) hP hD hK hS hA [17] [0, 1, 2, 3, 4, 5, 6, 7, 8, 9, 10, 11, 12, 13, 14, 15, 16] [0, 1, 2, 3, 4, 5, 6, 7, 8, 9, 10] rfl rfl (by decide) (by decide) rfl (fun u H locs hw hP hD hK hS => ?_)
        obtain ⟨a0, a1, a2, a3, k0, k1, k2, k3⟩ := u
        refine va_cv hP hD (ws' := ([(h0, .inr (0, [.ref q1, .ref q6, .ref q11, .ref q16, .ref q21, .ref q26, .ref q28, .ref q30, .ref q32, .ref q34, .ref q36, .int 0, .int 0])), (q1, .inr (6, [.ref a_2, .int 0])), (a_2, .inl (k_3, 24, .inr (.inl (fun _ => 0)))), (q6, .inr (6, [.ref a_7, .int 0])), (a_7, .inl (k_8, 12, .inr (.inl (fun _ => 0)))), (q11, .inr (6, [.ref a_12, .int 0])), (a_12, .inl (k_13, 24, .inr (.inl (fun _ => 0)))), (q16, .inr (6, [.ref a_17, .int 0])), (a_17, .inl (k_18, 20, .inr (.inl (fun _ => 0)))), (q21, .inr (6, [.ref a_22, .int 0])), (a_22, .inl (k_23, 20, .inr (.inl (fun _ => 0)))), (q26, .inl (k27, 24, .inl (fun _ => 0))), (q28, .inl (k29, 12, .inl (fun _ => 0))), (q30, .inl (k31, 24, .inr (.inr (.inr (.inr (fun q => if q < i then some (d q).1 else none)))))), (q32, .inl (k33, 12, .inr (.inr (.inr (.inr (fun _ => none)))))), (q34, .inl (k35, 12, .inl (fun _ => 0))), (q36, .inl (k37, 8200, .inl (fun _ => 0))), (qn, .inr (3, [.ref a0, .ref a1, .ref a2, .ref a3, .int 0, .int 0, .int 0, .int 0, .int 0, .int 0, .int 0, .int 0, .int 0])), (a0, .inl (k0, 8, .inl (fun _ => 0))), (a1, .inl (k1, 8, .inl (fun _ => 0))), (a2, .inl (k2, 8, .inl (fun _ => 0))), (a3, .inl (k3, 20, .inl (fun _ => 0)))] ++ RC cblk d i)) rfl (fun hP hD => ?_)
        have hK : va_K D vwCl ([(k_3, .long), (k_8, .long), (k_13, .long), (k_18, .long), (k_23, .long), (k27, .int), (k29, .int), (k31, .object RX3), (k33, .object RX10), (k35, .int), (k37, .int), (k0, .int), (k1, .int), (k2, .int), (k3, .int)] ++ RTy cty d i) s := hK
        refine va_astq (D := D) (i := nI i) (v := qn) (r := (RX3, TX3, 13)) hx hb hK hP hD hS 13 7 17 3 rfl rfl rfl rfl (vp_in_nI (by omega) (by omega)) dX0_init_140 (fun H locs hP hD hS => ?_)
        refine va_cv hP hD (ws' := ([(h0, .inr (0, [.ref q1, .ref q6, .ref q11, .ref q16, .ref q21, .ref q26, .ref q28, .ref q30, .ref q32, .ref q34, .ref q36, .int 0, .int 0])), (q1, .inr (6, [.ref a_2, .int 0])), (a_2, .inl (k_3, 24, .inr (.inl (fun _ => 0)))), (q6, .inr (6, [.ref a_7, .int 0])), (a_7, .inl (k_8, 12, .inr (.inl (fun _ => 0)))), (q11, .inr (6, [.ref a_12, .int 0])), (a_12, .inl (k_13, 24, .inr (.inl (fun _ => 0)))), (q16, .inr (6, [.ref a_17, .int 0])), (a_17, .inl (k_18, 20, .inr (.inl (fun _ => 0)))), (q21, .inr (6, [.ref a_22, .int 0])), (a_22, .inl (k_23, 20, .inr (.inl (fun _ => 0)))), (q26, .inl (k27, 24, .inl (fun _ => 0))), (q28, .inl (k29, 12, .inl (fun _ => 0))), (q30, .inl (k31, 24, .inr (.inr (.inr (.inr (va_up (fun q => if q < i then some (d q).1 else none) (Int32.toNatClampNeg (nI i)) (some qn))))))), (q32, .inl (k33, 12, .inr (.inr (.inr (.inr (fun _ => none)))))), (q34, .inl (k35, 12, .inl (fun _ => 0))), (q36, .inl (k37, 8200, .inl (fun _ => 0))), (qn, .inr (3, [.ref a0, .ref a1, .ref a2, .ref a3, .int 0, .int 0, .int 0, .int 0, .int 0, .int 0, .int 0, .int 0, .int 0])), (a0, .inl (k0, 8, .inl (fun _ => 0))), (a1, .inl (k1, 8, .inl (fun _ => 0))), (a2, .inl (k2, 8, .inl (fun _ => 0))), (a3, .inl (k3, 20, .inl (fun _ => 0)))] ++ RC cblk d i)) rfl (fun hP hD => ?_)
        rw [nI_clamp (by omega)] at hP hD
        have eup : va_up (fun q => if q < i then some (d q).1 else none) i (some qn) = (fun q => if q < i + 1 then some (if q = i then ((qn, a0, a1, a2, a3, k0, k1, k2, k3) : CU) else d q).1 else none) := up_fn (fst := fun y : CU => y.1) (d := d) (x := ((qn, a0, a1, a2, a3, k0, k1, k2, k3) : CU)) (n := i)
        rw [eup] at hP hD
        have hP : va_P D vwCl ([(h0, .inr (0, [.ref q1, .ref q6, .ref q11, .ref q16, .ref q21, .ref q26, .ref q28, .ref q30, .ref q32, .ref q34, .ref q36, .int 0, .int 0])), (q1, .inr (6, [.ref a_2, .int 0])), (a_2, .inl (k_3, 24, .inr (.inl (fun _ => 0)))), (q6, .inr (6, [.ref a_7, .int 0])), (a_7, .inl (k_8, 12, .inr (.inl (fun _ => 0)))), (q11, .inr (6, [.ref a_12, .int 0])), (a_12, .inl (k_13, 24, .inr (.inl (fun _ => 0)))), (q16, .inr (6, [.ref a_17, .int 0])), (a_17, .inl (k_18, 20, .inr (.inl (fun _ => 0)))), (q21, .inr (6, [.ref a_22, .int 0])), (a_22, .inl (k_23, 20, .inr (.inl (fun _ => 0)))), (q26, .inl (k27, 24, .inl (fun _ => 0))), (q28, .inl (k29, 12, .inl (fun _ => 0))), (q30, .inl (k31, 24, .inr (.inr (.inr (.inr (fun q => if q < i + 1 then some (if q = i then ((qn, a0, a1, a2, a3, k0, k1, k2, k3) : CU) else d q).1 else none)))))), (q32, .inl (k33, 12, .inr (.inr (.inr (.inr (fun _ => none)))))), (q34, .inl (k35, 12, .inl (fun _ => 0))), (q36, .inl (k37, 8200, .inl (fun _ => 0)))] ++ RC cblk (fun j => if j = i then ((qn, a0, a1, a2, a3, k0, k1, k2, k3) : CU) else d j) (i + 1)) H := by rw [RC_up]; exact hP
        have hD : va_D A ([(h0, .inr (0, [.ref q1, .ref q6, .ref q11, .ref q16, .ref q21, .ref q26, .ref q28, .ref q30, .ref q32, .ref q34, .ref q36, .int 0, .int 0])), (q1, .inr (6, [.ref a_2, .int 0])), (a_2, .inl (k_3, 24, .inr (.inl (fun _ => 0)))), (q6, .inr (6, [.ref a_7, .int 0])), (a_7, .inl (k_8, 12, .inr (.inl (fun _ => 0)))), (q11, .inr (6, [.ref a_12, .int 0])), (a_12, .inl (k_13, 24, .inr (.inl (fun _ => 0)))), (q16, .inr (6, [.ref a_17, .int 0])), (a_17, .inl (k_18, 20, .inr (.inl (fun _ => 0)))), (q21, .inr (6, [.ref a_22, .int 0])), (a_22, .inl (k_23, 20, .inr (.inl (fun _ => 0)))), (q26, .inl (k27, 24, .inl (fun _ => 0))), (q28, .inl (k29, 12, .inl (fun _ => 0))), (q30, .inl (k31, 24, .inr (.inr (.inr (.inr (fun q => if q < i + 1 then some (if q = i then ((qn, a0, a1, a2, a3, k0, k1, k2, k3) : CU) else d q).1 else none)))))), (q32, .inl (k33, 12, .inr (.inr (.inr (.inr (fun _ => none)))))), (q34, .inl (k35, 12, .inl (fun _ => 0))), (q36, .inl (k37, 8200, .inl (fun _ => 0)))] ++ RC cblk (fun j => if j = i then ((qn, a0, a1, a2, a3, k0, k1, k2, k3) : CU) else d j) (i + 1)) := by rw [RC_up]; exact hD
        have hK : va_K D vwCl ([(k_3, .long), (k_8, .long), (k_13, .long), (k_18, .long), (k_23, .long), (k27, .int), (k29, .int), (k31, .object RX3), (k33, .object RX10), (k35, .int), (k37, .int)] ++ RTy cty (fun j => if j = i then ((qn, a0, a1, a2, a3, k0, k1, k2, k3) : CU) else d j) (i + 1)) s := by rw [RTy_up]; exact hK
        refine lv_iinc (v := (nI (i + 1))) (lv' := [(1, .int (nI (i + 1))), (0, .ref h0)]) hx hb dX0_init_141 hl (k := 0) rfl (nI_1 _) (by decide) rfl (fun ls hl => ?_)
        refine lv_goto (tgt := 122) hx hb dX0_init_144 (by decide) ?_
        refine W.widen (k := 16 + 5 * (i + 1)) (n := 8394 + 57 * (i + 1)) (by show 16 + 5 * i + 1 + 4 ≤ 16 + 5 * (i + 1); (first | exact om_aa89c9edebfc | omega)) (by show 8394 + 57 * i + 13 + 44 ≤ 8394 + 57 * (i + 1); (first | exact om_dd313040f34f | omega)) ?_
        exact ih (i + 1) (fun j => if j = i then ((qn, a0, a1, a2, a3, k0, k1, k2, k3) : CU) else d j) H locs ls (by omega) (by omega) hP hD hK hS hl
  have ec0 : (fun _ => none : Nat → Option Nat) = (fun q => if q < 0 then some ((fun _ => (0, 0, 0, 0, 0, k31, k31, k31, k31) : Nat → CU) q).1 else none) := by funext q; rw [if_neg (Nat.not_lt_zero q)]
  refine W.widen (k := 16 + 5 * 0) (n := 8394 + 57 * 0) (Nat.le_of_ble_eq_true rfl) (Nat.le_of_ble_eq_true rfl) ?_
  exact lp1 25 0 (fun _ => (0, 0, 0, 0, 0, k31, k31, k31, k31)) H locs ls (by omega) (by omega) (by rw [← ec0]; exact hP) (by rw [← ec0]; exact hD) hK hS hl
end
