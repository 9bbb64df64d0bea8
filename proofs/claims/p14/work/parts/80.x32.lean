/-! what holds of the class between the calls -/
def HI (V : Vf) (Z : XZ) (b : Nat) : Prop := SL V Z ∧ Z.nf ≤ 400 ∧ (∀ o : Nat, (o : Int) < (V 3 13).toInt → (V 26 o).toInt < (V 43 (5 * b + 2)).toInt) ∧ ((0 ≤ (V 3 13).toInt ∧ (V 3 13).toInt ≤ 300) ∧ 0 ≤ (V 3 15).toInt) ∧ ((V 3 15).toInt + 203 * (300 - (V 3 13).toInt) ≤ (V 44 0).toInt ∧ (V 44 0).toInt ≤ 250000) ∧ TX V b ∧ CD V b ∧ (V 5 5).toInt = (b : Int) ∧ LN Z.ln ∧ PT V
theorem MI.hi {V : Vf} {Z : XZ} {b : Nat} {g : Nat → Nat} {n r : Nat} {w v u : Prop} (h : MI V Z b g n r w v u) : HI V Z b := ⟨h.sl, h.nf, h.oc, ⟨h.o0.1, h.o0.2.1⟩, by have := h.pot; have := h.o0; omega, h.tx, h.cd, h.mb, h.ln, h.pt⟩
theorem MJ.hi {V : Vf} {Z : XZ} {b : Nat} (h : MJ V Z b) : HI V Z b := by
  obtain ⟨g, r, h⟩ := h
  exact h.hi
theorem HI.mi {V : Vf} {Z : XZ} {b : Nat} (h : HI V Z b) (hs : 0 < (V 43 (5 * b + 2)).toInt) (h8 : (V 5 8).toInt = 0) (w v u : Prop) : MI V Z b (fun _ => 0) 0 0 w v u :=
  ⟨h.1, h.2.1, Nat.zero_le _, hs, h.2.2.1, fun i hi => absurd hi (by omega), fun i j _ hj => absurd hj (Nat.not_lt_zero _), fun i hi => absurd hi (Nat.not_lt_zero _), ⟨h.2.2.2.1.1, h.2.2.2.1.2, by omega⟩, by have := h.2.2.2.2.1; have e : sm (fun _ => 0) 0 = 0 := rfl; omega, h.2.2.2.2.2.1, h.2.2.2.2.2.2.1, h.2.2.2.2.2.2.2.1, h.2.2.2.2.2.2.2.2.1, h.2.2.2.2.2.2.2.2.2⟩
theorem HI.me {V W : Vf} {Z : XZ} {b : Nat} (h : HI V Z b) (hB : BE V W) (e13 : W 3 13 = V 3 13) (e15 : W 3 15 = V 3 15) (e5 : W 5 5 = V 5 5) (e26 : ∀ k, W 26 k = V 26 k) (e30 : ∀ k, W 30 k = V 30 k) (e32 : ∀ k, W 32 k = V 32 k) (e25 : ∀ k, W 25 k = V 25 k) : HI W Z b := by
  have e43 := hB 43 (5 * b + 2) (by decide) (by decide)
  refine ⟨?_, h.2.1, ?_, by rw [e13, e15]; exact h.2.2.2.1, by rw [e13, e15, hB 44 0 (by decide) (by decide)]; exact h.2.2.2.2.1, h.2.2.2.2.2.1.be hB, h.2.2.2.2.2.2.1.be hB, by rw [e5]; exact h.2.2.2.2.2.2.2.1, h.2.2.2.2.2.2.2.2.1, ?_⟩
  · unfold SL
    rw [e15, e13]
    exact ⟨h.1.1, h.1.2.1, fun o k a1 a2 => by rw [e30]; exact h.1.2.2.1 o k a1 a2, fun i a1 => by rw [e32]; exact h.1.2.2.2 i a1⟩
  · intro o ho
    rw [e13] at ho
    rw [e26, e43]
    exact h.2.2.1 o ho
  · intro k hk
    rw [e25, e13]
    refine ⟨(h.2.2.2.2.2.2.2.2.2 k hk).1, fun o h1 => ?_⟩
    rw [e26]
    exact (h.2.2.2.2.2.2.2.2.2 k hk).2 o h1
theorem HI.mt {V : Vf} {Z : XZ} {b : Nat} (h : HI V Z b) (hs : 0 < (V 43 (5 * b + 2)).toInt) (h8 : (V 5 8).toInt = 0) (h6 : (V 5 6).toInt = 0) : MT V Z b := ⟨_, _, by rw [show (V 5 6).toInt.toNat = 0 from by omega]; exact h.mi hs h8 True True True⟩
theorem HI.mtr {V : Vf} {Z : XZ} {b : Nat} (h : HI V Z b) (hs : 0 < (V 43 (5 * b + 2)).toInt) (h8 : (V 5 8).toInt = 0) (h6 : (V 5 6).toInt = 0) : MTr V Z b := ⟨_, _, by rw [show (V 5 6).toInt.toNat = 0 from by omega]; exact h.mi hs h8 True False True⟩
def hrl (fs : List (Nat × Nat)) (cs : List Nat) : Bool := fs.all (fun y => decide (y.1 ≤ 6) && !([(3, 13), (3, 15), (5, 5)].contains y)) && cs.all (fun c => decide (7 ≤ c) && (decide (c ≤ 40) || decide (67 ≤ c)) && !([25, 26, 30, 32].contains c))
theorem hrl_no {fs : List (Nat × Nat)} {cs : List Nat} (q : hrl fs cs = true) {c k : Nat} (h : (41 ≤ c ∧ c ≤ 66) ∨ (c = 25 ∨ c = 26 ∨ c = 30 ∨ c = 32) ∨ (c, k) = (3, 13) ∨ (c, k) = (3, 15) ∨ (c, k) = (5, 5)) : wrL fs cs c k = false := by
  unfold hrl at q
  rw [Bool.and_eq_true, List.all_eq_true, List.all_eq_true] at q
  unfold wrL
  rw [Bool.or_eq_false_iff]
  refine ⟨?_, ?_⟩
  · rw [← Bool.not_eq_true]
    intro z
    have y := q.1 _ (List.contains_iff_mem.mp z)
    rw [Bool.and_eq_true] at y
    have y1 : c ≤ 6 := of_decide_eq_true y.1
    have y2 := y.2
    rcases h with h | h | h | h | h
    · omega
    · omega
    all_goals (rw [h] at y2; exact absurd y2 (by decide))
  · rw [← Bool.not_eq_true]
    intro z
    have y := q.2 _ (List.contains_iff_mem.mp z)
    rw [Bool.and_eq_true, Bool.and_eq_true, Bool.or_eq_true] at y
    have y1 : c ≤ 40 ∨ 67 ≤ c := y.1.2.elim (fun a => Or.inl (of_decide_eq_true a)) (fun a => Or.inr (of_decide_eq_true a))
    have y0 : 7 ≤ c := of_decide_eq_true y.1.1
    have y2 := y.2
    rcases h with h | h | h | h | h
    · omega
    · rcases h with h | h | h | h <;> (rw [h] at y2; exact absurd y2 (by decide))
    all_goals (have := congrArg Prod.fst h; simp only at this; omega)
theorem HI.ag {fs : List (Nat × Nat)} {cs : List Nat} {V W : Vf} {Z : XZ} {b : Nat} (h : HI V Z b) (a : agr fs cs V W) (q : hrl fs cs = true) : HI W Z b :=
  h.me (fun c k h1 h2 => a c k (hrl_no q (Or.inl ⟨h1, h2⟩))) (a _ _ (hrl_no q (by simp))) (a _ _ (hrl_no q (by simp))) (a _ _ (hrl_no q (by simp))) (fun k => a _ _ (hrl_no q (by simp))) (fun k => a _ _ (hrl_no q (by simp))) (fun k => a _ _ (hrl_no q (by simp))) (fun k => a _ _ (hrl_no q (by simp)))

theorem w1166 : Cond.methodLink RX11 188 yX7_noteCause ∈ GW := gw_k tk9_5 51 (by decide +kernel) rfl
theorem w1170 : Cond.methodLink RX11 192 yX5_restart ∈ GW := gw_k tk9_5 55 (by decide +kernel) rfl
theorem w1174 : Cond.code yX11_ends cX11_ends 3 (some .int) ∈ GW := gw_k tk9_5 59 (rfl) rfl
theorem w1171 : Cond.methodLink RX11 195 yX11_ends ∈ GW := gw_k tk9_5 56 (by decide +kernel) rfl
theorem w156 : Cond.initialized RX11 ∈ GW := gw_k tk9_1 1 (by decide +kernel) rfl
theorem w1173 : Cond.instanceMethod yX11_ends ∈ GW := gw_k tk9_5 58 (by decide +kernel) rfl
theorem w42 : Cond.selects RX11 yX11_ends yX11_ends ∈ GW := gw_mem 42 (by decide +kernel) rfl
theorem hdV_yX11_ends : yX11_ends.cls = RX11 ∧ yX11_ends.cls ≠ "java/lang/invoke/MethodHandle" ∧ yX11_ends.cls ≠ "java/lang/invoke/VarHandle" ∧ (parseMethodDescriptor yX11_ends.desc).map (fun d => d.parameters.length) = some 2 := by decide +kernel
theorem w1175 : Cond.methodLink RX11 159 yX0_isThere ∈ GW := gw_k tk9_5 60 (by decide +kernel) rfl
theorem w1176 : Cond.methodLink RX11 198 yX5_pushRoot ∈ GW := gw_k tk9_5 61 (by decide +kernel) rfl
theorem w1250 : Cond.code yX5_run cX5_run 3 none ∈ GW := gw_k tk9_5 135 (rfl) rfl
theorem w1247 : Cond.methodLink RX11 202 yX5_run ∈ GW := gw_k tk9_5 132 (by decide +kernel) rfl
theorem w1248 : Cond.instanceMethod yX5_run ∈ GW := gw_k tk9_5 133 (by decide +kernel) rfl
theorem w1249 : Cond.selects RX5 yX5_run yX5_run ∈ GW := gw_k tk9_5 134 (by decide +kernel) rfl
theorem hdV_yX5_run : yX5_run.cls = RX5 ∧ yX5_run.cls ≠ "java/lang/invoke/MethodHandle" ∧ yX5_run.cls ≠ "java/lang/invoke/VarHandle" ∧ (parseMethodDescriptor yX5_run.desc).map (fun d => d.parameters.length) = some 0 := by decide +kernel
theorem w1504 : Cond.code yX5_howItEnded cX5_howItEnded 1 (some .int) ∈ GW := gw_k tk9_6 149 (rfl) rfl
theorem w1501 : Cond.methodLink RX11 205 yX5_howItEnded ∈ GW := gw_k tk9_6 146 (by decide +kernel) rfl
theorem w1502 : Cond.instanceMethod yX5_howItEnded ∈ GW := gw_k tk9_6 147 (by decide +kernel) rfl
theorem w1503 : Cond.selects RX5 yX5_howItEnded yX5_howItEnded ∈ GW := gw_k tk9_6 148 (by decide +kernel) rfl
theorem hdV_yX5_howItEnded : yX5_howItEnded.cls = RX5 ∧ yX5_howItEnded.cls ≠ "java/lang/invoke/MethodHandle" ∧ yX5_howItEnded.cls ≠ "java/lang/invoke/VarHandle" ∧ (parseMethodDescriptor yX5_howItEnded.desc).map (fun d => d.parameters.length) = some 0 := by decide +kernel
theorem w1509 : Cond.code yX5_answerOr cX5_answerOr 2 (some .int) ∈ GW := gw_k tk9_6 154 (rfl) rfl
theorem w1506 : Cond.methodLink RX11 209 yX5_answerOr ∈ GW := gw_k tk9_6 151 (by decide +kernel) rfl
theorem w1507 : Cond.instanceMethod yX5_answerOr ∈ GW := gw_k tk9_6 152 (by decide +kernel) rfl
theorem w1508 : Cond.selects RX5 yX5_answerOr yX5_answerOr ∈ GW := gw_k tk9_6 153 (by decide +kernel) rfl
theorem hdV_yX5_answerOr : yX5_answerOr.cls = RX5 ∧ yX5_answerOr.cls ≠ "java/lang/invoke/MethodHandle" ∧ yX5_answerOr.cls ≠ "java/lang/invoke/VarHandle" ∧ (parseMethodDescriptor yX5_answerOr.desc).map (fun d => d.parameters.length) = some 1 := by decide +kernel
theorem w1517 : Cond.code yX7_forgetThings cX7_forgetThings 1 none ∈ GW := gw_k tk9_6 162 (rfl) rfl
theorem w1514 : Cond.methodLink RX11 212 yX7_forgetThings ∈ GW := gw_k tk9_6 159 (by decide +kernel) rfl
theorem w1515 : Cond.instanceMethod yX7_forgetThings ∈ GW := gw_k tk9_6 160 (by decide +kernel) rfl
theorem w1516 : Cond.selects RX7 yX7_forgetThings yX7_forgetThings ∈ GW := gw_k tk9_6 161 (by decide +kernel) rfl
theorem hdV_yX7_forgetThings : yX7_forgetThings.cls = RX7 ∧ yX7_forgetThings.cls ≠ "java/lang/invoke/MethodHandle" ∧ yX7_forgetThings.cls ≠ "java/lang/invoke/VarHandle" ∧ (parseMethodDescriptor yX7_forgetThings.desc).map (fun d => d.parameters.length) = some 0 := by decide +kernel
theorem w1518 : Cond.methodLink RX11 215 yX8_isMade ∈ GW := gw_k tk9_6 163 (by decide +kernel) rfl
theorem n445 : lw_tbl[445]? = some (Cond.fieldLinkNest RX11 221 "WiringHouse$Notes" "listening" "Z" "WiringHouse") := la9 (n := 155) (i := 290) lz9 (la9 (n := 240) (i := 50) ln9_1 (lb9 (i := 50) (by decide +kernel)))
theorem w1519 : Cond.methodLink RX11 224 yX5_pushCall ∈ GW := gw_k tk9_6 164 (by decide +kernel) rfl
theorem dk9_dX11_get_0_0 : dOk cX11_get [(0, .aload_n 0, 1), (1, .getfield 42, 3), (4, .iconst 0, 1), (5, .iconst 0, 1), (6, .invokevirtual 188, 3), (9, .aload_n 0, 1), (10, .getfield 61, 3), (13, .invokevirtual 192, 3), (16, .aload_n 0, 1), (17, .getfield 89, 3), (20, .ifCond .ne 10, 3), (30, .aload_n 0, 1), (31, .getfield 35, 3), (34, .iload_n 1, 1), (35, .invokevirtual 182, 3), (38, .ifCond .ne 10, 3), (48, .aload_n 0, 1), (49, .getfield 49, 3), (52, .iload_n 2, 1), (53, .invokevirtual 136, 3), (56, .ifCond .eq 14, 3), (70, .aload_n 0, 1), (71, .iconst 4, 1), (72, .iconst (-1), 1)] = true ∧ dOk cX11_get [(73, .invokevirtual 195, 3), (76, .ireturn, 1), (59, .aload_n 0, 1), (60, .getfield 49, 3), (63, .iload_n 2, 1), (64, .invokevirtual 159, 3), (67, .ifCond .ne 10, 3), (77, .aload_n 0, 1), (78, .getfield 61, 3), (81, .iload_n 2, 1), (82, .iload_n 1, 1), (83, .iconst 0, 1), (84, .invokevirtual 198, 3), (87, .aload_n 0, 1), (88, .getfield 61, 3), (91, .invokevirtual 202, 3), (94, .aload_n 0, 1), (95, .aload_n 0, 1), (96, .getfield 61, 3), (99, .invokevirtual 205, 3), (102, .aload_n 0, 1), (103, .getfield 61, 3), (106, .iconst (-1), 1), (107, .invokevirtual 209, 3)] = true ∧ dOk cX11_get [(110, .invokevirtual 195, 3), (113, .ireturn, 1), (41, .aload_n 0, 1), (42, .iconst 3, 1), (43, .iconst (-1), 1), (44, .invokevirtual 195, 3), (47, .ireturn, 1), (23, .aload_n 0, 1), (24, .iconst 4, 1), (25, .iconst (-1), 1), (26, .invokevirtual 195, 3), (29, .ireturn, 1)] = true := by decide +kernel
theorem dX11_get_0 : decode cX11_get 0 = .ok (.aload_n 0, 1) := dr9 dk9_dX11_get_0_0.1 0 (0, .aload_n 0, 1) rfl
theorem dX11_get_1 : decode cX11_get 1 = .ok (.getfield 42, 3) := dr9 dk9_dX11_get_0_0.1 1 (1, .getfield 42, 3) rfl
theorem dX11_get_4 : decode cX11_get 4 = .ok (.iconst 0, 1) := dr9 dk9_dX11_get_0_0.1 2 (4, .iconst 0, 1) rfl
theorem dX11_get_5 : decode cX11_get 5 = .ok (.iconst 0, 1) := dr9 dk9_dX11_get_0_0.1 3 (5, .iconst 0, 1) rfl
theorem dX11_get_6 : decode cX11_get 6 = .ok (.invokevirtual 188, 3) := dr9 dk9_dX11_get_0_0.1 4 (6, .invokevirtual 188, 3) rfl
theorem dX11_get_9 : decode cX11_get 9 = .ok (.aload_n 0, 1) := dr9 dk9_dX11_get_0_0.1 5 (9, .aload_n 0, 1) rfl
theorem dX11_get_10 : decode cX11_get 10 = .ok (.getfield 61, 3) := dr9 dk9_dX11_get_0_0.1 6 (10, .getfield 61, 3) rfl
theorem dX11_get_13 : decode cX11_get 13 = .ok (.invokevirtual 192, 3) := dr9 dk9_dX11_get_0_0.1 7 (13, .invokevirtual 192, 3) rfl
theorem dX11_get_16 : decode cX11_get 16 = .ok (.aload_n 0, 1) := dr9 dk9_dX11_get_0_0.1 8 (16, .aload_n 0, 1) rfl
theorem dX11_get_17 : decode cX11_get 17 = .ok (.getfield 89, 3) := dr9 dk9_dX11_get_0_0.1 9 (17, .getfield 89, 3) rfl
theorem dX11_get_20 : decode cX11_get 20 = .ok (.ifCond .ne 10, 3) := dr9 dk9_dX11_get_0_0.1 10 (20, .ifCond .ne 10, 3) rfl
theorem dX11_get_30 : decode cX11_get 30 = .ok (.aload_n 0, 1) := dr9 dk9_dX11_get_0_0.1 11 (30, .aload_n 0, 1) rfl
theorem dX11_get_31 : decode cX11_get 31 = .ok (.getfield 35, 3) := dr9 dk9_dX11_get_0_0.1 12 (31, .getfield 35, 3) rfl
theorem dX11_get_34 : decode cX11_get 34 = .ok (.iload_n 1, 1) := dr9 dk9_dX11_get_0_0.1 13 (34, .iload_n 1, 1) rfl
theorem dX11_get_35 : decode cX11_get 35 = .ok (.invokevirtual 182, 3) := dr9 dk9_dX11_get_0_0.1 14 (35, .invokevirtual 182, 3) rfl
theorem dX11_get_38 : decode cX11_get 38 = .ok (.ifCond .ne 10, 3) := dr9 dk9_dX11_get_0_0.1 15 (38, .ifCond .ne 10, 3) rfl
theorem dX11_get_48 : decode cX11_get 48 = .ok (.aload_n 0, 1) := dr9 dk9_dX11_get_0_0.1 16 (48, .aload_n 0, 1) rfl
theorem dX11_get_49 : decode cX11_get 49 = .ok (.getfield 49, 3) := dr9 dk9_dX11_get_0_0.1 17 (49, .getfield 49, 3) rfl
theorem dX11_get_52 : decode cX11_get 52 = .ok (.iload_n 2, 1) := dr9 dk9_dX11_get_0_0.1 18 (52, .iload_n 2, 1) rfl
theorem dX11_get_53 : decode cX11_get 53 = .ok (.invokevirtual 136, 3) := dr9 dk9_dX11_get_0_0.1 19 (53, .invokevirtual 136, 3) rfl
theorem dX11_get_56 : decode cX11_get 56 = .ok (.ifCond .eq 14, 3) := dr9 dk9_dX11_get_0_0.1 20 (56, .ifCond .eq 14, 3) rfl
theorem dX11_get_70 : decode cX11_get 70 = .ok (.aload_n 0, 1) := dr9 dk9_dX11_get_0_0.1 21 (70, .aload_n 0, 1) rfl
theorem dX11_get_71 : decode cX11_get 71 = .ok (.iconst 4, 1) := dr9 dk9_dX11_get_0_0.1 22 (71, .iconst 4, 1) rfl
theorem dX11_get_72 : decode cX11_get 72 = .ok (.iconst (-1), 1) := dr9 dk9_dX11_get_0_0.1 23 (72, .iconst (-1), 1) rfl
theorem dX11_get_73 : decode cX11_get 73 = .ok (.invokevirtual 195, 3) := dr9 dk9_dX11_get_0_0.2.1 0 (73, .invokevirtual 195, 3) rfl
theorem dX11_get_76 : decode cX11_get 76 = .ok (.ireturn, 1) := dr9 dk9_dX11_get_0_0.2.1 1 (76, .ireturn, 1) rfl
theorem dX11_get_59 : decode cX11_get 59 = .ok (.aload_n 0, 1) := dr9 dk9_dX11_get_0_0.2.1 2 (59, .aload_n 0, 1) rfl
theorem dX11_get_60 : decode cX11_get 60 = .ok (.getfield 49, 3) := dr9 dk9_dX11_get_0_0.2.1 3 (60, .getfield 49, 3) rfl
theorem dX11_get_63 : decode cX11_get 63 = .ok (.iload_n 2, 1) := dr9 dk9_dX11_get_0_0.2.1 4 (63, .iload_n 2, 1) rfl
theorem dX11_get_64 : decode cX11_get 64 = .ok (.invokevirtual 159, 3) := dr9 dk9_dX11_get_0_0.2.1 5 (64, .invokevirtual 159, 3) rfl
theorem dX11_get_67 : decode cX11_get 67 = .ok (.ifCond .ne 10, 3) := dr9 dk9_dX11_get_0_0.2.1 6 (67, .ifCond .ne 10, 3) rfl
theorem dX11_get_77 : decode cX11_get 77 = .ok (.aload_n 0, 1) := dr9 dk9_dX11_get_0_0.2.1 7 (77, .aload_n 0, 1) rfl
theorem dX11_get_78 : decode cX11_get 78 = .ok (.getfield 61, 3) := dr9 dk9_dX11_get_0_0.2.1 8 (78, .getfield 61, 3) rfl
theorem dX11_get_81 : decode cX11_get 81 = .ok (.iload_n 2, 1) := dr9 dk9_dX11_get_0_0.2.1 9 (81, .iload_n 2, 1) rfl
theorem dX11_get_82 : decode cX11_get 82 = .ok (.iload_n 1, 1) := dr9 dk9_dX11_get_0_0.2.1 10 (82, .iload_n 1, 1) rfl
theorem dX11_get_83 : decode cX11_get 83 = .ok (.iconst 0, 1) := dr9 dk9_dX11_get_0_0.2.1 11 (83, .iconst 0, 1) rfl
theorem dX11_get_84 : decode cX11_get 84 = .ok (.invokevirtual 198, 3) := dr9 dk9_dX11_get_0_0.2.1 12 (84, .invokevirtual 198, 3) rfl
theorem dX11_get_87 : decode cX11_get 87 = .ok (.aload_n 0, 1) := dr9 dk9_dX11_get_0_0.2.1 13 (87, .aload_n 0, 1) rfl
theorem dX11_get_88 : decode cX11_get 88 = .ok (.getfield 61, 3) := dr9 dk9_dX11_get_0_0.2.1 14 (88, .getfield 61, 3) rfl
theorem dX11_get_91 : decode cX11_get 91 = .ok (.invokevirtual 202, 3) := dr9 dk9_dX11_get_0_0.2.1 15 (91, .invokevirtual 202, 3) rfl
theorem dX11_get_94 : decode cX11_get 94 = .ok (.aload_n 0, 1) := dr9 dk9_dX11_get_0_0.2.1 16 (94, .aload_n 0, 1) rfl
theorem dX11_get_95 : decode cX11_get 95 = .ok (.aload_n 0, 1) := dr9 dk9_dX11_get_0_0.2.1 17 (95, .aload_n 0, 1) rfl
theorem dX11_get_96 : decode cX11_get 96 = .ok (.getfield 61, 3) := dr9 dk9_dX11_get_0_0.2.1 18 (96, .getfield 61, 3) rfl
theorem dX11_get_99 : decode cX11_get 99 = .ok (.invokevirtual 205, 3) := dr9 dk9_dX11_get_0_0.2.1 19 (99, .invokevirtual 205, 3) rfl
theorem dX11_get_102 : decode cX11_get 102 = .ok (.aload_n 0, 1) := dr9 dk9_dX11_get_0_0.2.1 20 (102, .aload_n 0, 1) rfl
theorem dX11_get_103 : decode cX11_get 103 = .ok (.getfield 61, 3) := dr9 dk9_dX11_get_0_0.2.1 21 (103, .getfield 61, 3) rfl
theorem dX11_get_106 : decode cX11_get 106 = .ok (.iconst (-1), 1) := dr9 dk9_dX11_get_0_0.2.1 22 (106, .iconst (-1), 1) rfl
theorem dX11_get_107 : decode cX11_get 107 = .ok (.invokevirtual 209, 3) := dr9 dk9_dX11_get_0_0.2.1 23 (107, .invokevirtual 209, 3) rfl
theorem dX11_get_110 : decode cX11_get 110 = .ok (.invokevirtual 195, 3) := dr9 dk9_dX11_get_0_0.2.2 0 (110, .invokevirtual 195, 3) rfl
theorem dX11_get_113 : decode cX11_get 113 = .ok (.ireturn, 1) := dr9 dk9_dX11_get_0_0.2.2 1 (113, .ireturn, 1) rfl
theorem dX11_get_41 : decode cX11_get 41 = .ok (.aload_n 0, 1) := dr9 dk9_dX11_get_0_0.2.2 2 (41, .aload_n 0, 1) rfl
theorem dX11_get_42 : decode cX11_get 42 = .ok (.iconst 3, 1) := dr9 dk9_dX11_get_0_0.2.2 3 (42, .iconst 3, 1) rfl
theorem dX11_get_43 : decode cX11_get 43 = .ok (.iconst (-1), 1) := dr9 dk9_dX11_get_0_0.2.2 4 (43, .iconst (-1), 1) rfl
theorem dX11_get_44 : decode cX11_get 44 = .ok (.invokevirtual 195, 3) := dr9 dk9_dX11_get_0_0.2.2 5 (44, .invokevirtual 195, 3) rfl
theorem dX11_get_47 : decode cX11_get 47 = .ok (.ireturn, 1) := dr9 dk9_dX11_get_0_0.2.2 6 (47, .ireturn, 1) rfl
theorem dX11_get_23 : decode cX11_get 23 = .ok (.aload_n 0, 1) := dr9 dk9_dX11_get_0_0.2.2 7 (23, .aload_n 0, 1) rfl
theorem dX11_get_24 : decode cX11_get 24 = .ok (.iconst 4, 1) := dr9 dk9_dX11_get_0_0.2.2 8 (24, .iconst 4, 1) rfl
theorem dX11_get_25 : decode cX11_get 25 = .ok (.iconst (-1), 1) := dr9 dk9_dX11_get_0_0.2.2 9 (25, .iconst (-1), 1) rfl
theorem dX11_get_26 : decode cX11_get 26 = .ok (.invokevirtual 195, 3) := dr9 dk9_dX11_get_0_0.2.2 10 (26, .invokevirtual 195, 3) rfl
theorem dX11_get_29 : decode cX11_get 29 = .ok (.ireturn, 1) := dr9 dk9_dX11_get_0_0.2.2 11 (29, .ireturn, 1) rfl
theorem dk9_dX11_call_0_0 : dOk cX11_call [(0, .aload_n 0, 1), (1, .getfield 42, 3), (4, .iconst 0, 1), (5, .iconst 0, 1), (6, .invokevirtual 188, 3), (9, .aload_n 0, 1), (10, .getfield 42, 3), (13, .invokevirtual 212, 3), (16, .aload_n 0, 1), (17, .getfield 61, 3), (20, .invokevirtual 192, 3), (23, .aload_n 0, 1), (24, .getfield 35, 3), (27, .iload_n 1, 1), (28, .invokevirtual 182, 3), (31, .ifCond .ne 10, 3), (41, .aload_n 0, 1), (42, .getfield 35, 3), (45, .iload_n 2, 1), (46, .invokevirtual 215, 3), (49, .ifCond .eq 21, 3), (70, .aload_n 0, 1), (71, .iconst 4, 1), (72, .iconst 0, 1)] = true ∧ dOk cX11_call [(73, .invokevirtual 195, 3), (76, .ireturn, 1), (52, .iload_n 3, 1), (53, .ifCond .lt 17, 3), (56, .iload_n 3, 1), (57, .aload_n 0, 1), (58, .getfield 49, 3), (61, .getfield 218, 3), (64, .getfield 117, 3), (67, .if_icmp .lt 10, 3), (77, .aload_n 0, 1), (78, .getfield 42, 3), (81, .iconst 1, 1), (82, .putfield 221, 3), (85, .aload_n 0, 1), (86, .getfield 61, 3), (89, .iload_n 2, 1), (90, .iload_n 1, 1), (91, .iload_n 3, 1), (92, .iload 4, 2), (94, .iconst 1, 1), (95, .invokevirtual 224, 3), (98, .aload_n 0, 1), (99, .getfield 61, 3)] = true ∧ dOk cX11_call [(102, .invokevirtual 202, 3), (105, .aload_n 0, 1), (106, .getfield 42, 3), (109, .iconst 0, 1), (110, .putfield 221, 3), (113, .aload_n 0, 1), (114, .aload_n 0, 1), (115, .getfield 61, 3), (118, .invokevirtual 205, 3), (121, .aload_n 0, 1), (122, .getfield 61, 3), (125, .iconst 0, 1), (126, .invokevirtual 209, 3), (129, .invokevirtual 195, 3), (132, .ireturn, 1), (34, .aload_n 0, 1), (35, .iconst 3, 1), (36, .iconst 0, 1), (37, .invokevirtual 195, 3), (40, .ireturn, 1)] = true := by decide +kernel
theorem dX11_call_0 : decode cX11_call 0 = .ok (.aload_n 0, 1) := dr9 dk9_dX11_call_0_0.1 0 (0, .aload_n 0, 1) rfl
theorem dX11_call_1 : decode cX11_call 1 = .ok (.getfield 42, 3) := dr9 dk9_dX11_call_0_0.1 1 (1, .getfield 42, 3) rfl
theorem dX11_call_4 : decode cX11_call 4 = .ok (.iconst 0, 1) := dr9 dk9_dX11_call_0_0.1 2 (4, .iconst 0, 1) rfl
theorem dX11_call_5 : decode cX11_call 5 = .ok (.iconst 0, 1) := dr9 dk9_dX11_call_0_0.1 3 (5, .iconst 0, 1) rfl
theorem dX11_call_6 : decode cX11_call 6 = .ok (.invokevirtual 188, 3) := dr9 dk9_dX11_call_0_0.1 4 (6, .invokevirtual 188, 3) rfl
theorem dX11_call_9 : decode cX11_call 9 = .ok (.aload_n 0, 1) := dr9 dk9_dX11_call_0_0.1 5 (9, .aload_n 0, 1) rfl
theorem dX11_call_10 : decode cX11_call 10 = .ok (.getfield 42, 3) := dr9 dk9_dX11_call_0_0.1 6 (10, .getfield 42, 3) rfl
theorem dX11_call_13 : decode cX11_call 13 = .ok (.invokevirtual 212, 3) := dr9 dk9_dX11_call_0_0.1 7 (13, .invokevirtual 212, 3) rfl
theorem dX11_call_16 : decode cX11_call 16 = .ok (.aload_n 0, 1) := dr9 dk9_dX11_call_0_0.1 8 (16, .aload_n 0, 1) rfl
theorem dX11_call_17 : decode cX11_call 17 = .ok (.getfield 61, 3) := dr9 dk9_dX11_call_0_0.1 9 (17, .getfield 61, 3) rfl
theorem dX11_call_20 : decode cX11_call 20 = .ok (.invokevirtual 192, 3) := dr9 dk9_dX11_call_0_0.1 10 (20, .invokevirtual 192, 3) rfl
theorem dX11_call_23 : decode cX11_call 23 = .ok (.aload_n 0, 1) := dr9 dk9_dX11_call_0_0.1 11 (23, .aload_n 0, 1) rfl
theorem dX11_call_24 : decode cX11_call 24 = .ok (.getfield 35, 3) := dr9 dk9_dX11_call_0_0.1 12 (24, .getfield 35, 3) rfl
theorem dX11_call_27 : decode cX11_call 27 = .ok (.iload_n 1, 1) := dr9 dk9_dX11_call_0_0.1 13 (27, .iload_n 1, 1) rfl
theorem dX11_call_28 : decode cX11_call 28 = .ok (.invokevirtual 182, 3) := dr9 dk9_dX11_call_0_0.1 14 (28, .invokevirtual 182, 3) rfl
theorem dX11_call_31 : decode cX11_call 31 = .ok (.ifCond .ne 10, 3) := dr9 dk9_dX11_call_0_0.1 15 (31, .ifCond .ne 10, 3) rfl
theorem dX11_call_41 : decode cX11_call 41 = .ok (.aload_n 0, 1) := dr9 dk9_dX11_call_0_0.1 16 (41, .aload_n 0, 1) rfl
theorem dX11_call_42 : decode cX11_call 42 = .ok (.getfield 35, 3) := dr9 dk9_dX11_call_0_0.1 17 (42, .getfield 35, 3) rfl
theorem dX11_call_45 : decode cX11_call 45 = .ok (.iload_n 2, 1) := dr9 dk9_dX11_call_0_0.1 18 (45, .iload_n 2, 1) rfl
theorem dX11_call_46 : decode cX11_call 46 = .ok (.invokevirtual 215, 3) := dr9 dk9_dX11_call_0_0.1 19 (46, .invokevirtual 215, 3) rfl
theorem dX11_call_49 : decode cX11_call 49 = .ok (.ifCond .eq 21, 3) := dr9 dk9_dX11_call_0_0.1 20 (49, .ifCond .eq 21, 3) rfl
theorem dX11_call_70 : decode cX11_call 70 = .ok (.aload_n 0, 1) := dr9 dk9_dX11_call_0_0.1 21 (70, .aload_n 0, 1) rfl
theorem dX11_call_71 : decode cX11_call 71 = .ok (.iconst 4, 1) := dr9 dk9_dX11_call_0_0.1 22 (71, .iconst 4, 1) rfl
theorem dX11_call_72 : decode cX11_call 72 = .ok (.iconst 0, 1) := dr9 dk9_dX11_call_0_0.1 23 (72, .iconst 0, 1) rfl
theorem dX11_call_73 : decode cX11_call 73 = .ok (.invokevirtual 195, 3) := dr9 dk9_dX11_call_0_0.2.1 0 (73, .invokevirtual 195, 3) rfl
theorem dX11_call_76 : decode cX11_call 76 = .ok (.ireturn, 1) := dr9 dk9_dX11_call_0_0.2.1 1 (76, .ireturn, 1) rfl
theorem dX11_call_52 : decode cX11_call 52 = .ok (.iload_n 3, 1) := dr9 dk9_dX11_call_0_0.2.1 2 (52, .iload_n 3, 1) rfl
theorem dX11_call_53 : decode cX11_call 53 = .ok (.ifCond .lt 17, 3) := dr9 dk9_dX11_call_0_0.2.1 3 (53, .ifCond .lt 17, 3) rfl
theorem dX11_call_56 : decode cX11_call 56 = .ok (.iload_n 3, 1) := dr9 dk9_dX11_call_0_0.2.1 4 (56, .iload_n 3, 1) rfl
theorem dX11_call_57 : decode cX11_call 57 = .ok (.aload_n 0, 1) := dr9 dk9_dX11_call_0_0.2.1 5 (57, .aload_n 0, 1) rfl
theorem dX11_call_58 : decode cX11_call 58 = .ok (.getfield 49, 3) := dr9 dk9_dX11_call_0_0.2.1 6 (58, .getfield 49, 3) rfl
theorem dX11_call_61 : decode cX11_call 61 = .ok (.getfield 218, 3) := dr9 dk9_dX11_call_0_0.2.1 7 (61, .getfield 218, 3) rfl
theorem dX11_call_64 : decode cX11_call 64 = .ok (.getfield 117, 3) := dr9 dk9_dX11_call_0_0.2.1 8 (64, .getfield 117, 3) rfl
theorem dX11_call_67 : decode cX11_call 67 = .ok (.if_icmp .lt 10, 3) := dr9 dk9_dX11_call_0_0.2.1 9 (67, .if_icmp .lt 10, 3) rfl
theorem dX11_call_77 : decode cX11_call 77 = .ok (.aload_n 0, 1) := dr9 dk9_dX11_call_0_0.2.1 10 (77, .aload_n 0, 1) rfl
theorem dX11_call_78 : decode cX11_call 78 = .ok (.getfield 42, 3) := dr9 dk9_dX11_call_0_0.2.1 11 (78, .getfield 42, 3) rfl
theorem dX11_call_81 : decode cX11_call 81 = .ok (.iconst 1, 1) := dr9 dk9_dX11_call_0_0.2.1 12 (81, .iconst 1, 1) rfl
theorem dX11_call_82 : decode cX11_call 82 = .ok (.putfield 221, 3) := dr9 dk9_dX11_call_0_0.2.1 13 (82, .putfield 221, 3) rfl
theorem dX11_call_85 : decode cX11_call 85 = .ok (.aload_n 0, 1) := dr9 dk9_dX11_call_0_0.2.1 14 (85, .aload_n 0, 1) rfl
theorem dX11_call_86 : decode cX11_call 86 = .ok (.getfield 61, 3) := dr9 dk9_dX11_call_0_0.2.1 15 (86, .getfield 61, 3) rfl
theorem dX11_call_89 : decode cX11_call 89 = .ok (.iload_n 2, 1) := dr9 dk9_dX11_call_0_0.2.1 16 (89, .iload_n 2, 1) rfl
theorem dX11_call_90 : decode cX11_call 90 = .ok (.iload_n 1, 1) := dr9 dk9_dX11_call_0_0.2.1 17 (90, .iload_n 1, 1) rfl
theorem dX11_call_91 : decode cX11_call 91 = .ok (.iload_n 3, 1) := dr9 dk9_dX11_call_0_0.2.1 18 (91, .iload_n 3, 1) rfl
theorem dX11_call_92 : decode cX11_call 92 = .ok (.iload 4, 2) := dr9 dk9_dX11_call_0_0.2.1 19 (92, .iload 4, 2) rfl
theorem dX11_call_94 : decode cX11_call 94 = .ok (.iconst 1, 1) := dr9 dk9_dX11_call_0_0.2.1 20 (94, .iconst 1, 1) rfl
theorem dX11_call_95 : decode cX11_call 95 = .ok (.invokevirtual 224, 3) := dr9 dk9_dX11_call_0_0.2.1 21 (95, .invokevirtual 224, 3) rfl
theorem dX11_call_98 : decode cX11_call 98 = .ok (.aload_n 0, 1) := dr9 dk9_dX11_call_0_0.2.1 22 (98, .aload_n 0, 1) rfl
theorem dX11_call_99 : decode cX11_call 99 = .ok (.getfield 61, 3) := dr9 dk9_dX11_call_0_0.2.1 23 (99, .getfield 61, 3) rfl
theorem dX11_call_102 : decode cX11_call 102 = .ok (.invokevirtual 202, 3) := dr9 dk9_dX11_call_0_0.2.2 0 (102, .invokevirtual 202, 3) rfl
theorem dX11_call_105 : decode cX11_call 105 = .ok (.aload_n 0, 1) := dr9 dk9_dX11_call_0_0.2.2 1 (105, .aload_n 0, 1) rfl
theorem dX11_call_106 : decode cX11_call 106 = .ok (.getfield 42, 3) := dr9 dk9_dX11_call_0_0.2.2 2 (106, .getfield 42, 3) rfl
theorem dX11_call_109 : decode cX11_call 109 = .ok (.iconst 0, 1) := dr9 dk9_dX11_call_0_0.2.2 3 (109, .iconst 0, 1) rfl
theorem dX11_call_110 : decode cX11_call 110 = .ok (.putfield 221, 3) := dr9 dk9_dX11_call_0_0.2.2 4 (110, .putfield 221, 3) rfl
theorem dX11_call_113 : decode cX11_call 113 = .ok (.aload_n 0, 1) := dr9 dk9_dX11_call_0_0.2.2 5 (113, .aload_n 0, 1) rfl
theorem dX11_call_114 : decode cX11_call 114 = .ok (.aload_n 0, 1) := dr9 dk9_dX11_call_0_0.2.2 6 (114, .aload_n 0, 1) rfl
theorem dX11_call_115 : decode cX11_call 115 = .ok (.getfield 61, 3) := dr9 dk9_dX11_call_0_0.2.2 7 (115, .getfield 61, 3) rfl
theorem dX11_call_118 : decode cX11_call 118 = .ok (.invokevirtual 205, 3) := dr9 dk9_dX11_call_0_0.2.2 8 (118, .invokevirtual 205, 3) rfl
theorem dX11_call_121 : decode cX11_call 121 = .ok (.aload_n 0, 1) := dr9 dk9_dX11_call_0_0.2.2 9 (121, .aload_n 0, 1) rfl
theorem dX11_call_122 : decode cX11_call 122 = .ok (.getfield 61, 3) := dr9 dk9_dX11_call_0_0.2.2 10 (122, .getfield 61, 3) rfl
theorem dX11_call_125 : decode cX11_call 125 = .ok (.iconst 0, 1) := dr9 dk9_dX11_call_0_0.2.2 11 (125, .iconst 0, 1) rfl
theorem dX11_call_126 : decode cX11_call 126 = .ok (.invokevirtual 209, 3) := dr9 dk9_dX11_call_0_0.2.2 12 (126, .invokevirtual 209, 3) rfl
theorem dX11_call_129 : decode cX11_call 129 = .ok (.invokevirtual 195, 3) := dr9 dk9_dX11_call_0_0.2.2 13 (129, .invokevirtual 195, 3) rfl
theorem dX11_call_132 : decode cX11_call 132 = .ok (.ireturn, 1) := dr9 dk9_dX11_call_0_0.2.2 14 (132, .ireturn, 1) rfl
theorem dX11_call_34 : decode cX11_call 34 = .ok (.aload_n 0, 1) := dr9 dk9_dX11_call_0_0.2.2 15 (34, .aload_n 0, 1) rfl
theorem dX11_call_35 : decode cX11_call 35 = .ok (.iconst 3, 1) := dr9 dk9_dX11_call_0_0.2.2 16 (35, .iconst 3, 1) rfl
theorem dX11_call_36 : decode cX11_call 36 = .ok (.iconst 0, 1) := dr9 dk9_dX11_call_0_0.2.2 17 (36, .iconst 0, 1) rfl
theorem dX11_call_37 : decode cX11_call 37 = .ok (.invokevirtual 195, 3) := dr9 dk9_dX11_call_0_0.2.2 18 (37, .invokevirtual 195, 3) rfl
theorem dX11_call_40 : decode cX11_call 40 = .ok (.ireturn, 1) := dr9 dk9_dX11_call_0_0.2.2 19 (40, .ireturn, 1) rfl
abbrev r_x_h_get (Z : XZ) : Room := { frames := 8, cells := zcc Z, slots := zss Z, locals := 181 }
abbrev q_x_h_get (D : va_G) (ks : KS) (ad : Nat → Nat) (kk : Nat → ClassId) (V : Vf) (L : Lf) (Z : XZ) (p0 : Int32) (p1 : Int32) (b : Nat) (A : Nat → Prop) : Array Value → State → Outcome → State → Prop := qZi D (fun (r : Int32) (u : Vf × Lf × XZ) => rgd bX u.1 ∧ agr [(0, 9), (3, 13), (3, 14), (3, 15), (4, 5), (4, 6), (4, 7), (4, 8), (5, 6), (5, 7), (5, 8), (5, 9), (5, 10), (5, 11), (5, 12), (5, 13), (5, 14)] [24, 25, 26, 27, 28, 29, 30, 31, 32, 33, 34, 35, 36, 37, 39, 40, 67, 68, 69, 70, 71, 72, 73, 74, 75, 76, 77, 78, 79, 80, 81, 82, 83, 84, 85] V u.1 ∧ u.2.1 = L ∧ ZL Z u.2.2 ∧ (HI u.1 u.2.2 b)) (fun u => xw ad kk u.1 u.2.1 u.2.2) (fun u => xty kk u.2.2) (fun u => zcc Z - zcc u.2.2) (fun u => zss Z - zss u.2.2) A
set_option maxHeartbeats 4000000 in
set_option maxRecDepth 100000 in
theorem x_h_get (l : Launch) (D : va_G) (ks : KS) (sz : Nat) (ad : Nat → Nat) (kk : Nat → ClassId) (V : Vf) (L : Lf) (Z : XZ) (p0 : Int32) (p1 : Int32) (b : Nat) (hMV : rgd bX V) (hb2 : b < 2) (shk : (V 0 6).toInt = (b : Int)) (hi : HI V Z b)  : Met l yX11_get (Cond.code yX11_get cX11_get 3 (some .int) :: GW) (r_x_h_get Z) (va_Pc [.ref (ad 0), .int p0, .int p1] (gp D ks (xw ad kk V L Z) (xty kk Z) sz)) (q_x_h_get D ks ad kk V L Z p0 p1 b (va_A (xw ad kk V L Z) sz)) (zcc Z) (zss Z) (va_A (xw ad kk V L Z) sz) := by
  refine g_met (q_x_h_get D ks ad kk V L Z p0 p1 b) (by decide) (Nat.le_of_ble_eq_true rfl) ?_
  intro p e s m below meth c A ls H locs hx hb hr hml hown hg hlocks hin hnw hgk hP hK hD hS hA hl
  have hown : s.vm.findClass RX11 = some m.cls := hown
  have hl : lv_has ls 3 [(0, .ref (ad 0)), (1, .int p0), (2, .int p1)] := hl
  have hP : va_P D vwCl (xw ad kk V L Z) H := hP
  have hD : va_D A (xw ad kk V L Z) := hD
  have hK : va_K D vwCl (xty kk Z) s := hK
  have agV : agr [(0, 9), (3, 13), (3, 14), (3, 15), (4, 5), (4, 6), (4, 7), (4, 8), (5, 6), (5, 7), (5, 8), (5, 9), (5, 10), (5, 11), (5, 12), (5, 13), (5, 14)] [24, 25, 26, 27, 28, 29, 30, 31, 32, 33, 34, 35, 36, 37, 39, 40, 67, 68, 69, 70, 71, 72, 73, 74, 75, 76, 77, 78, 79, 80, 81, 82, 83, 84, 85] V V := agr.rf
  have zoZ : ZL Z Z := ZL.rf
  refine W.know (fun ka kb => ?_)
  refine W.tight (k := zcc Z - zcc Z) (n := zss Z - zss Z) (by omega) (by omega) ?_
  have r1 : 0 ≤ ((V 0 6)).toInt ∧ ((V 0 6)).toInt ≤ 1 := hMV 0 6
  refine lv_aload_n hx hb dX11_get_0 rfl (lv_at hl 0 rfl) ?_
  refine va_get (D := D) (ci := 11) (v := .ref (ad 4)) (fs := (xfHouse ad V L Z)) (C := RX11) (T := TX11) (N := 10) hx hb hg inX11 hown hK hP 0 xgHouse rfl 4 (by decide) (hg _ w719) (fun _ h9 => h9) rfl dX11_get_1 ?_
  refine lv_iconst (v := 0) hx hb dX11_get_4 (by decide) ?_
  refine lv_iconst (v := 0) hx hb dX11_get_5 (by decide) ?_
  have r2 : Int32.toInt 0 = 0 := by decide
  refine gA_void (gA_runV (As := [.int 0, .int 0]) (rest := []) (ci := 7) (q0 := 4) hx hb hml hown hg hP hD hK hS hA hnw hgk (x_NnoteCause l D ks H.size ad kk V L Z 0 0 hMV ) w1166 w1167 w1168 w166 w1169 rfl xgNotes hdV_yX7_noteCause ⟨Nat.le_of_ble_eq_true rfl, Nat.le_of_ble_eq_true rfl⟩ rfl hl.1 rfl (Nat.le_of_ble_eq_true rfl) dX11_get_6 ⟨z0, z0⟩) hP hD hK hS hA (fun u4 H locs w5 hP hD hK hS => ?_)
  obtain ⟨V6, L7⟩ := u4
  obtain ⟨hMV6, ajV6, axL7⟩ := w5
  have axL7 : L = L7 := Eq.symm axL7
  subst axL7
  have hP : va_P D vwCl (xw ad kk V6 L Z) H := hP
  have hD : va_D A (xw ad kk V6 L Z) := hD
  have hMV6 : rgd bX V6 := hMV6
  have ajV6 : agr [(4, 7), (4, 8)] [] V V6 := ajV6
  have agV6 : agr [(0, 9), (3, 13), (3, 14), (3, 15), (4, 5), (4, 6), (4, 7), (4, 8), (5, 6), (5, 7), (5, 8), (5, 9), (5, 10), (5, 11), (5, 12), (5, 13), (5, 14)] [24, 25, 26, 27, 28, 29, 30, 31, 32, 33, 34, 35, 36, 37, 39, 40, 67, 68, 69, 70, 71, 72, 73, 74, 75, 76, 77, 78, 79, 80, 81, 82, 83, 84, 85] V V6 := agV.tr ajV6 (by decide) (by decide)
  refine lv_aload_n hx hb dX11_get_9 rfl (lv_at hl 0 rfl) ?_
  refine va_get (D := D) (ci := 11) (v := .ref (ad 5)) (fs := (xfHouse ad V6 L Z)) (C := RX11) (T := TX11) (N := 10) hx hb hg inX11 hown hK hP 0 xgHouse rfl 5 (by decide) (hg _ w720) (fun _ h9 => h9) rfl dX11_get_10 ?_
  refine gA_void (gA_runV (As := []) (rest := []) (ci := 5) (q0 := 5) hx hb hml hown hg hP hD hK hS hA hnw hgk (x_restart l D ks H.size ad kk V6 L Z  hMV6 ) w1170 w1044 w1045 w171 w1046 rfl xgMachine hdV_yX5_restart ⟨Nat.le_of_ble_eq_true rfl, Nat.le_of_ble_eq_true rfl⟩ rfl hl.1 rfl (Nat.le_of_ble_eq_true rfl) dX11_get_13 ⟨z0, z0⟩) hP hD hK hS hA (fun u9 H locs w10 hP hD hK hS => ?_)
  obtain ⟨V16, L17⟩ := u9
  obtain ⟨hMV16, ajV16, axL17, t11, t12, t13, t14, t15⟩ := w10
  have axL17 : L = L17 := Eq.symm axL17
  subst axL17
  have hP : va_P D vwCl (xw ad kk V16 L Z) H := hP
  have hD : va_D A (xw ad kk V16 L Z) := hD
  have hMV16 : rgd bX V16 := hMV16
  have ajV16 : agr [(5, 6), (5, 7), (5, 8), (5, 9), (5, 13)] [] V6 V16 := ajV16
  have agV16 : agr [(0, 9), (3, 13), (3, 14), (3, 15), (4, 5), (4, 6), (4, 7), (4, 8), (5, 6), (5, 7), (5, 8), (5, 9), (5, 10), (5, 11), (5, 12), (5, 13), (5, 14)] [24, 25, 26, 27, 28, 29, 30, 31, 32, 33, 34, 35, 36, 37, 39, 40, 67, 68, 69, 70, 71, 72, 73, 74, 75, 76, 77, 78, 79, 80, 81, 82, 83, 84, 85] V V16 := agV6.tr ajV16 (by decide) (by decide)
  have t11 : (V16 5 6).toInt = 0 := t11
  have t12 : (V16 5 7).toInt = 0 := t12
  have t13 : (V16 5 8).toInt = 0 := t13
  have t14 : (V16 5 9).toInt = 0 := t14
  have t15 : (V16 5 13).toInt = 0 := t15
  have r18 : 0 ≤ ((V16 5 6)).toInt ∧ ((V16 5 6)).toInt ≤ 400 := hMV16 5 6
  have r19 : 0 ≤ ((V16 5 7)).toInt ∧ ((V16 5 7)).toInt ≤ 2048 := hMV16 5 7
  have r20 : 0 ≤ ((V16 5 8)).toInt ∧ ((V16 5 8)).toInt ≤ 300 := hMV16 5 8
  have r21 : 0 ≤ ((V16 5 9)).toInt ∧ ((V16 5 9)).toInt ≤ 3 := hMV16 5 9
  have r22 : 0 ≤ ((V16 5 13)).toInt ∧ ((V16 5 13)).toInt ≤ 3000 := hMV16 5 13
  refine lv_aload_n hx hb dX11_get_16 rfl (lv_at hl 0 rfl) ?_
  refine va_get (D := D) (ci := 11) (v := .int (V16 0 8)) (fs := (xfHouse ad V16 L Z)) (C := RX11) (T := TX11) (N := 10) hx hb hg inX11 hown hK hP 0 xgHouse rfl 8 (by decide) (hg _ w723) (fun _ h9 => h9) rfl dX11_get_17 ?_
  refine g_top (v := (V 0 8)) ((ajV16 0 8 rfl).trans (ajV6 0 8 rfl)) ?_
  have r23 : 0 ≤ ((V 0 8)).toInt ∧ ((V 0 8)).toInt ≤ 1 := hMV 0 8
  refine lv_if_ne (tgt := 30) hx hb dX11_get_20 (by decide) (fun c24 => ?_) (fun c24 => ?_)
  · skip
    have f25 : ((V 0 8)).toInt ≠ 0 := b_neq rfl (by decide) c24
    refine lv_aload_n hx hb dX11_get_30 rfl (lv_at hl 0 rfl) ?_
    refine va_get (D := D) (ci := 11) (v := .ref (ad 3)) (fs := (xfHouse ad V16 L Z)) (C := RX11) (T := TX11) (N := 10) hx hb hg inX11 hown hK hP 0 xgHouse rfl 3 (by decide) (hg _ w718) (fun _ h9 => h9) rfl dX11_get_31 ?_
    refine lv_iload_n hx hb dX11_get_34 rfl (lv_at hl 1 rfl) ?_
    refine gA_int (gA_runV (As := [.int p0]) (rest := []) (ci := 8) (q0 := 3) hx hb hml hown hg hP hD hK hS hA hnw hgk (x_isOpen l D ks H.size ad kk V16 L Z p0 hMV16 ) w1158 w1159 w1160 w164 w1161 rfl xgStock hdV_yX8_isOpen ⟨Nat.le_of_ble_eq_true rfl, Nat.le_of_ble_eq_true rfl⟩ rfl hl.1 rfl (Nat.le_of_ble_eq_true rfl) dX11_get_35 ⟨z0, z0⟩) hP hD hK hS hA (fun z26 u27 H locs w28 hP hD hK hS => ?_)
    obtain ⟨rgz26, t29⟩ := w28
    have rgz26 : 0 ≤ z26.toInt ∧ z26.toInt ≤ 1 := rgz26
    have t29 : Imp (z26.toInt = 1) (0 ≤ p0.toInt ∧ p0.toInt < (V16 3 12).toInt) := t29
    have pq30 : (V16 3 12).toInt = ((V 3 12)).toInt := congrArg Int32.toInt ((ajV16 3 12 rfl).trans (ajV6 3 12 rfl))
    have r31 : 1 ≤ ((V 3 12)).toInt ∧ ((V 3 12)).toInt ≤ 40 := hMV 3 12
    refine lv_if_ne (tgt := 48) hx hb dX11_get_38 (by decide) (fun c32 => ?_) (fun c32 => ?_)
    · skip
      have f33 : z26.toInt ≠ 0 := b_neq rfl (by decide) c32
      have rh34 := Imp.go t29 (by omega)
      refine lv_aload_n hx hb dX11_get_48 rfl (lv_at hl 0 rfl) ?_
      refine va_get (D := D) (ci := 11) (v := .ref (ad (38 + Int32.toNatClampNeg (V16 0 6)))) (fs := (xfHouse ad V16 L Z)) (C := RX11) (T := TX11) (N := 10) hx hb hg inX11 hown hK hP 0 xgHouse rfl 6 (by decide) (hg _ w721) (fun _ h9 => h9) rfl dX11_get_49 ?_
      have pq35 : (V16 0 6).toInt = ((V 0 6)).toInt := congrArg Int32.toInt ((ajV16 0 6 rfl).trans (ajV6 0 6 rfl))
      refine g_topv (v := .ref (ad (38 + b))) (rfP (by first | omega | ((try (have i_t29 := Imp.go t29 (by omega))); omega))) ?_
      refine lv_iload_n hx hb dX11_get_52 rfl (lv_at hl 2 rfl) ?_
      refine gA_int (gA_runV (As := [.int p1]) (rest := []) (ci := 0) (q0 := (38 + b)) hx hb hml hown hg hP hD hK hS hA hnw hgk (x_bhas l D ks H.size ad kk V16 L Z p1 (b) hMV16 (show b < 2 from by first | exact om_f940a4667dd6 hb2 | first | omega | ((try (have i_t29 := Imp.go t29 (by omega))); omega))) w1137 w1138 w1139 w167 w1140 rfl (xgBook hb2) hdV_yX0_has ⟨Nat.le_of_ble_eq_true rfl, Nat.le_of_ble_eq_true rfl⟩ rfl hl.1 rfl (Nat.le_of_ble_eq_true rfl) dX11_get_53 ⟨z0, z0⟩) hP hD hK hS hA (fun z36 u37 H locs w38 hP hD hK hS => ?_)
      obtain ⟨rgz36, t39⟩ := w38
      have rgz36 : 0 ≤ z36.toInt ∧ z36.toInt ≤ 1 := rgz36
      have t39 : Imp (z36.toInt = 1) (0 ≤ p1.toInt ∧ p1.toInt < (V16 43 (5 * b + 2)).toInt) := t39
      refine lv_if_eq (tgt := 70) hx hb dX11_get_56 (by decide) (fun c40 => ?_) (fun c40 => ?_)
      · skip
        have f41 : z36.toInt = 0 := b_eq rfl (by decide) c40
        refine lv_aload_n hx hb dX11_get_70 rfl (lv_at hl 0 rfl) ?_
        refine lv_iconst (v := 4) hx hb dX11_get_71 (by decide) ?_
        refine lv_iconst (v := (-1)) hx hb dX11_get_72 (by decide) ?_
        have r42 : Int32.toInt 4 = 4 := by decide
        have r43 : Int32.toInt (-1) = (-1) := by decide
        refine gA_int (gA_runV (As := [.int 4, .int (-1)]) (rest := []) (ci := 11) (q0 := 0) hx hb hml hown hg hP hD hK hS hA hnw hgk (x_ends l D ks H.size ad kk V16 L Z 4 (-1) hMV16 ) w1171 w1173 w42 w156 w1174 rfl xgHouse hdV_yX11_ends ⟨Nat.le_of_ble_eq_true rfl, Nat.le_of_ble_eq_true rfl⟩ rfl hl.1 rfl (Nat.le_of_ble_eq_true rfl) dX11_get_73 ⟨z0, z0⟩) hP hD hK hS hA (fun z44 u45 H locs w46 hP hD hK hS => ?_)
        obtain ⟨V47, L48⟩ := u45
        obtain ⟨hMV47, ajV47, axL48⟩ := w46
        have axL48 : L = L48 := Eq.symm axL48
        subst axL48
        have hP : va_P D vwCl (xw ad kk V47 L Z) H := hP
        have hD : va_D A (xw ad kk V47 L Z) := hD
        have hMV47 : rgd bX V47 := hMV47
        have ajV47 : agr [(0, 9)] [] V16 V47 := ajV47
        have agV47 : agr [(0, 9), (3, 13), (3, 14), (3, 15), (4, 5), (4, 6), (4, 7), (4, 8), (5, 6), (5, 7), (5, 8), (5, 9), (5, 10), (5, 11), (5, 12), (5, 13), (5, 14)] [24, 25, 26, 27, 28, 29, 30, 31, 32, 33, 34, 35, 36, 37, 39, 40, 67, 68, 69, 70, 71, 72, 73, 74, 75, 76, 77, 78, 79, 80, 81, 82, 83, 84, 85] V V47 := agV16.tr ajV47 (by decide) (by decide)
        have hi49 : HI V47 Z b := (HI.ag (HI.ag (HI.ag hi ajV6 (by decide)) ajV16 (by decide)) ajV47 (by decide))
        refine W.know (fun kr1 kr2 => ?_)
        refine W.widen (k := zcc Z) (n := zss Z) (Nat.sub_le _ _) (Nat.sub_le _ _) ?_
        exact W.iret (v := z44) hx hb hr (fun t ht hW => ⟨⟨z44, (V47, L, Z), rfl, ⟨hMV47, agV47, rfl, zoZ, hi49⟩, ⟨by rw [ht]; exact hP, va_K.moved hW.alike hK, hD⟩, by rw [ht]; exact kr1, by rw [ht]; exact kr2⟩, hS.F ht⟩) hS.2.2 dX11_get_76
      · skip
        have f50 : z36.toInt ≠ 0 := b_neq rfl (by decide) c40
        have rh51 := Imp.go t39 (by omega)
        have pq52 : (V16 43 (5 * b + 2)).toInt = ((V 43 (5 * b + 2))).toInt := congrArg Int32.toInt ((ajV16 43 (5 * b + 2) rfl).trans (ajV6 43 (5 * b + 2) rfl))
        have r53 : 0 ≤ ((V 43 (5 * b + 2))).toInt ∧ ((V 43 (5 * b + 2))).toInt ≤ ((xcap (5 * b + 2) : Nat) : Int) := hMV 43 (5 * b + 2)
        have r54 : xcap (5 * b + 2) = 24 := xcap_2
        refine lv_aload_n hx hb dX11_get_59 rfl (lv_at hl 0 rfl) ?_
        refine va_get (D := D) (ci := 11) (v := .ref (ad (38 + Int32.toNatClampNeg (V16 0 6)))) (fs := (xfHouse ad V16 L Z)) (C := RX11) (T := TX11) (N := 10) hx hb hg inX11 hown hK hP 0 xgHouse rfl 6 (by decide) (hg _ w721) (fun _ h9 => h9) rfl dX11_get_60 ?_
        refine g_topv (v := .ref (ad (38 + b))) (rfP (by first | omega | ((try (have i_t39 := Imp.go t39 (by omega))); (try (have i_t29 := Imp.go t29 (by omega))); (try (have i_t29 := Imp.go t29 (by omega))); (try (have i_t39 := Imp.go t39 (by omega))); omega))) ?_
        refine lv_iload_n hx hb dX11_get_63 rfl (lv_at hl 2 rfl) ?_
        refine gA_int (gA_runV (As := [.int p1]) (rest := []) (ci := 0) (q0 := (38 + b)) hx hb hml hown hg hP hD hK hS hA hnw hgk (x_isThere l D ks H.size ad kk V16 L Z p1 (b) hMV16 (by first | exact om_afc7a4c8b051 pq52 r53.2 r54 ((Imp.go t39 (imp_a (rgz36.1) (rgz36.2) (f50))).1) ((Imp.go t39 (imp_a (rgz36.1) (rgz36.2) (f50))).2) | first | omega | ((try (have i_t39 := Imp.go t39 (by omega))); (try (have i_t29 := Imp.go t29 (by omega))); (try (have i_t29 := Imp.go t29 (by omega))); (try (have i_t39 := Imp.go t39 (by omega))); omega)) (show b < 2 from by first | exact om_f940a4667dd6 hb2 | first | omega | ((try (have i_t39 := Imp.go t39 (by omega))); (try (have i_t29 := Imp.go t29 (by omega))); (try (have i_t29 := Imp.go t29 (by omega))); (try (have i_t39 := Imp.go t39 (by omega))); omega))) w1175 w1070 w1071 w167 w1072 rfl (xgBook hb2) hdV_yX0_isThere ⟨Nat.le_of_ble_eq_true rfl, Nat.le_of_ble_eq_true rfl⟩ rfl hl.1 rfl (Nat.le_of_ble_eq_true rfl) dX11_get_64 ⟨z0, z0⟩) hP hD hK hS hA (fun z55 u56 H locs w57 hP hD hK hS => ?_)
        have rgz55 := w57
        have rgz55 : 0 ≤ z55.toInt ∧ z55.toInt ≤ 1 := rgz55
        refine lv_if_ne (tgt := 77) hx hb dX11_get_67 (by decide) (fun c58 => ?_) (fun c58 => ?_)
        · skip
          have f59 : z55.toInt ≠ 0 := b_neq rfl (by decide) c58
          have hi60 : HI V16 Z b := (HI.ag (HI.ag hi ajV6 (by decide)) ajV16 (by decide))
          have mt61 : MTr V16 Z b := HI.mtr hi60 (by omega) (by omega) (by omega)
          refine lv_aload_n hx hb dX11_get_77 rfl (lv_at hl 0 rfl) ?_
          refine va_get (D := D) (ci := 11) (v := .ref (ad 5)) (fs := (xfHouse ad V16 L Z)) (C := RX11) (T := TX11) (N := 10) hx hb hg inX11 hown hK hP 0 xgHouse rfl 5 (by decide) (hg _ w720) (fun _ h9 => h9) rfl dX11_get_78 ?_
          refine lv_iload_n hx hb dX11_get_81 rfl (lv_at hl 2 rfl) ?_
          refine lv_iload_n hx hb dX11_get_82 rfl (lv_at hl 1 rfl) ?_
          refine lv_iconst (v := 0) hx hb dX11_get_83 (by decide) ?_
          refine W.know (fun k63 k64 => ?_)
          obtain ⟨Hk62, hHk62⟩ : ∃ z, z = H := ⟨_, rfl⟩
          have k63 : Hk62.size ≤ s.heap.size + (zcc Z - zcc Z) := by rw [hHk62]; exact k63
          have k64 : tot Hk62 ≤ tot s.heap + (zss Z - zss Z) := by rw [hHk62]; exact k64
          refine gZ_void (gA_runV (As := [.int p1, .int p0, .int 0]) (rest := []) (ci := 5) (q0 := 5) hx hb hml hown hg hP hD hK hS hA hnw hgk (x_pushRoot l D ks H.size ad kk V16 L Z p1 p0 0 (b) hMV16 (by first | exact om_cccd982b48f8 pq52 r53.2 r54 ((Imp.go t39 (imp_a (rgz36.1) (rgz36.2) (f50))).1) ((Imp.go t39 (imp_a (rgz36.1) (rgz36.2) (f50))).2) | first | omega | ((try (have i_t39 := Imp.go t39 (by omega))); (try (have i_t29 := Imp.go t29 (by omega))); (try (have i_t29 := Imp.go t29 (by omega))); (try (have i_t39 := Imp.go t39 (by omega))); omega)) (by first | exact om_47058e563f80 pq30 r31.2 ((Imp.go t29 (imp_a (rgz26.1) (rgz26.2) (f33))).1) ((Imp.go t29 (imp_a (rgz26.1) (rgz26.2) (f33))).2) | first | omega | ((try (have i_t39 := Imp.go t39 (by omega))); (try (have i_t29 := Imp.go t29 (by omega))); (try (have i_t29 := Imp.go t29 (by omega))); (try (have i_t39 := Imp.go t39 (by omega))); omega)) (show b < 2 from by first | exact om_f940a4667dd6 hb2 | first | omega | ((try (have i_t39 := Imp.go t39 (by omega))); (try (have i_t29 := Imp.go t29 (by omega))); (try (have i_t29 := Imp.go t29 (by omega))); (try (have i_t39 := Imp.go t39 (by omega))); omega)) mt61) w1176 w1177 w1178 w171 w1179 rfl xgMachine hdV_yX5_pushRoot ⟨Nat.le_of_ble_eq_true rfl, Nat.le_of_ble_eq_true rfl⟩ rfl hl.1 rfl (Nat.le_of_ble_eq_true rfl) dX11_get_84 ⟨z1 zoZ.1, z1 zoZ.2.1⟩) hD hS hA (fun u66 H locs w67 hP hD hK hS y68 y69 => ?_)
          obtain ⟨V70, L71, Z72⟩ := u66
          obtain ⟨hMV70, ajV70, axL71, zlZ72, t74⟩ := w67
          have axL71 : L = L71 := Eq.symm axL71
          subst axL71
          have hP : va_P D vwCl (xw ad kk V70 L Z72) H := hP
          have hD : va_D A (xw ad kk V70 L Z72) := hD
          have hK : va_K D vwCl (xty kk Z72) s := hK
          have hMV70 : rgd bX V70 := hMV70
          have ajV70 : agr [(5, 6), (5, 9)] [67, 68, 69, 70, 71, 72, 73, 74, 75, 76, 77, 78, 79, 80, 81, 82, 83, 84, 85] V16 V70 := ajV70
          have agV70 : agr [(0, 9), (3, 13), (3, 14), (3, 15), (4, 5), (4, 6), (4, 7), (4, 8), (5, 6), (5, 7), (5, 8), (5, 9), (5, 10), (5, 11), (5, 12), (5, 13), (5, 14)] [24, 25, 26, 27, 28, 29, 30, 31, 32, 33, 34, 35, 36, 37, 39, 40, 67, 68, 69, 70, 71, 72, 73, 74, 75, 76, 77, 78, 79, 80, 81, 82, 83, 84, 85] V V70 := agV16.tr ajV70 (by decide) (by decide)
          have zlZ72 : ZL Z Z72 := zlZ72
          have zoZ72 : ZL Z Z72 := ZL.tr zoZ zlZ72
          have ziZ72 := zlZ72.1
          have zjZ72 := zlZ72.2.1
          have zkZ72 := zlZ72.2.2.1
          have zmZ72 := zoZ72.1
          have znZ72 := zoZ72.2.1
          have zpZ_Z72 := zoZ.1
          have zqZ_Z72 := zoZ.2.1
          have y68 : H.size ≤ Hk62.size + (zcc Z - zcc Z72) := by rw [hHk62]; exact y68
          have y69 : tot H ≤ tot Hk62 + (zss Z - zss Z72) := by rw [hHk62]; exact y69
          refine W.tight (k := zcc Z - zcc Z72) (n := zss Z - zss Z72) (by first | exact tg9 y68 k63 zlZ72.1 zoZ.1 | omega) (by first | exact tg9 y69 k64 zlZ72.2.1 zoZ.2.1 | omega) ?_
          have t74 : MJ V70 Z72 b := t74
          refine lv_aload_n hx hb dX11_get_87 rfl (lv_at hl 0 rfl) ?_
          refine va_get (D := D) (ci := 11) (v := .ref (ad 5)) (fs := (xfHouse ad V70 L Z72)) (C := RX11) (T := TX11) (N := 10) hx hb hg inX11 hown hK hP 0 xgHouse rfl 5 (by decide) (hg _ w720) (fun _ h9 => h9) rfl dX11_get_88 ?_
          refine W.know (fun k76 k77 => ?_)
          obtain ⟨Hk75, hHk75⟩ : ∃ z, z = H := ⟨_, rfl⟩
          have k76 : Hk75.size ≤ s.heap.size + (zcc Z - zcc Z72) := by rw [hHk75]; exact k76
          have k77 : tot Hk75 ≤ tot s.heap + (zss Z - zss Z72) := by rw [hHk75]; exact k77
          refine gZ_void (gA_runV (As := []) (rest := []) (ci := 5) (q0 := 5) hx hb hml hown hg hP hD hK hS hA hnw hgk (x_run l D ks H.size ad kk V70 L Z72 (b) hMV70 (show b < 2 from by first | exact om_f940a4667dd6 hb2 | first | omega | ((try (have i_t39 := Imp.go t39 (by omega))); (try (have i_t29 := Imp.go t29 (by omega))); (try (have i_t29 := Imp.go t29 (by omega))); (try (have i_t39 := Imp.go t39 (by omega))); omega)) t74) w1247 w1248 w1249 w171 w1250 rfl xgMachine hdV_yX5_run ⟨Nat.le_of_ble_eq_true rfl, Nat.le_of_ble_eq_true rfl⟩ rfl hl.1 rfl (Nat.le_of_ble_eq_true rfl) dX11_get_91 ⟨z1 zoZ72.1, z1 zoZ72.2.1⟩) hD hS hA (fun u79 H locs w80 hP hD hK hS y81 y82 => ?_)
          obtain ⟨V83, L84, Z85⟩ := u79
          obtain ⟨hMV83, ajV83, axL84, zlZ85, t87⟩ := w80
          have axL84 : L = L84 := Eq.symm axL84
          subst axL84
          have hP : va_P D vwCl (xw ad kk V83 L Z85) H := hP
          have hD : va_D A (xw ad kk V83 L Z85) := hD
          have hK : va_K D vwCl (xty kk Z85) s := hK
          have hMV83 : rgd bX V83 := hMV83
          have ajV83 : agr [(3, 13), (3, 14), (3, 15), (4, 5), (4, 6), (5, 6), (5, 7), (5, 8), (5, 9), (5, 10), (5, 11), (5, 12), (5, 13), (5, 14)] [24, 25, 26, 27, 28, 29, 30, 31, 32, 33, 34, 35, 36, 37, 39, 40, 67, 68, 69, 70, 71, 72, 73, 74, 75, 76, 77, 78, 79, 80, 81, 82, 83, 84, 85] V70 V83 := ajV83
          have agV83 : agr [(0, 9), (3, 13), (3, 14), (3, 15), (4, 5), (4, 6), (4, 7), (4, 8), (5, 6), (5, 7), (5, 8), (5, 9), (5, 10), (5, 11), (5, 12), (5, 13), (5, 14)] [24, 25, 26, 27, 28, 29, 30, 31, 32, 33, 34, 35, 36, 37, 39, 40, 67, 68, 69, 70, 71, 72, 73, 74, 75, 76, 77, 78, 79, 80, 81, 82, 83, 84, 85] V V83 := agV70.tr ajV83 (by decide) (by decide)
          have zlZ85 : ZL Z72 Z85 := zlZ85
          have zoZ85 : ZL Z Z85 := ZL.tr zoZ72 zlZ85
          have ziZ85 := zlZ85.1
          have zjZ85 := zlZ85.2.1
          have zkZ85 := zlZ85.2.2.1
          have zmZ85 := zoZ85.1
          have znZ85 := zoZ85.2.1
          have zpZ72_Z85 := zoZ72.1
          have zqZ72_Z85 := zoZ72.2.1
          have y81 : H.size ≤ Hk75.size + (zcc Z72 - zcc Z85) := by rw [hHk75]; exact y81
          have y82 : tot H ≤ tot Hk75 + (zss Z72 - zss Z85) := by rw [hHk75]; exact y82
          refine W.tight (k := zcc Z - zcc Z85) (n := zss Z - zss Z85) (by first | exact tg9 y81 k76 zlZ85.1 zoZ72.1 | omega) (by first | exact tg9 y82 k77 zlZ85.2.1 zoZ72.2.1 | omega) ?_
          have t87 : MJ V83 Z85 b := t87
          refine lv_aload_n hx hb dX11_get_94 rfl (lv_at hl 0 rfl) ?_
          refine lv_aload_n hx hb dX11_get_95 rfl (lv_at hl 0 rfl) ?_
          refine va_get (D := D) (ci := 11) (v := .ref (ad 5)) (fs := (xfHouse ad V83 L Z85)) (C := RX11) (T := TX11) (N := 10) hx hb hg inX11 hown hK hP 0 xgHouse rfl 5 (by decide) (hg _ w720) (fun _ h9 => h9) rfl dX11_get_96 ?_
          refine gA_int (gA_runV (As := []) (rest := [.ref (ad 0)]) (ci := 5) (q0 := 5) hx hb hml hown hg hP hD hK hS hA hnw hgk (x_howItEnded l D ks H.size ad kk V83 L Z85  hMV83 ) w1501 w1502 w1503 w171 w1504 rfl xgMachine hdV_yX5_howItEnded ⟨Nat.le_of_ble_eq_true rfl, Nat.le_of_ble_eq_true rfl⟩ rfl hl.1 rfl (Nat.le_of_ble_eq_true rfl) dX11_get_99 ⟨z0, z0⟩) hP hD hK hS hA (fun z88 u89 H locs w90 hP hD hK hS => ?_)
          obtain ⟨V91, L92⟩ := u89
          obtain ⟨hMV91, ajV91, axL92⟩ := w90
          have axL92 : L = L92 := Eq.symm axL92
          subst axL92
          have hP : va_P D vwCl (xw ad kk V91 L Z85) H := hP
          have hD : va_D A (xw ad kk V91 L Z85) := hD
          have hMV91 : rgd bX V91 := hMV91
          have ajV91 : agr [(4, 7), (4, 8)] [] V83 V91 := ajV91
          have agV91 : agr [(0, 9), (3, 13), (3, 14), (3, 15), (4, 5), (4, 6), (4, 7), (4, 8), (5, 6), (5, 7), (5, 8), (5, 9), (5, 10), (5, 11), (5, 12), (5, 13), (5, 14)] [24, 25, 26, 27, 28, 29, 30, 31, 32, 33, 34, 35, 36, 37, 39, 40, 67, 68, 69, 70, 71, 72, 73, 74, 75, 76, 77, 78, 79, 80, 81, 82, 83, 84, 85] V V91 := agV83.tr ajV91 (by decide) (by decide)
          refine lv_aload_n hx hb dX11_get_102 rfl (lv_at hl 0 rfl) ?_
          refine va_get (D := D) (ci := 11) (v := .ref (ad 5)) (fs := (xfHouse ad V91 L Z85)) (C := RX11) (T := TX11) (N := 10) hx hb hg inX11 hown hK hP 0 xgHouse rfl 5 (by decide) (hg _ w720) (fun _ h9 => h9) rfl dX11_get_103 ?_
          refine lv_iconst (v := (-1)) hx hb dX11_get_106 (by decide) ?_
          have r93 : Int32.toInt (-1) = (-1) := by decide
          refine gA_int (gA_runV (As := [.int (-1)]) (rest := [.int z88, .ref (ad 0)]) (ci := 5) (q0 := 5) hx hb hml hown hg hP hD hK hS hA hnw hgk (x_answerOr l D ks H.size ad kk V91 L Z85 (-1) hMV91 ) w1506 w1507 w1508 w171 w1509 rfl xgMachine hdV_yX5_answerOr ⟨Nat.le_of_ble_eq_true rfl, Nat.le_of_ble_eq_true rfl⟩ rfl hl.1 rfl (Nat.le_of_ble_eq_true rfl) dX11_get_107 ⟨z0, z0⟩) hP hD hK hS hA (fun z94 u95 H locs w96 hP hD hK hS => ?_)
          refine gA_int (gA_runV (As := [.int z88, .int z94]) (rest := []) (ci := 11) (q0 := 0) hx hb hml hown hg hP hD hK hS hA hnw hgk (x_ends l D ks H.size ad kk V91 L Z85 z88 z94 hMV91 ) w1171 w1173 w42 w156 w1174 rfl xgHouse hdV_yX11_ends ⟨Nat.le_of_ble_eq_true rfl, Nat.le_of_ble_eq_true rfl⟩ rfl hl.1 rfl (Nat.le_of_ble_eq_true rfl) dX11_get_110 ⟨z0, z0⟩) hP hD hK hS hA (fun z97 u98 H locs w99 hP hD hK hS => ?_)
          obtain ⟨V100, L101⟩ := u98
          obtain ⟨hMV100, ajV100, axL101⟩ := w99
          have axL101 : L = L101 := Eq.symm axL101
          subst axL101
          have hP : va_P D vwCl (xw ad kk V100 L Z85) H := hP
          have hD : va_D A (xw ad kk V100 L Z85) := hD
          have hMV100 : rgd bX V100 := hMV100
          have ajV100 : agr [(0, 9)] [] V91 V100 := ajV100
          have agV100 : agr [(0, 9), (3, 13), (3, 14), (3, 15), (4, 5), (4, 6), (4, 7), (4, 8), (5, 6), (5, 7), (5, 8), (5, 9), (5, 10), (5, 11), (5, 12), (5, 13), (5, 14)] [24, 25, 26, 27, 28, 29, 30, 31, 32, 33, 34, 35, 36, 37, 39, 40, 67, 68, 69, 70, 71, 72, 73, 74, 75, 76, 77, 78, 79, 80, 81, 82, 83, 84, 85] V V100 := agV91.tr ajV100 (by decide) (by decide)
          have hi102 : HI V100 Z85 b := (HI.ag (HI.ag (MJ.hi t87) ajV91 (by decide)) ajV100 (by decide))
          refine W.know (fun kr1 kr2 => ?_)
          refine W.widen (k := zcc Z) (n := zss Z) (Nat.sub_le _ _) (Nat.sub_le _ _) ?_
          exact W.iret (v := z97) hx hb hr (fun t ht hW => ⟨⟨z97, (V100, L, Z85), rfl, ⟨hMV100, agV100, rfl, zoZ85, hi102⟩, ⟨by rw [ht]; exact hP, va_K.moved hW.alike hK, hD⟩, by rw [ht]; exact kr1, by rw [ht]; exact kr2⟩, hS.F ht⟩) hS.2.2 dX11_get_113
        · skip
          have f103 : z55.toInt = 0 := b_eq rfl (by decide) c58
          refine lv_aload_n hx hb dX11_get_70 rfl (lv_at hl 0 rfl) ?_
          refine lv_iconst (v := 4) hx hb dX11_get_71 (by decide) ?_
          refine lv_iconst (v := (-1)) hx hb dX11_get_72 (by decide) ?_
          have r104 : Int32.toInt 4 = 4 := by decide
          have r105 : Int32.toInt (-1) = (-1) := by decide
          refine gA_int (gA_runV (As := [.int 4, .int (-1)]) (rest := []) (ci := 11) (q0 := 0) hx hb hml hown hg hP hD hK hS hA hnw hgk (x_ends l D ks H.size ad kk V16 L Z 4 (-1) hMV16 ) w1171 w1173 w42 w156 w1174 rfl xgHouse hdV_yX11_ends ⟨Nat.le_of_ble_eq_true rfl, Nat.le_of_ble_eq_true rfl⟩ rfl hl.1 rfl (Nat.le_of_ble_eq_true rfl) dX11_get_73 ⟨z0, z0⟩) hP hD hK hS hA (fun z106 u107 H locs w108 hP hD hK hS => ?_)
          obtain ⟨V109, L110⟩ := u107
          obtain ⟨hMV109, ajV109, axL110⟩ := w108
          have axL110 : L = L110 := Eq.symm axL110
          subst axL110
          have hP : va_P D vwCl (xw ad kk V109 L Z) H := hP
          have hD : va_D A (xw ad kk V109 L Z) := hD
          have hMV109 : rgd bX V109 := hMV109
          have ajV109 : agr [(0, 9)] [] V16 V109 := ajV109
          have agV109 : agr [(0, 9), (3, 13), (3, 14), (3, 15), (4, 5), (4, 6), (4, 7), (4, 8), (5, 6), (5, 7), (5, 8), (5, 9), (5, 10), (5, 11), (5, 12), (5, 13), (5, 14)] [24, 25, 26, 27, 28, 29, 30, 31, 32, 33, 34, 35, 36, 37, 39, 40, 67, 68, 69, 70, 71, 72, 73, 74, 75, 76, 77, 78, 79, 80, 81, 82, 83, 84, 85] V V109 := agV16.tr ajV109 (by decide) (by decide)
          have hi111 : HI V109 Z b := (HI.ag (HI.ag (HI.ag hi ajV6 (by decide)) ajV16 (by decide)) ajV109 (by decide))
          refine W.know (fun kr1 kr2 => ?_)
          refine W.widen (k := zcc Z) (n := zss Z) (Nat.sub_le _ _) (Nat.sub_le _ _) ?_
          exact W.iret (v := z106) hx hb hr (fun t ht hW => ⟨⟨z106, (V109, L, Z), rfl, ⟨hMV109, agV109, rfl, zoZ, hi111⟩, ⟨by rw [ht]; exact hP, va_K.moved hW.alike hK, hD⟩, by rw [ht]; exact kr1, by rw [ht]; exact kr2⟩, hS.F ht⟩) hS.2.2 dX11_get_76
    · skip
      have f112 : z26.toInt = 0 := b_eq rfl (by decide) c32
      refine lv_aload_n hx hb dX11_get_41 rfl (lv_at hl 0 rfl) ?_
      refine lv_iconst (v := 3) hx hb dX11_get_42 (by decide) ?_
      refine lv_iconst (v := (-1)) hx hb dX11_get_43 (by decide) ?_
      have r113 : Int32.toInt 3 = 3 := by decide
      have r114 : Int32.toInt (-1) = (-1) := by decide
      refine gA_int (gA_runV (As := [.int 3, .int (-1)]) (rest := []) (ci := 11) (q0 := 0) hx hb hml hown hg hP hD hK hS hA hnw hgk (x_ends l D ks H.size ad kk V16 L Z 3 (-1) hMV16 ) w1171 w1173 w42 w156 w1174 rfl xgHouse hdV_yX11_ends ⟨Nat.le_of_ble_eq_true rfl, Nat.le_of_ble_eq_true rfl⟩ rfl hl.1 rfl (Nat.le_of_ble_eq_true rfl) dX11_get_44 ⟨z0, z0⟩) hP hD hK hS hA (fun z115 u116 H locs w117 hP hD hK hS => ?_)
      obtain ⟨V118, L119⟩ := u116
      obtain ⟨hMV118, ajV118, axL119⟩ := w117
      have axL119 : L = L119 := Eq.symm axL119
      subst axL119
      have hP : va_P D vwCl (xw ad kk V118 L Z) H := hP
      have hD : va_D A (xw ad kk V118 L Z) := hD
      have hMV118 : rgd bX V118 := hMV118
      have ajV118 : agr [(0, 9)] [] V16 V118 := ajV118
      have agV118 : agr [(0, 9), (3, 13), (3, 14), (3, 15), (4, 5), (4, 6), (4, 7), (4, 8), (5, 6), (5, 7), (5, 8), (5, 9), (5, 10), (5, 11), (5, 12), (5, 13), (5, 14)] [24, 25, 26, 27, 28, 29, 30, 31, 32, 33, 34, 35, 36, 37, 39, 40, 67, 68, 69, 70, 71, 72, 73, 74, 75, 76, 77, 78, 79, 80, 81, 82, 83, 84, 85] V V118 := agV16.tr ajV118 (by decide) (by decide)
      have hi120 : HI V118 Z b := (HI.ag (HI.ag (HI.ag hi ajV6 (by decide)) ajV16 (by decide)) ajV118 (by decide))
      refine W.know (fun kr1 kr2 => ?_)
      refine W.widen (k := zcc Z) (n := zss Z) (Nat.sub_le _ _) (Nat.sub_le _ _) ?_
      exact W.iret (v := z115) hx hb hr (fun t ht hW => ⟨⟨z115, (V118, L, Z), rfl, ⟨hMV118, agV118, rfl, zoZ, hi120⟩, ⟨by rw [ht]; exact hP, va_K.moved hW.alike hK, hD⟩, by rw [ht]; exact kr1, by rw [ht]; exact kr2⟩, hS.F ht⟩) hS.2.2 dX11_get_47
  · skip
    have f121 : ((V 0 8)).toInt = 0 := b_eq rfl (by decide) c24
    refine lv_aload_n hx hb dX11_get_23 rfl (lv_at hl 0 rfl) ?_
    refine lv_iconst (v := 4) hx hb dX11_get_24 (by decide) ?_
    refine lv_iconst (v := (-1)) hx hb dX11_get_25 (by decide) ?_
    have r122 : Int32.toInt 4 = 4 := by decide
    have r123 : Int32.toInt (-1) = (-1) := by decide
    refine gA_int (gA_runV (As := [.int 4, .int (-1)]) (rest := []) (ci := 11) (q0 := 0) hx hb hml hown hg hP hD hK hS hA hnw hgk (x_ends l D ks H.size ad kk V16 L Z 4 (-1) hMV16 ) w1171 w1173 w42 w156 w1174 rfl xgHouse hdV_yX11_ends ⟨Nat.le_of_ble_eq_true rfl, Nat.le_of_ble_eq_true rfl⟩ rfl hl.1 rfl (Nat.le_of_ble_eq_true rfl) dX11_get_26 ⟨z0, z0⟩) hP hD hK hS hA (fun z124 u125 H locs w126 hP hD hK hS => ?_)
    obtain ⟨V127, L128⟩ := u125
    obtain ⟨hMV127, ajV127, axL128⟩ := w126
    have axL128 : L = L128 := Eq.symm axL128
    subst axL128
    have hP : va_P D vwCl (xw ad kk V127 L Z) H := hP
    have hD : va_D A (xw ad kk V127 L Z) := hD
    have hMV127 : rgd bX V127 := hMV127
    have ajV127 : agr [(0, 9)] [] V16 V127 := ajV127
    have agV127 : agr [(0, 9), (3, 13), (3, 14), (3, 15), (4, 5), (4, 6), (4, 7), (4, 8), (5, 6), (5, 7), (5, 8), (5, 9), (5, 10), (5, 11), (5, 12), (5, 13), (5, 14)] [24, 25, 26, 27, 28, 29, 30, 31, 32, 33, 34, 35, 36, 37, 39, 40, 67, 68, 69, 70, 71, 72, 73, 74, 75, 76, 77, 78, 79, 80, 81, 82, 83, 84, 85] V V127 := agV16.tr ajV127 (by decide) (by decide)
    have hi129 : HI V127 Z b := (HI.ag (HI.ag (HI.ag hi ajV6 (by decide)) ajV16 (by decide)) ajV127 (by decide))
    refine W.know (fun kr1 kr2 => ?_)
    refine W.widen (k := zcc Z) (n := zss Z) (Nat.sub_le _ _) (Nat.sub_le _ _) ?_
    exact W.iret (v := z124) hx hb hr (fun t ht hW => ⟨⟨z124, (V127, L, Z), rfl, ⟨hMV127, agV127, rfl, zoZ, hi129⟩, ⟨by rw [ht]; exact hP, va_K.moved hW.alike hK, hD⟩, by rw [ht]; exact kr1, by rw [ht]; exact kr2⟩, hS.F ht⟩) hS.2.2 dX11_get_29
abbrev r_x_h_call (Z : XZ) : Room := { frames := 8, cells := zcc Z, slots := zss Z, locals := 181 }
abbrev q_x_h_call (D : va_G) (ks : KS) (ad : Nat → Nat) (kk : Nat → ClassId) (V : Vf) (L : Lf) (Z : XZ) (p0 : Int32) (p1 : Int32) (p2 : Int32) (p3 : Int32) (b : Nat) (A : Nat → Prop) : Array Value → State → Outcome → State → Prop := qZi D (fun (r : Int32) (u : Vf × Lf × XZ) => rgd bX u.1 ∧ agr [(0, 9), (3, 13), (3, 14), (3, 15), (4, 5), (4, 6), (4, 7), (4, 8), (4, 9), (5, 6), (5, 7), (5, 8), (5, 9), (5, 10), (5, 11), (5, 12), (5, 13), (5, 14)] [24, 25, 26, 27, 28, 29, 30, 31, 32, 33, 34, 35, 36, 37, 39, 40, 67, 68, 69, 70, 71, 72, 73, 74, 75, 76, 77, 78, 79, 80, 81, 82, 83, 84, 85] V u.1 ∧ u.2.1 = L ∧ ZL Z u.2.2 ∧ (HI u.1 u.2.2 b)) (fun u => xw ad kk u.1 u.2.1 u.2.2) (fun u => xty kk u.2.2) (fun u => zcc Z - zcc u.2.2) (fun u => zss Z - zss u.2.2) A
set_option maxHeartbeats 4000000 in
set_option maxRecDepth 100000 in
theorem x_h_call (l : Launch) (D : va_G) (ks : KS) (sz : Nat) (ad : Nat → Nat) (kk : Nat → ClassId) (V : Vf) (L : Lf) (Z : XZ) (p0 : Int32) (p1 : Int32) (p2 : Int32) (p3 : Int32) (b : Nat) (hMV : rgd bX V) (hb2 : b < 2) (shk : (V 0 6).toInt = (b : Int)) (hi : HI V Z b)  : Met l yX11_call (Cond.code yX11_call cX11_call 5 (some .int) :: GW) (r_x_h_call Z) (va_Pc [.ref (ad 0), .int p0, .int p1, .int p2, .int p3] (gp D ks (xw ad kk V L Z) (xty kk Z) sz)) (q_x_h_call D ks ad kk V L Z p0 p1 p2 p3 b (va_A (xw ad kk V L Z) sz)) (zcc Z) (zss Z) (va_A (xw ad kk V L Z) sz) := by
  refine g_met (q_x_h_call D ks ad kk V L Z p0 p1 p2 p3 b) (by decide) (Nat.le_of_ble_eq_true rfl) ?_
  intro p e s m below meth c A ls H locs hx hb hr hml hown hg hlocks hin hnw hgk hP hK hD hS hA hl
  have hown : s.vm.findClass RX11 = some m.cls := hown
  have hl : lv_has ls 5 [(0, .ref (ad 0)), (1, .int p0), (2, .int p1), (3, .int p2), (4, .int p3)] := hl
  have hP : va_P D vwCl (xw ad kk V L Z) H := hP
  have hD : va_D A (xw ad kk V L Z) := hD
  have hK : va_K D vwCl (xty kk Z) s := hK
  have agV : agr [(0, 9), (3, 13), (3, 14), (3, 15), (4, 5), (4, 6), (4, 7), (4, 8), (4, 9), (5, 6), (5, 7), (5, 8), (5, 9), (5, 10), (5, 11), (5, 12), (5, 13), (5, 14)] [24, 25, 26, 27, 28, 29, 30, 31, 32, 33, 34, 35, 36, 37, 39, 40, 67, 68, 69, 70, 71, 72, 73, 74, 75, 76, 77, 78, 79, 80, 81, 82, 83, 84, 85] V V := agr.rf
  have zoZ : ZL Z Z := ZL.rf
  refine W.know (fun ka kb => ?_)
  refine W.tight (k := zcc Z - zcc Z) (n := zss Z - zss Z) (by omega) (by omega) ?_
  have r1 : 0 ≤ ((V 0 6)).toInt ∧ ((V 0 6)).toInt ≤ 1 := hMV 0 6
  refine lv_aload_n hx hb dX11_call_0 rfl (lv_at hl 0 rfl) ?_
  refine va_get (D := D) (ci := 11) (v := .ref (ad 4)) (fs := (xfHouse ad V L Z)) (C := RX11) (T := TX11) (N := 10) hx hb hg inX11 hown hK hP 0 xgHouse rfl 4 (by decide) (hg _ w719) (fun _ h9 => h9) rfl dX11_call_1 ?_
  refine lv_iconst (v := 0) hx hb dX11_call_4 (by decide) ?_
  refine lv_iconst (v := 0) hx hb dX11_call_5 (by decide) ?_
  have r2 : Int32.toInt 0 = 0 := by decide
  refine gA_void (gA_runV (As := [.int 0, .int 0]) (rest := []) (ci := 7) (q0 := 4) hx hb hml hown hg hP hD hK hS hA hnw hgk (x_NnoteCause l D ks H.size ad kk V L Z 0 0 hMV ) w1166 w1167 w1168 w166 w1169 rfl xgNotes hdV_yX7_noteCause ⟨Nat.le_of_ble_eq_true rfl, Nat.le_of_ble_eq_true rfl⟩ rfl hl.1 rfl (Nat.le_of_ble_eq_true rfl) dX11_call_6 ⟨z0, z0⟩) hP hD hK hS hA (fun u4 H locs w5 hP hD hK hS => ?_)
  obtain ⟨V6, L7⟩ := u4
  obtain ⟨hMV6, ajV6, axL7⟩ := w5
  have axL7 : L = L7 := Eq.symm axL7
  subst axL7
  have hP : va_P D vwCl (xw ad kk V6 L Z) H := hP
  have hD : va_D A (xw ad kk V6 L Z) := hD
  have hMV6 : rgd bX V6 := hMV6
  have ajV6 : agr [(4, 7), (4, 8)] [] V V6 := ajV6
  have agV6 : agr [(0, 9), (3, 13), (3, 14), (3, 15), (4, 5), (4, 6), (4, 7), (4, 8), (4, 9), (5, 6), (5, 7), (5, 8), (5, 9), (5, 10), (5, 11), (5, 12), (5, 13), (5, 14)] [24, 25, 26, 27, 28, 29, 30, 31, 32, 33, 34, 35, 36, 37, 39, 40, 67, 68, 69, 70, 71, 72, 73, 74, 75, 76, 77, 78, 79, 80, 81, 82, 83, 84, 85] V V6 := agV.tr ajV6 (by decide) (by decide)
  refine lv_aload_n hx hb dX11_call_9 rfl (lv_at hl 0 rfl) ?_
  refine va_get (D := D) (ci := 11) (v := .ref (ad 4)) (fs := (xfHouse ad V6 L Z)) (C := RX11) (T := TX11) (N := 10) hx hb hg inX11 hown hK hP 0 xgHouse rfl 4 (by decide) (hg _ w719) (fun _ h9 => h9) rfl dX11_call_10 ?_
  refine gA_void (gA_runV (As := []) (rest := []) (ci := 7) (q0 := 4) hx hb hml hown hg hP hD hK hS hA hnw hgk (x_NforgetThings l D ks H.size ad kk V6 L Z  hMV6 ) w1514 w1515 w1516 w166 w1517 rfl xgNotes hdV_yX7_forgetThings ⟨Nat.le_of_ble_eq_true rfl, Nat.le_of_ble_eq_true rfl⟩ rfl hl.1 rfl (Nat.le_of_ble_eq_true rfl) dX11_call_13 ⟨z0, z0⟩) hP hD hK hS hA (fun u9 H locs w10 hP hD hK hS => ?_)
  obtain ⟨V11, L12⟩ := u9
  obtain ⟨hMV11, ajV11, axL12⟩ := w10
  have axL12 : L = L12 := Eq.symm axL12
  subst axL12
  have hP : va_P D vwCl (xw ad kk V11 L Z) H := hP
  have hD : va_D A (xw ad kk V11 L Z) := hD
  have hMV11 : rgd bX V11 := hMV11
  have ajV11 : agr [(4, 5)] [] V6 V11 := ajV11
  have agV11 : agr [(0, 9), (3, 13), (3, 14), (3, 15), (4, 5), (4, 6), (4, 7), (4, 8), (4, 9), (5, 6), (5, 7), (5, 8), (5, 9), (5, 10), (5, 11), (5, 12), (5, 13), (5, 14)] [24, 25, 26, 27, 28, 29, 30, 31, 32, 33, 34, 35, 36, 37, 39, 40, 67, 68, 69, 70, 71, 72, 73, 74, 75, 76, 77, 78, 79, 80, 81, 82, 83, 84, 85] V V11 := agV6.tr ajV11 (by decide) (by decide)
  refine lv_aload_n hx hb dX11_call_16 rfl (lv_at hl 0 rfl) ?_
  refine va_get (D := D) (ci := 11) (v := .ref (ad 5)) (fs := (xfHouse ad V11 L Z)) (C := RX11) (T := TX11) (N := 10) hx hb hg inX11 hown hK hP 0 xgHouse rfl 5 (by decide) (hg _ w720) (fun _ h9 => h9) rfl dX11_call_17 ?_
  refine gA_void (gA_runV (As := []) (rest := []) (ci := 5) (q0 := 5) hx hb hml hown hg hP hD hK hS hA hnw hgk (x_restart l D ks H.size ad kk V11 L Z  hMV11 ) w1170 w1044 w1045 w171 w1046 rfl xgMachine hdV_yX5_restart ⟨Nat.le_of_ble_eq_true rfl, Nat.le_of_ble_eq_true rfl⟩ rfl hl.1 rfl (Nat.le_of_ble_eq_true rfl) dX11_call_20 ⟨z0, z0⟩) hP hD hK hS hA (fun u14 H locs w15 hP hD hK hS => ?_)
  obtain ⟨V21, L22⟩ := u14
  obtain ⟨hMV21, ajV21, axL22, t16, t17, t18, t19, t20⟩ := w15
  have axL22 : L = L22 := Eq.symm axL22
  subst axL22
  have hP : va_P D vwCl (xw ad kk V21 L Z) H := hP
  have hD : va_D A (xw ad kk V21 L Z) := hD
  have hMV21 : rgd bX V21 := hMV21
  have ajV21 : agr [(5, 6), (5, 7), (5, 8), (5, 9), (5, 13)] [] V11 V21 := ajV21
  have agV21 : agr [(0, 9), (3, 13), (3, 14), (3, 15), (4, 5), (4, 6), (4, 7), (4, 8), (4, 9), (5, 6), (5, 7), (5, 8), (5, 9), (5, 10), (5, 11), (5, 12), (5, 13), (5, 14)] [24, 25, 26, 27, 28, 29, 30, 31, 32, 33, 34, 35, 36, 37, 39, 40, 67, 68, 69, 70, 71, 72, 73, 74, 75, 76, 77, 78, 79, 80, 81, 82, 83, 84, 85] V V21 := agV11.tr ajV21 (by decide) (by decide)
  have t16 : (V21 5 6).toInt = 0 := t16
  have t17 : (V21 5 7).toInt = 0 := t17
  have t18 : (V21 5 8).toInt = 0 := t18
  have t19 : (V21 5 9).toInt = 0 := t19
  have t20 : (V21 5 13).toInt = 0 := t20
  have r23 : 0 ≤ ((V21 5 6)).toInt ∧ ((V21 5 6)).toInt ≤ 400 := hMV21 5 6
  have r24 : 0 ≤ ((V21 5 7)).toInt ∧ ((V21 5 7)).toInt ≤ 2048 := hMV21 5 7
  have r25 : 0 ≤ ((V21 5 8)).toInt ∧ ((V21 5 8)).toInt ≤ 300 := hMV21 5 8
  have r26 : 0 ≤ ((V21 5 9)).toInt ∧ ((V21 5 9)).toInt ≤ 3 := hMV21 5 9
  have r27 : 0 ≤ ((V21 5 13)).toInt ∧ ((V21 5 13)).toInt ≤ 3000 := hMV21 5 13
  refine lv_aload_n hx hb dX11_call_23 rfl (lv_at hl 0 rfl) ?_
  refine va_get (D := D) (ci := 11) (v := .ref (ad 3)) (fs := (xfHouse ad V21 L Z)) (C := RX11) (T := TX11) (N := 10) hx hb hg inX11 hown hK hP 0 xgHouse rfl 3 (by decide) (hg _ w718) (fun _ h9 => h9) rfl dX11_call_24 ?_
  refine lv_iload_n hx hb dX11_call_27 rfl (lv_at hl 1 rfl) ?_
  refine gA_int (gA_runV (As := [.int p0]) (rest := []) (ci := 8) (q0 := 3) hx hb hml hown hg hP hD hK hS hA hnw hgk (x_isOpen l D ks H.size ad kk V21 L Z p0 hMV21 ) w1158 w1159 w1160 w164 w1161 rfl xgStock hdV_yX8_isOpen ⟨Nat.le_of_ble_eq_true rfl, Nat.le_of_ble_eq_true rfl⟩ rfl hl.1 rfl (Nat.le_of_ble_eq_true rfl) dX11_call_28 ⟨z0, z0⟩) hP hD hK hS hA (fun z28 u29 H locs w30 hP hD hK hS => ?_)
  obtain ⟨rgz28, t31⟩ := w30
  have rgz28 : 0 ≤ z28.toInt ∧ z28.toInt ≤ 1 := rgz28
  have t31 : Imp (z28.toInt = 1) (0 ≤ p0.toInt ∧ p0.toInt < (V21 3 12).toInt) := t31
  have pq32 : (V21 3 12).toInt = ((V 3 12)).toInt := congrArg Int32.toInt ((ajV21 3 12 rfl).trans ((ajV11 3 12 rfl).trans (ajV6 3 12 rfl)))
  have r33 : 1 ≤ ((V 3 12)).toInt ∧ ((V 3 12)).toInt ≤ 40 := hMV 3 12
  refine lv_if_ne (tgt := 41) hx hb dX11_call_31 (by decide) (fun c34 => ?_) (fun c34 => ?_)
  · skip
    have f35 : z28.toInt ≠ 0 := b_neq rfl (by decide) c34
    have rh36 := Imp.go t31 (by omega)
    refine lv_aload_n hx hb dX11_call_41 rfl (lv_at hl 0 rfl) ?_
    refine va_get (D := D) (ci := 11) (v := .ref (ad 3)) (fs := (xfHouse ad V21 L Z)) (C := RX11) (T := TX11) (N := 10) hx hb hg inX11 hown hK hP 0 xgHouse rfl 3 (by decide) (hg _ w718) (fun _ h9 => h9) rfl dX11_call_42 ?_
    refine lv_iload_n hx hb dX11_call_45 rfl (lv_at hl 2 rfl) ?_
    refine gA_int (gA_runV (As := [.int p1]) (rest := []) (ci := 8) (q0 := 3) hx hb hml hown hg hP hD hK hS hA hnw hgk (x_isMade l D ks H.size ad kk V21 L Z p1 hMV21 ) w1518 w1297 w1298 w164 w1299 rfl xgStock hdV_yX8_isMade ⟨Nat.le_of_ble_eq_true rfl, Nat.le_of_ble_eq_true rfl⟩ rfl hl.1 rfl (Nat.le_of_ble_eq_true rfl) dX11_call_46 ⟨z0, z0⟩) hP hD hK hS hA (fun z37 u38 H locs w39 hP hD hK hS => ?_)
    obtain ⟨rgz37, t40⟩ := w39
    have rgz37 : 0 ≤ z37.toInt ∧ z37.toInt ≤ 1 := rgz37
    have t40 : Imp (z37.toInt = 1) (0 ≤ p1.toInt ∧ p1.toInt < (V21 3 13).toInt) := t40
    have pq41 : (V21 3 13).toInt = ((V 3 13)).toInt := congrArg Int32.toInt ((ajV21 3 13 rfl).trans ((ajV11 3 13 rfl).trans (ajV6 3 13 rfl)))
    have r42 : 0 ≤ ((V 3 13)).toInt ∧ ((V 3 13)).toInt ≤ 300 := hMV 3 13
    refine lv_if_eq (tgt := 70) hx hb dX11_call_49 (by decide) (fun c43 => ?_) (fun c43 => ?_)
    · skip
      have f44 : z37.toInt = 0 := b_eq rfl (by decide) c43
      refine lv_aload_n hx hb dX11_call_70 rfl (lv_at hl 0 rfl) ?_
      refine lv_iconst (v := 4) hx hb dX11_call_71 (by decide) ?_
      refine lv_iconst (v := 0) hx hb dX11_call_72 (by decide) ?_
      have r45 : Int32.toInt 4 = 4 := by decide
      refine gA_int (gA_runV (As := [.int 4, .int 0]) (rest := []) (ci := 11) (q0 := 0) hx hb hml hown hg hP hD hK hS hA hnw hgk (x_ends l D ks H.size ad kk V21 L Z 4 0 hMV21 ) w1171 w1173 w42 w156 w1174 rfl xgHouse hdV_yX11_ends ⟨Nat.le_of_ble_eq_true rfl, Nat.le_of_ble_eq_true rfl⟩ rfl hl.1 rfl (Nat.le_of_ble_eq_true rfl) dX11_call_73 ⟨z0, z0⟩) hP hD hK hS hA (fun z46 u47 H locs w48 hP hD hK hS => ?_)
      obtain ⟨V49, L50⟩ := u47
      obtain ⟨hMV49, ajV49, axL50⟩ := w48
      have axL50 : L = L50 := Eq.symm axL50
      subst axL50
      have hP : va_P D vwCl (xw ad kk V49 L Z) H := hP
      have hD : va_D A (xw ad kk V49 L Z) := hD
      have hMV49 : rgd bX V49 := hMV49
      have ajV49 : agr [(0, 9)] [] V21 V49 := ajV49
      have agV49 : agr [(0, 9), (3, 13), (3, 14), (3, 15), (4, 5), (4, 6), (4, 7), (4, 8), (4, 9), (5, 6), (5, 7), (5, 8), (5, 9), (5, 10), (5, 11), (5, 12), (5, 13), (5, 14)] [24, 25, 26, 27, 28, 29, 30, 31, 32, 33, 34, 35, 36, 37, 39, 40, 67, 68, 69, 70, 71, 72, 73, 74, 75, 76, 77, 78, 79, 80, 81, 82, 83, 84, 85] V V49 := agV21.tr ajV49 (by decide) (by decide)
      have hi51 : HI V49 Z b := (HI.ag (HI.ag (HI.ag (HI.ag hi ajV6 (by decide)) ajV11 (by decide)) ajV21 (by decide)) ajV49 (by decide))
      refine W.know (fun kr1 kr2 => ?_)
      refine W.widen (k := zcc Z) (n := zss Z) (Nat.sub_le _ _) (Nat.sub_le _ _) ?_
      exact W.iret (v := z46) hx hb hr (fun t ht hW => ⟨⟨z46, (V49, L, Z), rfl, ⟨hMV49, agV49, rfl, zoZ, hi51⟩, ⟨by rw [ht]; exact hP, va_K.moved hW.alike hK, hD⟩, by rw [ht]; exact kr1, by rw [ht]; exact kr2⟩, hS.F ht⟩) hS.2.2 dX11_call_76
    · skip
      have f52 : z37.toInt ≠ 0 := b_neq rfl (by decide) c43
      refine lv_iload_n hx hb dX11_call_52 rfl (lv_at hl 3 rfl) ?_
      refine lv_if_lt (tgt := 70) hx hb dX11_call_53 (by decide) (fun c53 => ?_) (fun c53 => ?_)
      · skip
        have f54 : p2.toInt < 0 := b_lt rfl (by decide) c53
        refine lv_aload_n hx hb dX11_call_70 rfl (lv_at hl 0 rfl) ?_
        refine lv_iconst (v := 4) hx hb dX11_call_71 (by decide) ?_
        refine lv_iconst (v := 0) hx hb dX11_call_72 (by decide) ?_
        have r55 : Int32.toInt 4 = 4 := by decide
        refine gA_int (gA_runV (As := [.int 4, .int 0]) (rest := []) (ci := 11) (q0 := 0) hx hb hml hown hg hP hD hK hS hA hnw hgk (x_ends l D ks H.size ad kk V21 L Z 4 0 hMV21 ) w1171 w1173 w42 w156 w1174 rfl xgHouse hdV_yX11_ends ⟨Nat.le_of_ble_eq_true rfl, Nat.le_of_ble_eq_true rfl⟩ rfl hl.1 rfl (Nat.le_of_ble_eq_true rfl) dX11_call_73 ⟨z0, z0⟩) hP hD hK hS hA (fun z56 u57 H locs w58 hP hD hK hS => ?_)
        obtain ⟨V59, L60⟩ := u57
        obtain ⟨hMV59, ajV59, axL60⟩ := w58
        have axL60 : L = L60 := Eq.symm axL60
        subst axL60
        have hP : va_P D vwCl (xw ad kk V59 L Z) H := hP
        have hD : va_D A (xw ad kk V59 L Z) := hD
        have hMV59 : rgd bX V59 := hMV59
        have ajV59 : agr [(0, 9)] [] V21 V59 := ajV59
        have agV59 : agr [(0, 9), (3, 13), (3, 14), (3, 15), (4, 5), (4, 6), (4, 7), (4, 8), (4, 9), (5, 6), (5, 7), (5, 8), (5, 9), (5, 10), (5, 11), (5, 12), (5, 13), (5, 14)] [24, 25, 26, 27, 28, 29, 30, 31, 32, 33, 34, 35, 36, 37, 39, 40, 67, 68, 69, 70, 71, 72, 73, 74, 75, 76, 77, 78, 79, 80, 81, 82, 83, 84, 85] V V59 := agV21.tr ajV59 (by decide) (by decide)
        have hi61 : HI V59 Z b := (HI.ag (HI.ag (HI.ag (HI.ag hi ajV6 (by decide)) ajV11 (by decide)) ajV21 (by decide)) ajV59 (by decide))
        refine W.know (fun kr1 kr2 => ?_)
        refine W.widen (k := zcc Z) (n := zss Z) (Nat.sub_le _ _) (Nat.sub_le _ _) ?_
        exact W.iret (v := z56) hx hb hr (fun t ht hW => ⟨⟨z56, (V59, L, Z), rfl, ⟨hMV59, agV59, rfl, zoZ, hi61⟩, ⟨by rw [ht]; exact hP, va_K.moved hW.alike hK, hD⟩, by rw [ht]; exact kr1, by rw [ht]; exact kr2⟩, hS.F ht⟩) hS.2.2 dX11_call_76
      · skip
        have f62 : 0 ≤ p2.toInt := b_nlt rfl (by decide) c53
        refine lv_iload_n hx hb dX11_call_56 rfl (lv_at hl 3 rfl) ?_
        refine lv_aload_n hx hb dX11_call_57 rfl (lv_at hl 0 rfl) ?_
        refine va_get (D := D) (ci := 11) (v := .ref (ad (38 + Int32.toNatClampNeg (V21 0 6)))) (fs := (xfHouse ad V21 L Z)) (C := RX11) (T := TX11) (N := 10) hx hb hg inX11 hown hK hP 0 xgHouse rfl 6 (by decide) (hg _ w721) (fun _ h9 => h9) rfl dX11_call_58 ?_
        have pq63 : (V21 0 6).toInt = ((V 0 6)).toInt := congrArg Int32.toInt ((ajV21 0 6 rfl).trans ((ajV11 0 6 rfl).trans (ajV6 0 6 rfl)))
        refine g_topv (v := .ref (ad (38 + b))) (rfP (by first | omega | ((try (have i_t40 := Imp.go t40 (by omega))); (try (have i_t31 := Imp.go t31 (by omega))); (try (have i_t31 := Imp.go t31 (by omega))); (try (have i_t40 := Imp.go t40 (by omega))); omega))) ?_
        refine va_getN (D := D) (ci := 0) (v := .ref (ad (40 + (5 * b + 3)))) (fs := (xfBook ad V21 b)) (C := RX0) (T := TX0) (N := 13) hx hb hg inX0 hown hK hP (38 + b) (xgBook hb2) rfl 3 (by decide) (hnw.use 604 n604 rfl) (fun _ h9 => h9) rfl dX11_call_61 ?_
        have il64 : (5 * b + 3) < 10 := by first | exact om_a4f98a710256 hb2 | first | omega | ((try (have i_t40 := Imp.go t40 (by omega))); (try (have i_t31 := Imp.go t31 (by omega))); (try (have i_t31 := Imp.go t31 (by omega))); (try (have i_t40 := Imp.go t40 (by omega))); omega)
        refine va_getN (D := D) (ci := 6) (v := .int (V21 43 (5 * b + 3))) (fs := (xfNames ad V21 (5 * b + 3))) (C := RX6) (T := TX6) (N := 2) hx hb hg inX6 hown hK hP (40 + (5 * b + 3)) (xgNames il64) rfl 1 (by decide) (hnw.use 483 n483 rfl) (fun _ h9 => h9) rfl dX11_call_64 ?_
        refine g_top (v := (V 43 (5 * b + 3))) ((ajV21 43 (5 * b + 3) rfl).trans ((ajV11 43 (5 * b + 3) rfl).trans (ajV6 43 (5 * b + 3) rfl))) ?_
        have r65 : 0 ≤ ((V 43 (5 * b + 3))).toInt ∧ ((V 43 (5 * b + 3))).toInt ≤ ((xcap (5 * b + 3) : Nat) : Int) := hMV 43 (5 * b + 3)
        have r66 : xcap (5 * b + 3) = 20 := xcap_3
        refine lv_icmp_lt (tgt := 77) hx hb dX11_call_67 (by decide) (fun c67 => ?_) (fun c67 => ?_)
        · skip
          have f68 : p2.toInt < ((V 43 (5 * b + 3))).toInt := b_lt rfl rfl c67
          refine lv_aload_n hx hb dX11_call_77 rfl (lv_at hl 0 rfl) ?_
          refine va_get (D := D) (ci := 11) (v := .ref (ad 4)) (fs := (xfHouse ad V21 L Z)) (C := RX11) (T := TX11) (N := 10) hx hb hg inX11 hown hK hP 0 xgHouse rfl 4 (by decide) (hg _ w719) (fun _ h9 => h9) rfl dX11_call_78 ?_
          refine lv_iconst (v := 1) hx hb dX11_call_81 (by decide) ?_
          refine va_putN (D := D) (ci := 7) (v := .int 1) (ty := tyX7 9) (fs := (xfNotes ad V21 L Z)) (C := RX7) (T := TX7) (N := 10) hx hb hg inX7 tyX7 tyX7_ok nmX7 hown hK hP hD hS 4 xgNotes rfl 9 (by decide) (hnw.use 445 n445 rfl) (fun _ h9 => h9) rfl (tyX7_ok 9 (by decide)) rfl rfl (Nat.le_of_ble_eq_true rfl) dX11_call_82 (fun H locs hP hD hS => ?_)
          obtain ⟨V69, hV69⟩ : ∃ z, z = up2 V21 4 9 1 := ⟨_, rfl⟩
          have ew70 : (xw ad kk V21 L Z).set 4 ((ad 4), .inr (7, (xfNotes ad V21 L Z).set 9 (.int 1))) = xw ad kk V69 L Z := by rw [hV69]; exact xw_ss (by decide) rfl (xb_si (by decide))
          have hP : va_P D vwCl (xw ad kk V69 L Z) H := by rw [← ew70]; exact hP
          have hD : va_D A (xw ad kk V69 L Z) := by rw [← ew70]; exact hD
          have hMV69 : rgd bX V69 := hMV21.put hV69 (by decide)
          have agV69 : agr [(0, 9), (3, 13), (3, 14), (3, 15), (4, 5), (4, 6), (4, 7), (4, 8), (4, 9), (5, 6), (5, 7), (5, 8), (5, 9), (5, 10), (5, 11), (5, 12), (5, 13), (5, 14)] [24, 25, 26, 27, 28, 29, 30, 31, 32, 33, 34, 35, 36, 37, 39, 40, 67, 68, 69, 70, 71, 72, 73, 74, 75, 76, 77, 78, 79, 80, 81, 82, 83, 84, 85] V V69 := agV21.up hV69 rfl
          have rh71 := Imp.go t40 (by omega)
          have pq72 : (V69 3 13).toInt = ((V 3 13)).toInt := congrArg Int32.toInt ((up2_o hV69 (by decide)).trans ((ajV21 3 13 rfl).trans ((ajV11 3 13 rfl).trans (ajV6 3 13 rfl))))
          have kcp := i_clamp (x := p1) rfl (by omega)
          have hoc := hi.2.2.1 (Int32.toNatClampNeg p1) (by omega)
          have h26 : 0 ≤ (V 26 (Int32.toNatClampNeg p1)).toInt := (hMV 26 (Int32.toNatClampNeg p1)).1
          have pq73 : (V69 43 (5 * b + 3)).toInt = ((V 43 (5 * b + 3))).toInt := congrArg Int32.toInt ((up2_o hV69 (by decide)).trans ((ajV21 43 (5 * b + 3) rfl).trans ((ajV11 43 (5 * b + 3) rfl).trans (ajV6 43 (5 * b + 3) rfl))))
          have hi74 : HI V69 Z b := (HI.ag (HI.ag (HI.ag (HI.ag hi ajV6 (by decide)) ajV11 (by decide)) ajV21 (by decide)) (agr.up (fs := [(4, 9)]) (cs := []) agr.rf hV69 rfl) (by decide))
          have pq75 : (V69 5 6).toInt = ((V21 5 6)).toInt := congrArg Int32.toInt (up2_o hV69 (by decide))
          have pq76 : (V69 5 8).toInt = ((V21 5 8)).toInt := congrArg Int32.toInt (up2_o hV69 (by decide))
          have pq77 : (V69 43 (5 * b + 2)).toInt = ((V 43 (5 * b + 2))).toInt := congrArg Int32.toInt ((up2_o hV69 (by decide)).trans ((ajV21 43 (5 * b + 2) rfl).trans ((ajV11 43 (5 * b + 2) rfl).trans (ajV6 43 (5 * b + 2) rfl))))
          have r78 : 0 ≤ ((V 43 (5 * b + 2))).toInt ∧ ((V 43 (5 * b + 2))).toInt ≤ ((xcap (5 * b + 2) : Nat) : Int) := hMV 43 (5 * b + 2)
          have r79 : xcap (5 * b + 2) = 24 := xcap_2
          have mt80 : MT V69 Z b := HI.mt hi74 (by omega) (by omega) (by omega)
          refine lv_aload_n hx hb dX11_call_85 rfl (lv_at hl 0 rfl) ?_
          refine va_get (D := D) (ci := 11) (v := .ref (ad 5)) (fs := (xfHouse ad V69 L Z)) (C := RX11) (T := TX11) (N := 10) hx hb hg inX11 hown hK hP 0 xgHouse rfl 5 (by decide) (hg _ w720) (fun _ h9 => h9) rfl dX11_call_86 ?_
          refine lv_iload_n hx hb dX11_call_89 rfl (lv_at hl 2 rfl) ?_
          refine lv_iload_n hx hb dX11_call_90 rfl (lv_at hl 1 rfl) ?_
          refine lv_iload_n hx hb dX11_call_91 rfl (lv_at hl 3 rfl) ?_
          refine lv_iload hx hb dX11_call_92 (lv_at hl 4 rfl) ?_
          refine lv_iconst (v := 1) hx hb dX11_call_94 (by decide) ?_
          have r81 : Int32.toInt 1 = 1 := by decide
          refine W.know (fun k83 k84 => ?_)
          obtain ⟨Hk82, hHk82⟩ : ∃ z, z = H := ⟨_, rfl⟩
          have k83 : Hk82.size ≤ s.heap.size + (zcc Z - zcc Z) := by rw [hHk82]; exact k83
          have k84 : tot Hk82 ≤ tot s.heap + (zss Z - zss Z) := by rw [hHk82]; exact k84
          refine gZ_void (gA_runV (As := [.int p1, .int p0, .int p2, .int p3, .int 1]) (rest := []) (ci := 5) (q0 := 5) hx hb hml hown hg hP hD hK hS hA hnw hgk (x_pushCall l D ks H.size ad kk V69 L Z p1 p0 p2 p3 1 (b) hMV69 (by first | exact om_47058e563f80 pq32 r33.2 ((Imp.go t31 (imp_a (rgz28.1) (rgz28.2) (f35))).1) ((Imp.go t31 (imp_a (rgz28.1) (rgz28.2) (f35))).2) | first | omega | ((try (have i_t40 := Imp.go t40 (by omega))); (try (have i_t31 := Imp.go t31 (by omega))); (try (have i_t31 := Imp.go t31 (by omega))); (try (have i_t40 := Imp.go t40 (by omega))); omega)) (by first | exact om_5f3154baf57f f62 r65.2 r66 f68 | first | omega | ((try (have i_t40 := Imp.go t40 (by omega))); (try (have i_t31 := Imp.go t31 (by omega))); (try (have i_t31 := Imp.go t31 (by omega))); (try (have i_t40 := Imp.go t40 (by omega))); omega)) (show b < 2 from by first | exact om_f940a4667dd6 hb2 | first | omega | ((try (have i_t40 := Imp.go t40 (by omega))); (try (have i_t31 := Imp.go t31 (by omega))); (try (have i_t31 := Imp.go t31 (by omega))); (try (have i_t40 := Imp.go t40 (by omega))); omega)) mt80) w1519 w1455 w1456 w171 w1457 rfl xgMachine hdV_yX5_pushCall ⟨Nat.le_of_ble_eq_true rfl, Nat.le_of_ble_eq_true rfl⟩ rfl hl.1 rfl (Nat.le_of_ble_eq_true rfl) dX11_call_95 ⟨z1 zoZ.1, z1 zoZ.2.1⟩) hD hS hA (fun u86 H locs w87 hP hD hK hS y88 y89 => ?_)
          obtain ⟨V90, L91, Z92⟩ := u86
          obtain ⟨hMV90, ajV90, axL91, zlZ92, t94⟩ := w87
          have axL91 : L = L91 := Eq.symm axL91
          subst axL91
          have hP : va_P D vwCl (xw ad kk V90 L Z92) H := hP
          have hD : va_D A (xw ad kk V90 L Z92) := hD
          have hK : va_K D vwCl (xty kk Z92) s := hK
          have hMV90 : rgd bX V90 := hMV90
          have ajV90 : agr [(5, 6), (5, 9)] [67, 68, 69, 70, 71, 72, 73, 74, 75, 76, 77, 78, 79, 80, 81, 82, 83, 84, 85] V69 V90 := ajV90
          have agV90 : agr [(0, 9), (3, 13), (3, 14), (3, 15), (4, 5), (4, 6), (4, 7), (4, 8), (4, 9), (5, 6), (5, 7), (5, 8), (5, 9), (5, 10), (5, 11), (5, 12), (5, 13), (5, 14)] [24, 25, 26, 27, 28, 29, 30, 31, 32, 33, 34, 35, 36, 37, 39, 40, 67, 68, 69, 70, 71, 72, 73, 74, 75, 76, 77, 78, 79, 80, 81, 82, 83, 84, 85] V V90 := agV69.tr ajV90 (by decide) (by decide)
          have zlZ92 : ZL Z Z92 := zlZ92
          have zoZ92 : ZL Z Z92 := ZL.tr zoZ zlZ92
          have ziZ92 := zlZ92.1
          have zjZ92 := zlZ92.2.1
          have zkZ92 := zlZ92.2.2.1
          have zmZ92 := zoZ92.1
          have znZ92 := zoZ92.2.1
          have zpZ_Z92 := zoZ.1
          have zqZ_Z92 := zoZ.2.1
          have y88 : H.size ≤ Hk82.size + (zcc Z - zcc Z92) := by rw [hHk82]; exact y88
          have y89 : tot H ≤ tot Hk82 + (zss Z - zss Z92) := by rw [hHk82]; exact y89
          refine W.tight (k := zcc Z - zcc Z92) (n := zss Z - zss Z92) (by first | exact tg9 y88 k83 zlZ92.1 zoZ.1 | omega) (by first | exact tg9 y89 k84 zlZ92.2.1 zoZ.2.1 | omega) ?_
          have t94 : MJ V90 Z92 b := t94
          refine lv_aload_n hx hb dX11_call_98 rfl (lv_at hl 0 rfl) ?_
          refine va_get (D := D) (ci := 11) (v := .ref (ad 5)) (fs := (xfHouse ad V90 L Z92)) (C := RX11) (T := TX11) (N := 10) hx hb hg inX11 hown hK hP 0 xgHouse rfl 5 (by decide) (hg _ w720) (fun _ h9 => h9) rfl dX11_call_99 ?_
          refine W.know (fun k96 k97 => ?_)
          obtain ⟨Hk95, hHk95⟩ : ∃ z, z = H := ⟨_, rfl⟩
          have k96 : Hk95.size ≤ s.heap.size + (zcc Z - zcc Z92) := by rw [hHk95]; exact k96
          have k97 : tot Hk95 ≤ tot s.heap + (zss Z - zss Z92) := by rw [hHk95]; exact k97
          refine gZ_void (gA_runV (As := []) (rest := []) (ci := 5) (q0 := 5) hx hb hml hown hg hP hD hK hS hA hnw hgk (x_run l D ks H.size ad kk V90 L Z92 (b) hMV90 (show b < 2 from by first | exact om_f940a4667dd6 hb2 | first | omega | ((try (have i_t40 := Imp.go t40 (by omega))); (try (have i_t31 := Imp.go t31 (by omega))); (try (have i_t31 := Imp.go t31 (by omega))); (try (have i_t40 := Imp.go t40 (by omega))); omega)) t94) w1247 w1248 w1249 w171 w1250 rfl xgMachine hdV_yX5_run ⟨Nat.le_of_ble_eq_true rfl, Nat.le_of_ble_eq_true rfl⟩ rfl hl.1 rfl (Nat.le_of_ble_eq_true rfl) dX11_call_102 ⟨z1 zoZ92.1, z1 zoZ92.2.1⟩) hD hS hA (fun u99 H locs w100 hP hD hK hS y101 y102 => ?_)
          obtain ⟨V103, L104, Z105⟩ := u99
          obtain ⟨hMV103, ajV103, axL104, zlZ105, t107⟩ := w100
          have axL104 : L = L104 := Eq.symm axL104
          subst axL104
          have hP : va_P D vwCl (xw ad kk V103 L Z105) H := hP
          have hD : va_D A (xw ad kk V103 L Z105) := hD
          have hK : va_K D vwCl (xty kk Z105) s := hK
          have hMV103 : rgd bX V103 := hMV103
          have ajV103 : agr [(3, 13), (3, 14), (3, 15), (4, 5), (4, 6), (5, 6), (5, 7), (5, 8), (5, 9), (5, 10), (5, 11), (5, 12), (5, 13), (5, 14)] [24, 25, 26, 27, 28, 29, 30, 31, 32, 33, 34, 35, 36, 37, 39, 40, 67, 68, 69, 70, 71, 72, 73, 74, 75, 76, 77, 78, 79, 80, 81, 82, 83, 84, 85] V90 V103 := ajV103
          have agV103 : agr [(0, 9), (3, 13), (3, 14), (3, 15), (4, 5), (4, 6), (4, 7), (4, 8), (4, 9), (5, 6), (5, 7), (5, 8), (5, 9), (5, 10), (5, 11), (5, 12), (5, 13), (5, 14)] [24, 25, 26, 27, 28, 29, 30, 31, 32, 33, 34, 35, 36, 37, 39, 40, 67, 68, 69, 70, 71, 72, 73, 74, 75, 76, 77, 78, 79, 80, 81, 82, 83, 84, 85] V V103 := agV90.tr ajV103 (by decide) (by decide)
          have zlZ105 : ZL Z92 Z105 := zlZ105
          have zoZ105 : ZL Z Z105 := ZL.tr zoZ92 zlZ105
          have ziZ105 := zlZ105.1
          have zjZ105 := zlZ105.2.1
          have zkZ105 := zlZ105.2.2.1
          have zmZ105 := zoZ105.1
          have znZ105 := zoZ105.2.1
          have zpZ92_Z105 := zoZ92.1
          have zqZ92_Z105 := zoZ92.2.1
          have y101 : H.size ≤ Hk95.size + (zcc Z92 - zcc Z105) := by rw [hHk95]; exact y101
          have y102 : tot H ≤ tot Hk95 + (zss Z92 - zss Z105) := by rw [hHk95]; exact y102
          refine W.tight (k := zcc Z - zcc Z105) (n := zss Z - zss Z105) (by first | exact tg9 y101 k96 zlZ105.1 zoZ92.1 | omega) (by first | exact tg9 y102 k97 zlZ105.2.1 zoZ92.2.1 | omega) ?_
          have t107 : MJ V103 Z105 b := t107
          refine lv_aload_n hx hb dX11_call_105 rfl (lv_at hl 0 rfl) ?_
          refine va_get (D := D) (ci := 11) (v := .ref (ad 4)) (fs := (xfHouse ad V103 L Z105)) (C := RX11) (T := TX11) (N := 10) hx hb hg inX11 hown hK hP 0 xgHouse rfl 4 (by decide) (hg _ w719) (fun _ h9 => h9) rfl dX11_call_106 ?_
          refine lv_iconst (v := 0) hx hb dX11_call_109 (by decide) ?_
          refine va_putN (D := D) (ci := 7) (v := .int 0) (ty := tyX7 9) (fs := (xfNotes ad V103 L Z105)) (C := RX7) (T := TX7) (N := 10) hx hb hg inX7 tyX7 tyX7_ok nmX7 hown hK hP hD hS 4 xgNotes rfl 9 (by decide) (hnw.use 445 n445 rfl) (fun _ h9 => h9) rfl (tyX7_ok 9 (by decide)) rfl rfl (Nat.le_of_ble_eq_true rfl) dX11_call_110 (fun H locs hP hD hS => ?_)
          obtain ⟨V108, hV108⟩ : ∃ z, z = up2 V103 4 9 0 := ⟨_, rfl⟩
          have ew109 : (xw ad kk V103 L Z105).set 4 ((ad 4), .inr (7, (xfNotes ad V103 L Z105).set 9 (.int 0))) = xw ad kk V108 L Z105 := by rw [hV108]; exact xw_ss (by decide) rfl (xb_si (by decide))
          have hP : va_P D vwCl (xw ad kk V108 L Z105) H := by rw [← ew109]; exact hP
          have hD : va_D A (xw ad kk V108 L Z105) := by rw [← ew109]; exact hD
          have hMV108 : rgd bX V108 := hMV103.put hV108 (by decide)
          have agV108 : agr [(0, 9), (3, 13), (3, 14), (3, 15), (4, 5), (4, 6), (4, 7), (4, 8), (4, 9), (5, 6), (5, 7), (5, 8), (5, 9), (5, 10), (5, 11), (5, 12), (5, 13), (5, 14)] [24, 25, 26, 27, 28, 29, 30, 31, 32, 33, 34, 35, 36, 37, 39, 40, 67, 68, 69, 70, 71, 72, 73, 74, 75, 76, 77, 78, 79, 80, 81, 82, 83, 84, 85] V V108 := agV103.up hV108 rfl
          refine lv_aload_n hx hb dX11_call_113 rfl (lv_at hl 0 rfl) ?_
          refine lv_aload_n hx hb dX11_call_114 rfl (lv_at hl 0 rfl) ?_
          refine va_get (D := D) (ci := 11) (v := .ref (ad 5)) (fs := (xfHouse ad V108 L Z105)) (C := RX11) (T := TX11) (N := 10) hx hb hg inX11 hown hK hP 0 xgHouse rfl 5 (by decide) (hg _ w720) (fun _ h9 => h9) rfl dX11_call_115 ?_
          refine gA_int (gA_runV (As := []) (rest := [.ref (ad 0)]) (ci := 5) (q0 := 5) hx hb hml hown hg hP hD hK hS hA hnw hgk (x_howItEnded l D ks H.size ad kk V108 L Z105  hMV108 ) w1501 w1502 w1503 w171 w1504 rfl xgMachine hdV_yX5_howItEnded ⟨Nat.le_of_ble_eq_true rfl, Nat.le_of_ble_eq_true rfl⟩ rfl hl.1 rfl (Nat.le_of_ble_eq_true rfl) dX11_call_118 ⟨z0, z0⟩) hP hD hK hS hA (fun z110 u111 H locs w112 hP hD hK hS => ?_)
          obtain ⟨V113, L114⟩ := u111
          obtain ⟨hMV113, ajV113, axL114⟩ := w112
          have axL114 : L = L114 := Eq.symm axL114
          subst axL114
          have hP : va_P D vwCl (xw ad kk V113 L Z105) H := hP
          have hD : va_D A (xw ad kk V113 L Z105) := hD
          have hMV113 : rgd bX V113 := hMV113
          have ajV113 : agr [(4, 7), (4, 8)] [] V108 V113 := ajV113
          have agV113 : agr [(0, 9), (3, 13), (3, 14), (3, 15), (4, 5), (4, 6), (4, 7), (4, 8), (4, 9), (5, 6), (5, 7), (5, 8), (5, 9), (5, 10), (5, 11), (5, 12), (5, 13), (5, 14)] [24, 25, 26, 27, 28, 29, 30, 31, 32, 33, 34, 35, 36, 37, 39, 40, 67, 68, 69, 70, 71, 72, 73, 74, 75, 76, 77, 78, 79, 80, 81, 82, 83, 84, 85] V V113 := agV108.tr ajV113 (by decide) (by decide)
          refine lv_aload_n hx hb dX11_call_121 rfl (lv_at hl 0 rfl) ?_
          refine va_get (D := D) (ci := 11) (v := .ref (ad 5)) (fs := (xfHouse ad V113 L Z105)) (C := RX11) (T := TX11) (N := 10) hx hb hg inX11 hown hK hP 0 xgHouse rfl 5 (by decide) (hg _ w720) (fun _ h9 => h9) rfl dX11_call_122 ?_
          refine lv_iconst (v := 0) hx hb dX11_call_125 (by decide) ?_
          refine gA_int (gA_runV (As := [.int 0]) (rest := [.int z110, .ref (ad 0)]) (ci := 5) (q0 := 5) hx hb hml hown hg hP hD hK hS hA hnw hgk (x_answerOr l D ks H.size ad kk V113 L Z105 0 hMV113 ) w1506 w1507 w1508 w171 w1509 rfl xgMachine hdV_yX5_answerOr ⟨Nat.le_of_ble_eq_true rfl, Nat.le_of_ble_eq_true rfl⟩ rfl hl.1 rfl (Nat.le_of_ble_eq_true rfl) dX11_call_126 ⟨z0, z0⟩) hP hD hK hS hA (fun z115 u116 H locs w117 hP hD hK hS => ?_)
          refine gA_int (gA_runV (As := [.int z110, .int z115]) (rest := []) (ci := 11) (q0 := 0) hx hb hml hown hg hP hD hK hS hA hnw hgk (x_ends l D ks H.size ad kk V113 L Z105 z110 z115 hMV113 ) w1171 w1173 w42 w156 w1174 rfl xgHouse hdV_yX11_ends ⟨Nat.le_of_ble_eq_true rfl, Nat.le_of_ble_eq_true rfl⟩ rfl hl.1 rfl (Nat.le_of_ble_eq_true rfl) dX11_call_129 ⟨z0, z0⟩) hP hD hK hS hA (fun z118 u119 H locs w120 hP hD hK hS => ?_)
          obtain ⟨V121, L122⟩ := u119
          obtain ⟨hMV121, ajV121, axL122⟩ := w120
          have axL122 : L = L122 := Eq.symm axL122
          subst axL122
          have hP : va_P D vwCl (xw ad kk V121 L Z105) H := hP
          have hD : va_D A (xw ad kk V121 L Z105) := hD
          have hMV121 : rgd bX V121 := hMV121
          have ajV121 : agr [(0, 9)] [] V113 V121 := ajV121
          have agV121 : agr [(0, 9), (3, 13), (3, 14), (3, 15), (4, 5), (4, 6), (4, 7), (4, 8), (4, 9), (5, 6), (5, 7), (5, 8), (5, 9), (5, 10), (5, 11), (5, 12), (5, 13), (5, 14)] [24, 25, 26, 27, 28, 29, 30, 31, 32, 33, 34, 35, 36, 37, 39, 40, 67, 68, 69, 70, 71, 72, 73, 74, 75, 76, 77, 78, 79, 80, 81, 82, 83, 84, 85] V V121 := agV113.tr ajV121 (by decide) (by decide)
          have hi123 : HI V121 Z105 b := (HI.ag (HI.ag (HI.ag (MJ.hi t107) (agr.up (fs := [(4, 9)]) (cs := []) agr.rf hV108 rfl) (by decide)) ajV113 (by decide)) ajV121 (by decide))
          refine W.know (fun kr1 kr2 => ?_)
          refine W.widen (k := zcc Z) (n := zss Z) (Nat.sub_le _ _) (Nat.sub_le _ _) ?_
          exact W.iret (v := z118) hx hb hr (fun t ht hW => ⟨⟨z118, (V121, L, Z105), rfl, ⟨hMV121, agV121, rfl, zoZ105, hi123⟩, ⟨by rw [ht]; exact hP, va_K.moved hW.alike hK, hD⟩, by rw [ht]; exact kr1, by rw [ht]; exact kr2⟩, hS.F ht⟩) hS.2.2 dX11_call_132
        · skip
          have f124 : ((V 43 (5 * b + 3))).toInt ≤ p2.toInt := b_nlt rfl rfl c67
          refine lv_aload_n hx hb dX11_call_70 rfl (lv_at hl 0 rfl) ?_
          refine lv_iconst (v := 4) hx hb dX11_call_71 (by decide) ?_
          refine lv_iconst (v := 0) hx hb dX11_call_72 (by decide) ?_
          have r125 : Int32.toInt 4 = 4 := by decide
          refine gA_int (gA_runV (As := [.int 4, .int 0]) (rest := []) (ci := 11) (q0 := 0) hx hb hml hown hg hP hD hK hS hA hnw hgk (x_ends l D ks H.size ad kk V21 L Z 4 0 hMV21 ) w1171 w1173 w42 w156 w1174 rfl xgHouse hdV_yX11_ends ⟨Nat.le_of_ble_eq_true rfl, Nat.le_of_ble_eq_true rfl⟩ rfl hl.1 rfl (Nat.le_of_ble_eq_true rfl) dX11_call_73 ⟨z0, z0⟩) hP hD hK hS hA (fun z126 u127 H locs w128 hP hD hK hS => ?_)
          obtain ⟨V129, L130⟩ := u127
          obtain ⟨hMV129, ajV129, axL130⟩ := w128
          have axL130 : L = L130 := Eq.symm axL130
          subst axL130
          have hP : va_P D vwCl (xw ad kk V129 L Z) H := hP
          have hD : va_D A (xw ad kk V129 L Z) := hD
          have hMV129 : rgd bX V129 := hMV129
          have ajV129 : agr [(0, 9)] [] V21 V129 := ajV129
          have agV129 : agr [(0, 9), (3, 13), (3, 14), (3, 15), (4, 5), (4, 6), (4, 7), (4, 8), (4, 9), (5, 6), (5, 7), (5, 8), (5, 9), (5, 10), (5, 11), (5, 12), (5, 13), (5, 14)] [24, 25, 26, 27, 28, 29, 30, 31, 32, 33, 34, 35, 36, 37, 39, 40, 67, 68, 69, 70, 71, 72, 73, 74, 75, 76, 77, 78, 79, 80, 81, 82, 83, 84, 85] V V129 := agV21.tr ajV129 (by decide) (by decide)
          have hi131 : HI V129 Z b := (HI.ag (HI.ag (HI.ag (HI.ag hi ajV6 (by decide)) ajV11 (by decide)) ajV21 (by decide)) ajV129 (by decide))
          refine W.know (fun kr1 kr2 => ?_)
          refine W.widen (k := zcc Z) (n := zss Z) (Nat.sub_le _ _) (Nat.sub_le _ _) ?_
          exact W.iret (v := z126) hx hb hr (fun t ht hW => ⟨⟨z126, (V129, L, Z), rfl, ⟨hMV129, agV129, rfl, zoZ, hi131⟩, ⟨by rw [ht]; exact hP, va_K.moved hW.alike hK, hD⟩, by rw [ht]; exact kr1, by rw [ht]; exact kr2⟩, hS.F ht⟩) hS.2.2 dX11_call_76
  · skip
    have f132 : z28.toInt = 0 := b_eq rfl (by decide) c34
    refine lv_aload_n hx hb dX11_call_34 rfl (lv_at hl 0 rfl) ?_
    refine lv_iconst (v := 3) hx hb dX11_call_35 (by decide) ?_
    refine lv_iconst (v := 0) hx hb dX11_call_36 (by decide) ?_
    have r133 : Int32.toInt 3 = 3 := by decide
    refine gA_int (gA_runV (As := [.int 3, .int 0]) (rest := []) (ci := 11) (q0 := 0) hx hb hml hown hg hP hD hK hS hA hnw hgk (x_ends l D ks H.size ad kk V21 L Z 3 0 hMV21 ) w1171 w1173 w42 w156 w1174 rfl xgHouse hdV_yX11_ends ⟨Nat.le_of_ble_eq_true rfl, Nat.le_of_ble_eq_true rfl⟩ rfl hl.1 rfl (Nat.le_of_ble_eq_true rfl) dX11_call_37 ⟨z0, z0⟩) hP hD hK hS hA (fun z134 u135 H locs w136 hP hD hK hS => ?_)
    obtain ⟨V137, L138⟩ := u135
    obtain ⟨hMV137, ajV137, axL138⟩ := w136
    have axL138 : L = L138 := Eq.symm axL138
    subst axL138
    have hP : va_P D vwCl (xw ad kk V137 L Z) H := hP
    have hD : va_D A (xw ad kk V137 L Z) := hD
    have hMV137 : rgd bX V137 := hMV137
    have ajV137 : agr [(0, 9)] [] V21 V137 := ajV137
    have agV137 : agr [(0, 9), (3, 13), (3, 14), (3, 15), (4, 5), (4, 6), (4, 7), (4, 8), (4, 9), (5, 6), (5, 7), (5, 8), (5, 9), (5, 10), (5, 11), (5, 12), (5, 13), (5, 14)] [24, 25, 26, 27, 28, 29, 30, 31, 32, 33, 34, 35, 36, 37, 39, 40, 67, 68, 69, 70, 71, 72, 73, 74, 75, 76, 77, 78, 79, 80, 81, 82, 83, 84, 85] V V137 := agV21.tr ajV137 (by decide) (by decide)
    have hi139 : HI V137 Z b := (HI.ag (HI.ag (HI.ag (HI.ag hi ajV6 (by decide)) ajV11 (by decide)) ajV21 (by decide)) ajV137 (by decide))
    refine W.know (fun kr1 kr2 => ?_)
    refine W.widen (k := zcc Z) (n := zss Z) (Nat.sub_le _ _) (Nat.sub_le _ _) ?_
    exact W.iret (v := z134) hx hb hr (fun t ht hW => ⟨⟨z134, (V137, L, Z), rfl, ⟨hMV137, agV137, rfl, zoZ, hi139⟩, ⟨by rw [ht]; exact hP, va_K.moved hW.alike hK, hD⟩, by rw [ht]; exact kr1, by rw [ht]; exact kr2⟩, hS.F ht⟩) hS.2.2 dX11_call_40
