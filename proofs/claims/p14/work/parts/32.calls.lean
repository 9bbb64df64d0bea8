/-! what a call keeps (RT), and what it leaves of what was there (FRM; e: the object whose joins are being laid, or none) -/
abbrev rK2 (F L : Nat) : Room := { frames := F, cells := 0, slots := 0, locals := L }
def RT (V : Vf) : Prop := TB V ∧ (th V (cd0 V) ∨ ∀ c j : Nat, th V c → ¬ ndL V c j) ∧ (∀ o : Nat, (o : Int) < (V 0 60).toInt → th V (Int32.toNatClampNeg (V 61 o))) ∧ (∀ o k i : Nat, (o : Int) < (V 0 60).toInt → k < 8 → (i : Int) < (V 66 (8 * o + k)).toInt → (V 67 (24 * (8 * o + k) + i)).toInt < (V 0 60).toInt) ∧ (∀ i : Nat, (i : Int) < (V 0 95).toInt → (V 94 i).toInt < (V 0 60).toInt ∧ 1 ≤ (V 63 (Int32.toNatClampNeg (V 94 i))).toInt)
def FRM (V W : Vf) (e : Int) : Prop := (V 0 60).toInt ≤ (W 0 60).toInt ∧ (∀ o : Nat, (o : Int) < (V 0 60).toInt → W 61 o = V 61 o ∧ W 62 o = V 62 o ∧ ((V 63 o).toInt = 0 → (W 63 o).toInt = 0) ∧ (1 ≤ (V 63 o).toInt → (V 63 o).toInt ≤ (W 63 o).toInt)) ∧ (∀ o k : Nat, (o : Int) < (V 0 60).toInt → (o : Int) ≠ e → k < 8 → (V 29 (8 * (24 * nwh V + Int32.toNatClampNeg (V 61 o)) + k)).toInt ≠ 1 → W 66 (8 * o + k) = V 66 (8 * o + k)) ∧ (∀ i : Nat, (i : Int) < (V 0 95).toInt → W 94 i = V 94 i)
/-- none of the cells of what is made was written -/
def rtC (fs : List (Nat × Nat)) (cs : List Nat) : Prop := thC fs cs ∧ (∀ y ∈ fs, y.1 = 0) ∧ (∀ y ∈ cs, trk y = false) ∧ wrL fs cs 0 60 = false ∧ wrL fs cs 0 95 = false ∧ (∀ k, wrL fs cs 61 k = false) ∧ (∀ k, wrL fs cs 62 k = false) ∧ (∀ k, wrL fs cs 63 k = false) ∧ (∀ k, wrL fs cs 66 k = false) ∧ (∀ k, wrL fs cs 67 k = false) ∧ (∀ k, wrL fs cs 94 k = false)
theorem RT.ag {fs : List (Nat × Nat)} {cs : List Nat} {V W : Vf} (h : RT V) (hM : rgd bM V) (a : agr fs cs V W) (q : rtC fs cs) (c0 : c0k V W) : RT W := by
  obtain ⟨q1, q2, q3, q60, q95, q61, q62, q63, q66, q67, q94⟩ := q
  refine ⟨TB.ag h.1 hM a q1.1 q2 q3, RD_st h.2.1 a q1 c0, ?_, ?_, ?_⟩
  · intro o ho
    rw [a 0 60 q60] at ho
    rw [a _ _ (q61 o)]
    exact (h.2.2.1 o ho).ag a q1
  · intro o k i ho hk hi
    rw [a 0 60 q60] at ho ⊢
    rw [a _ _ (q66 _)] at hi
    rw [a _ _ (q67 _)]
    exact h.2.2.2.1 o k i ho hk hi
  · intro i hi
    rw [a 0 95 q95] at hi
    rw [a _ _ (q94 i), a 0 60 q60, a _ _ (q63 _)]
    exact h.2.2.2.2 i hi
theorem FRM.rf {V : Vf} {e : Int} : FRM V V e := ⟨Int.le_refl _, fun _ _ => ⟨rfl, rfl, id, fun _ => Int.le_refl _⟩, fun _ _ _ _ _ _ => rfl, fun _ _ => rfl⟩
theorem FRM.ag {fs : List (Nat × Nat)} {cs : List Nat} {V W : Vf} {e : Int} (a : agr fs cs V W) (q : rtC fs cs) : FRM V W e := by
  obtain ⟨q1, q2, q3, q60, q95, q61, q62, q63, q66, q67, q94⟩ := q
  refine ⟨by rw [a 0 60 q60]; exact Int.le_refl _, fun o _ => ⟨a _ _ (q61 o), a _ _ (q62 o), fun h => by rw [a _ _ (q63 o)]; exact h, fun h => by rw [a _ _ (q63 o)]; exact Int.le_refl _⟩, fun o k _ _ _ _ => a _ _ (q66 _), fun i _ => a _ _ (q94 i)⟩
theorem FRM.tr {fs : List (Nat × Nat)} {cs : List Nat} {V W X : Vf} {e : Int} (h1 : FRM V W e) (h2 : FRM W X e) (a : agr fs cs V W) (q : thC fs cs) (hf : (V 0 95).toInt ≤ (W 0 95).toInt) : FRM V X e := by
  have en : nwh W = nwh V := by unfold nwh; rw [a 0 11 q.1]
  refine ⟨Int.le_trans h1.1 h2.1, fun o ho => ?_, fun o k ho he hk hl => ?_, fun i hi => ?_⟩
  · have b1 := h1.2.1 o ho
    have b2 := h2.2.1 o (by have := h1.1; omega)
    refine ⟨b2.1.trans b1.1, b2.2.1.trans b1.2.1, fun h => b2.2.2.1 (b1.2.2.1 h), fun h => ?_⟩
    have c1 := b1.2.2.2 h
    have c2 := b2.2.2.2 (by omega)
    omega
  · have b1 := h1.2.2.1 o k ho he hk hl
    have b2 := h2.2.2.1 o k (by have := h1.1; omega) he hk (by rw [en, (h1.2.1 o ho).1, a _ _ (q.2.2.2.2.2.2 _)]; exact hl)
    exact b2.trans b1
  · exact (h2.2.2.2 i (by omega)).trans (h1.2.2.2 i hi)
theorem FRM.weak {V W : Vf} {e : Int} (h : FRM V W (-1)) : FRM V W e := ⟨h.1, h.2.1, fun o k ho _ hk hl => h.2.2.1 o k ho (by omega) hk hl, h.2.2.2⟩
/-- an object's state is raised -/
theorem RT.state {V W : Vf} {k : Nat} {v : Int32} (h : RT V) (hM : rgd bM V) (e : W = up2 V 63 k v) (hv : 1 ≤ v.toInt) : RT W := by
  have a : agr [] [63] V W := agr.up agr.rf e rfl
  have q : thC [] [63] := ⟨rfl, fun _ => rfl, fun _ => rfl, fun _ => rfl, fun _ => rfl, fun _ => rfl, fun _ => rfl⟩
  refine ⟨TB.ag h.1 hM a rfl (by decide) (by decide), RD_st h.2.1 a q (c0k.ag a rfl), ?_, ?_, ?_⟩
  · intro o ho
    rw [a 0 60 rfl] at ho
    rw [a 61 _ rfl]
    exact (h.2.2.1 o ho).ag a q
  · intro o k i ho hk hi
    rw [a 0 60 rfl] at ho ⊢
    rw [a 66 _ rfl] at hi
    rw [a 67 _ rfl]
    exact h.2.2.2.1 o k i ho hk hi
  · intro i hi
    rw [a 0 95 rfl] at hi
    rw [a 94 _ rfl, a 0 60 rfl]
    have b := h.2.2.2.2 i hi
    refine ⟨b.1, ?_⟩
    by_cases hk : Int32.toNatClampNeg (V 94 i) = k
    · rw [hk, up2_s e]
      exact hv
    · rw [up2_k e hk]
      exact b.2
theorem FRM.state {V W : Vf} {k : Nat} {v : Int32} {x : Int} (e : W = up2 V 63 k v) (h0 : (V 0 60).toInt ≤ (k : Int) ∨ (1 ≤ (V 63 k).toInt ∧ (V 63 k).toInt ≤ v.toInt)) : FRM V W x := by
  have a : agr [] [63] V W := agr.up agr.rf e rfl
  refine ⟨by rw [a 0 60 rfl]; exact Int.le_refl _, fun o ho => ⟨a 61 _ rfl, a 62 _ rfl, ?_, ?_⟩, fun _ _ _ _ _ _ => a 66 _ rfl, fun _ _ => a 94 _ rfl⟩
  · intro h
    by_cases hk : o = k
    · subst hk
      omega
    · rw [up2_k e hk]
      exact h
  · intro h
    by_cases hk : o = k
    · subst hk
      rw [up2_s e]
      omega
    · rw [up2_k e hk]
      exact Int.le_refl _
/-- fewer fresh ones -/
theorem RT.fewer {V W : Vf} {v : Int32} (h : RT V) (hM : rgd bM V) (e : W = up2 V 0 95 v) (hv : v.toInt ≤ (V 0 95).toInt) : RT W := by
  have a : agr [(0, 95)] [] V W := agr.up agr.rf e rfl
  have q : thC [(0, 95)] [] := ⟨rfl, fun _ => rfl, fun _ => rfl, fun _ => rfl, fun _ => rfl, fun _ => rfl, fun _ => rfl⟩
  refine ⟨TB.ag h.1 hM a rfl (by decide) (by decide), RD_st h.2.1 a q (c0k.ag a rfl), ?_, ?_, ?_⟩
  · intro o ho
    rw [a 0 60 rfl] at ho
    rw [a 61 _ rfl]
    exact (h.2.2.1 o ho).ag a q
  · intro o k i ho hk hi
    rw [a 0 60 rfl] at ho ⊢
    rw [a 66 _ rfl] at hi
    rw [a 67 _ rfl]
    exact h.2.2.2.1 o k i ho hk hi
  · intro i hi
    rw [up2_s e] at hi
    rw [a 94 _ rfl, a 0 60 rfl, a 63 _ rfl]
    exact h.2.2.2.2 i (by omega)
/-- one fresh one more -/
theorem RT.more {V V1 W : Vf} {k : Nat} {o v : Int32} (h : RT V) (hM : rgd bM V) (e1 : V1 = up2 V 94 k o) (e2 : W = up2 V1 0 95 v) (hk : (k : Int) = (V 0 95).toInt) (hv : v.toInt = (V 0 95).toInt + 1) (ho : 0 ≤ o.toInt ∧ o.toInt < (V 0 60).toInt) (hs : 1 ≤ (V 63 (Int32.toNatClampNeg o)).toInt) : RT W := by
  have a : agr [(0, 95)] [94] V W := agr.up (agr.up agr.rf e1 rfl) e2 rfl
  have q : thC [(0, 95)] [94] := ⟨rfl, fun _ => rfl, fun _ => rfl, fun _ => rfl, fun _ => rfl, fun _ => rfl, fun _ => rfl⟩
  refine ⟨TB.ag h.1 hM a rfl (by decide) (by decide), RD_st h.2.1 a q (c0k.ag a rfl), ?_, ?_, ?_⟩
  · intro o ho
    rw [a 0 60 rfl] at ho
    rw [a 61 _ rfl]
    exact (h.2.2.1 o ho).ag a q
  · intro o k i ho hk hi
    rw [a 0 60 rfl] at ho ⊢
    rw [a 66 _ rfl] at hi
    rw [a 67 _ rfl]
    exact h.2.2.2.1 o k i ho hk hi
  · intro i hi
    rw [up2_s e2] at hi
    have e94 : W 94 i = V1 94 i := up2_o e2 (by decide)
    rw [e94, a 0 60 rfl, a 63 _ rfl]
    by_cases hik : i = k
    · rw [hik, up2_s e1]
      exact ⟨ho.2, hs⟩
    · rw [up2_k e1 hik]
      exact h.2.2.2.2 i (by omega)
/-- a join is laid: who, then how many -/
theorem RT.join {V V1 W : Vf} {o k : Nat} {g v : Int32} (h : RT V) (hM : rgd bM V) {p r : Nat} (e1 : V1 = up2 V 67 p g) (e2 : W = up2 V1 66 r v) (hr : r = 8 * o + k) (hp : (p : Int) = 24 * (8 * (o : Int) + k) + (V 66 (8 * o + k)).toInt) (hk : k < 8) (hv : v.toInt = (V 66 (8 * o + k)).toInt + 1) (h24 : (V 66 (8 * o + k)).toInt ≤ 23) (hg : g.toInt < (V 0 60).toInt) : RT W := by
  have a : agr [] [66, 67] V W := agr.up (agr.up agr.rf e1 rfl) e2 rfl
  have q : thC [] [66, 67] := ⟨rfl, fun _ => rfl, fun _ => rfl, fun _ => rfl, fun _ => rfl, fun _ => rfl, fun _ => rfl⟩
  have h0 : 0 ≤ (V 66 (8 * o + k)).toInt := (hM 66 _).1
  refine ⟨TB.ag h.1 hM a rfl (by decide) (by decide), RD_st h.2.1 a q (c0k.ag a rfl), ?_, ?_, ?_⟩
  · intro o ho
    rw [a 0 60 rfl] at ho
    rw [a 61 _ rfl]
    exact (h.2.2.1 o ho).ag a q
  · intro o' k' i ho hk' hi
    rw [a 0 60 rfl] at ho ⊢
    have e67 : W 67 (24 * (8 * o' + k') + i) = V1 67 (24 * (8 * o' + k') + i) := up2_o e2 (by decide)
    rw [e67]
    by_cases hj : 8 * o' + k' = r
    · rw [hj, up2_s e2] at hi
      by_cases hi2 : 24 * (8 * o' + k') + i = p
      · rw [hi2, up2_s e1]
        exact hg
      · rw [up2_k e1 hi2]
        have e3 : 8 * o' + k' = 8 * o + k := by omega
        exact h.2.2.2.1 o' k' i ho hk' (by rw [e3]; omega)
    · have e66 : W 66 (8 * o' + k') = V 66 (8 * o' + k') := (up2_k e2 hj).trans (up2_o e1 (by decide))
      rw [e66] at hi
      have hb : (V 66 (8 * o' + k')).toInt ≤ 24 := (hM 66 _).2
      rw [up2_k e1 (by omega)]
      exact h.2.2.2.1 o' k' i ho hk' hi
  · intro i hi
    rw [a 0 95 rfl] at hi
    rw [a 94 _ rfl, a 0 60 rfl, a 63 _ rfl]
    exact h.2.2.2.2 i hi
theorem FRM.join {V V1 W : Vf} {o k : Nat} {g v : Int32} {x : Int} {p r : Nat} (e1 : V1 = up2 V 67 p g) (e2 : W = up2 V1 66 r v) (hr : r = 8 * o + k) (hk : k < 8) (hx : (o : Int) = x ∨ (V 29 (8 * (24 * nwh V + Int32.toNatClampNeg (V 61 o)) + k)).toInt = 1) : FRM V W x := by
  have a : agr [] [66, 67] V W := agr.up (agr.up agr.rf e1 rfl) e2 rfl
  refine ⟨by rw [a 0 60 rfl]; exact Int.le_refl _, fun o ho => ⟨a 61 _ rfl, a 62 _ rfl, fun h => by rw [a 63 _ rfl]; exact h, fun h => by rw [a 63 _ rfl]; exact Int.le_refl _⟩, fun o' k' ho he hk' hl => ?_, fun _ _ => a 94 _ rfl⟩
  by_cases hj : 8 * o' + k' = r
  · have e3 : o' = o := by omega
    have e4 : k' = k := by omega
    subst e3
    subst e4
    rcases hx with hx | hx
    · exact absurd hx he
    · exact absurd hx hl
  · exact (up2_k e2 hj).trans (up2_o e1 (by decide))
/-- a new object -/
theorem RT.new {V W : Vf} {o : Nat} (h : RT V) (hM : rgd bM V) (a : agr [(0, 60)] [61, 62, 63, 66] V W) (h60 : (W 0 60).toInt = (V 0 60).toInt + 1) (ho : (o : Int) = (V 0 60).toInt) (f61 : ∀ x, x ≠ o → W 61 x = V 61 x) (n61 : th V (Int32.toNatClampNeg (W 61 o))) (f63 : ∀ x, x ≠ o → W 63 x = V 63 x) (f66 : ∀ x, x < 8 * o ∨ 8 * o + 8 ≤ x → W 66 x = V 66 x) (n66 : ∀ k, k < 8 → (W 66 (8 * o + k)).toInt = 0) : RT W := by
  have q : thC [(0, 60)] [61, 62, 63, 66] := ⟨rfl, fun _ => rfl, fun _ => rfl, fun _ => rfl, fun _ => rfl, fun _ => rfl, fun _ => rfl⟩
  refine ⟨TB.ag h.1 hM a rfl (by decide) (by decide), RD_st h.2.1 a q (c0k.ag a rfl), ?_, ?_, ?_⟩
  · intro x hx
    by_cases e : x = o
    · rw [e]
      exact n61.ag a q
    · rw [f61 x e]
      exact (h.2.2.1 x (by omega)).ag a q
  · intro x k i hx hk hi
    by_cases e : x = o
    · rw [e, n66 k hk] at hi
      omega
    · rw [f66 _ (by omega)] at hi
      have e67 : W 67 (24 * (8 * x + k) + i) = V 67 (24 * (8 * x + k) + i) := a 67 _ rfl
      rw [e67]
      have := h.2.2.2.1 x k i (by omega) hk hi
      omega
  · intro i hi
    rw [a 0 95 rfl] at hi
    rw [a 94 _ rfl]
    have b := h.2.2.2.2 i hi
    have b0 : 0 ≤ (V 94 i).toInt := (hM 94 i).1
    have bc := i_clamp (x := V 94 i) rfl b0
    rw [f63 _ (by omega)]
    exact ⟨by omega, b.2⟩
theorem FRM.new {V W : Vf} {o : Nat} {x : Int} (a : agr [(0, 60)] [61, 62, 63, 66] V W) (h60 : (W 0 60).toInt = (V 0 60).toInt + 1) (ho : (o : Int) = (V 0 60).toInt) (f61 : ∀ x, x ≠ o → W 61 x = V 61 x) (f62 : ∀ x, x ≠ o → W 62 x = V 62 x) (f63 : ∀ x, x ≠ o → W 63 x = V 63 x) (f66 : ∀ x, x < 8 * o ∨ 8 * o + 8 ≤ x → W 66 x = V 66 x) : FRM V W x :=
  ⟨by omega, fun y hy => ⟨f61 y (by omega), f62 y (by omega), fun h => by rw [f63 y (by omega)]; exact h, fun h => by rw [f63 y (by omega)]; exact Int.le_refl _⟩, fun y k hy _ hk _ => f66 _ (by omega), fun _ _ => a 94 _ rfl⟩

theorem w2283 : Cond.code yX12_arounds cX12_arounds 7 (some .int) ∈ GW := gw_k tk9_9 208 (rfl) rfl
theorem w2280 : Cond.methodLink RX12 523 yX12_arounds ∈ GW := gw_k tk9_9 205 (by decide +kernel) rfl
theorem w2282 : Cond.instanceMethod yX12_arounds ∈ GW := gw_k tk9_9 207 (by decide +kernel) rfl
theorem w139 : Cond.selects RX12 yX12_arounds yX12_arounds ∈ GW := gw_mem 139 (by decide +kernel) rfl
theorem hdV_yX12_arounds : yX12_arounds.cls = RX12 ∧ yX12_arounds.cls ≠ "java/lang/invoke/MethodHandle" ∧ yX12_arounds.cls ≠ "java/lang/invoke/VarHandle" ∧ (parseMethodDescriptor yX12_arounds.desc).map (fun d => d.parameters.length) = some 5 := by decide +kernel
theorem w2323 : Cond.code yX12_failings cX12_failings 11 (some .int) ∈ GW := gw_k tk9_10 8 (rfl) rfl
theorem w2320 : Cond.methodLink RX12 526 yX12_failings ∈ GW := gw_k tk9_10 5 (by decide +kernel) rfl
theorem w2322 : Cond.instanceMethod yX12_failings ∈ GW := gw_k tk9_10 7 (by decide +kernel) rfl
theorem w149 : Cond.selects RX12 yX12_failings yX12_failings ∈ GW := gw_mem 149 (by decide +kernel) rfl
theorem hdV_yX12_failings : yX12_failings.cls = RX12 ∧ yX12_failings.cls ≠ "java/lang/invoke/MethodHandle" ∧ yX12_failings.cls ≠ "java/lang/invoke/VarHandle" ∧ (parseMethodDescriptor yX12_failings.desc).map (fun d => d.parameters.length) = some 3 := by decide +kernel
theorem dk9_dX12_calls_0_0 : dOk cX12_calls [(0, .aload_n 0, 1), (1, .invokevirtual 497, 3), (4, .ifCond .ne 5, 3), (9, .aload_n 0, 1), (10, .getfield 520, 3), (13, .bipush 10, 2), (15, .if_icmp .ne 10, 3), (25, .aload_n 0, 1), (26, .getfield 170, 3), (29, .iload_n 1, 1), (30, .iaload, 1), (31, .iconst 2, 1), (32, .if_icmp .ne 10, 3), (42, .aload_n 0, 1), (43, .dup, 1), (44, .getfield 520, 3), (47, .iconst 1, 1), (48, .iadd, 1), (49, .putfield 520, 3), (52, .aload_n 0, 1), (53, .iconst 0, 1), (54, .iload_n 1, 1), (55, .iload_n 2, 1), (56, .iload_n 3, 1)] = true ∧ dOk cX12_calls [(57, .iload 4, 2), (59, .invokevirtual 523, 3), (62, .istore 5, 2), (64, .iload 5, 2), (66, .iconst 1, 1), (67, .if_icmp .ne 12, 3), (79, .aload_n 0, 1), (80, .dup, 1), (81, .getfield 520, 3), (84, .iconst 1, 1), (85, .isub, 1), (86, .putfield 520, 3), (89, .iload 5, 2), (91, .ireturn, 1), (70, .aload_n 0, 1), (71, .iload_n 1, 1), (72, .iload_n 2, 1), (73, .iload_n 3, 1), (74, .invokevirtual 526, 3), (77, .istore 5, 2), (35, .aload_n 0, 1), (36, .bipush 17, 2), (38, .invokevirtual 484, 3), (41, .ireturn, 1)] = true ∧ dOk cX12_calls [(18, .aload_n 0, 1), (19, .bipush 13, 2), (21, .invokevirtual 484, 3), (24, .ireturn, 1), (7, .iconst 2, 1), (8, .ireturn, 1)] = true := by decide +kernel
theorem dX12_calls_0 : decode cX12_calls 0 = .ok (.aload_n 0, 1) := dr9 dk9_dX12_calls_0_0.1 0 (0, .aload_n 0, 1) rfl
theorem dX12_calls_1 : decode cX12_calls 1 = .ok (.invokevirtual 497, 3) := dr9 dk9_dX12_calls_0_0.1 1 (1, .invokevirtual 497, 3) rfl
theorem dX12_calls_4 : decode cX12_calls 4 = .ok (.ifCond .ne 5, 3) := dr9 dk9_dX12_calls_0_0.1 2 (4, .ifCond .ne 5, 3) rfl
theorem dX12_calls_9 : decode cX12_calls 9 = .ok (.aload_n 0, 1) := dr9 dk9_dX12_calls_0_0.1 3 (9, .aload_n 0, 1) rfl
theorem dX12_calls_10 : decode cX12_calls 10 = .ok (.getfield 520, 3) := dr9 dk9_dX12_calls_0_0.1 4 (10, .getfield 520, 3) rfl
theorem dX12_calls_13 : decode cX12_calls 13 = .ok (.bipush 10, 2) := dr9 dk9_dX12_calls_0_0.1 5 (13, .bipush 10, 2) rfl
theorem dX12_calls_15 : decode cX12_calls 15 = .ok (.if_icmp .ne 10, 3) := dr9 dk9_dX12_calls_0_0.1 6 (15, .if_icmp .ne 10, 3) rfl
theorem dX12_calls_25 : decode cX12_calls 25 = .ok (.aload_n 0, 1) := dr9 dk9_dX12_calls_0_0.1 7 (25, .aload_n 0, 1) rfl
theorem dX12_calls_26 : decode cX12_calls 26 = .ok (.getfield 170, 3) := dr9 dk9_dX12_calls_0_0.1 8 (26, .getfield 170, 3) rfl
theorem dX12_calls_29 : decode cX12_calls 29 = .ok (.iload_n 1, 1) := dr9 dk9_dX12_calls_0_0.1 9 (29, .iload_n 1, 1) rfl
theorem dX12_calls_30 : decode cX12_calls 30 = .ok (.iaload, 1) := dr9 dk9_dX12_calls_0_0.1 10 (30, .iaload, 1) rfl
theorem dX12_calls_31 : decode cX12_calls 31 = .ok (.iconst 2, 1) := dr9 dk9_dX12_calls_0_0.1 11 (31, .iconst 2, 1) rfl
theorem dX12_calls_32 : decode cX12_calls 32 = .ok (.if_icmp .ne 10, 3) := dr9 dk9_dX12_calls_0_0.1 12 (32, .if_icmp .ne 10, 3) rfl
theorem dX12_calls_42 : decode cX12_calls 42 = .ok (.aload_n 0, 1) := dr9 dk9_dX12_calls_0_0.1 13 (42, .aload_n 0, 1) rfl
theorem dX12_calls_43 : decode cX12_calls 43 = .ok (.dup, 1) := dr9 dk9_dX12_calls_0_0.1 14 (43, .dup, 1) rfl
theorem dX12_calls_44 : decode cX12_calls 44 = .ok (.getfield 520, 3) := dr9 dk9_dX12_calls_0_0.1 15 (44, .getfield 520, 3) rfl
theorem dX12_calls_47 : decode cX12_calls 47 = .ok (.iconst 1, 1) := dr9 dk9_dX12_calls_0_0.1 16 (47, .iconst 1, 1) rfl
theorem dX12_calls_48 : decode cX12_calls 48 = .ok (.iadd, 1) := dr9 dk9_dX12_calls_0_0.1 17 (48, .iadd, 1) rfl
theorem dX12_calls_49 : decode cX12_calls 49 = .ok (.putfield 520, 3) := dr9 dk9_dX12_calls_0_0.1 18 (49, .putfield 520, 3) rfl
theorem dX12_calls_52 : decode cX12_calls 52 = .ok (.aload_n 0, 1) := dr9 dk9_dX12_calls_0_0.1 19 (52, .aload_n 0, 1) rfl
theorem dX12_calls_53 : decode cX12_calls 53 = .ok (.iconst 0, 1) := dr9 dk9_dX12_calls_0_0.1 20 (53, .iconst 0, 1) rfl
theorem dX12_calls_54 : decode cX12_calls 54 = .ok (.iload_n 1, 1) := dr9 dk9_dX12_calls_0_0.1 21 (54, .iload_n 1, 1) rfl
theorem dX12_calls_55 : decode cX12_calls 55 = .ok (.iload_n 2, 1) := dr9 dk9_dX12_calls_0_0.1 22 (55, .iload_n 2, 1) rfl
theorem dX12_calls_56 : decode cX12_calls 56 = .ok (.iload_n 3, 1) := dr9 dk9_dX12_calls_0_0.1 23 (56, .iload_n 3, 1) rfl
theorem dX12_calls_57 : decode cX12_calls 57 = .ok (.iload 4, 2) := dr9 dk9_dX12_calls_0_0.2.1 0 (57, .iload 4, 2) rfl
theorem dX12_calls_59 : decode cX12_calls 59 = .ok (.invokevirtual 523, 3) := dr9 dk9_dX12_calls_0_0.2.1 1 (59, .invokevirtual 523, 3) rfl
theorem dX12_calls_62 : decode cX12_calls 62 = .ok (.istore 5, 2) := dr9 dk9_dX12_calls_0_0.2.1 2 (62, .istore 5, 2) rfl
theorem dX12_calls_64 : decode cX12_calls 64 = .ok (.iload 5, 2) := dr9 dk9_dX12_calls_0_0.2.1 3 (64, .iload 5, 2) rfl
theorem dX12_calls_66 : decode cX12_calls 66 = .ok (.iconst 1, 1) := dr9 dk9_dX12_calls_0_0.2.1 4 (66, .iconst 1, 1) rfl
theorem dX12_calls_67 : decode cX12_calls 67 = .ok (.if_icmp .ne 12, 3) := dr9 dk9_dX12_calls_0_0.2.1 5 (67, .if_icmp .ne 12, 3) rfl
theorem dX12_calls_79 : decode cX12_calls 79 = .ok (.aload_n 0, 1) := dr9 dk9_dX12_calls_0_0.2.1 6 (79, .aload_n 0, 1) rfl
theorem dX12_calls_80 : decode cX12_calls 80 = .ok (.dup, 1) := dr9 dk9_dX12_calls_0_0.2.1 7 (80, .dup, 1) rfl
theorem dX12_calls_81 : decode cX12_calls 81 = .ok (.getfield 520, 3) := dr9 dk9_dX12_calls_0_0.2.1 8 (81, .getfield 520, 3) rfl
theorem dX12_calls_84 : decode cX12_calls 84 = .ok (.iconst 1, 1) := dr9 dk9_dX12_calls_0_0.2.1 9 (84, .iconst 1, 1) rfl
theorem dX12_calls_85 : decode cX12_calls 85 = .ok (.isub, 1) := dr9 dk9_dX12_calls_0_0.2.1 10 (85, .isub, 1) rfl
theorem dX12_calls_86 : decode cX12_calls 86 = .ok (.putfield 520, 3) := dr9 dk9_dX12_calls_0_0.2.1 11 (86, .putfield 520, 3) rfl
theorem dX12_calls_89 : decode cX12_calls 89 = .ok (.iload 5, 2) := dr9 dk9_dX12_calls_0_0.2.1 12 (89, .iload 5, 2) rfl
theorem dX12_calls_91 : decode cX12_calls 91 = .ok (.ireturn, 1) := dr9 dk9_dX12_calls_0_0.2.1 13 (91, .ireturn, 1) rfl
theorem dX12_calls_70 : decode cX12_calls 70 = .ok (.aload_n 0, 1) := dr9 dk9_dX12_calls_0_0.2.1 14 (70, .aload_n 0, 1) rfl
theorem dX12_calls_71 : decode cX12_calls 71 = .ok (.iload_n 1, 1) := dr9 dk9_dX12_calls_0_0.2.1 15 (71, .iload_n 1, 1) rfl
theorem dX12_calls_72 : decode cX12_calls 72 = .ok (.iload_n 2, 1) := dr9 dk9_dX12_calls_0_0.2.1 16 (72, .iload_n 2, 1) rfl
theorem dX12_calls_73 : decode cX12_calls 73 = .ok (.iload_n 3, 1) := dr9 dk9_dX12_calls_0_0.2.1 17 (73, .iload_n 3, 1) rfl
theorem dX12_calls_74 : decode cX12_calls 74 = .ok (.invokevirtual 526, 3) := dr9 dk9_dX12_calls_0_0.2.1 18 (74, .invokevirtual 526, 3) rfl
theorem dX12_calls_77 : decode cX12_calls 77 = .ok (.istore 5, 2) := dr9 dk9_dX12_calls_0_0.2.1 19 (77, .istore 5, 2) rfl
theorem dX12_calls_35 : decode cX12_calls 35 = .ok (.aload_n 0, 1) := dr9 dk9_dX12_calls_0_0.2.1 20 (35, .aload_n 0, 1) rfl
theorem dX12_calls_36 : decode cX12_calls 36 = .ok (.bipush 17, 2) := dr9 dk9_dX12_calls_0_0.2.1 21 (36, .bipush 17, 2) rfl
theorem dX12_calls_38 : decode cX12_calls 38 = .ok (.invokevirtual 484, 3) := dr9 dk9_dX12_calls_0_0.2.1 22 (38, .invokevirtual 484, 3) rfl
theorem dX12_calls_41 : decode cX12_calls 41 = .ok (.ireturn, 1) := dr9 dk9_dX12_calls_0_0.2.1 23 (41, .ireturn, 1) rfl
theorem dX12_calls_18 : decode cX12_calls 18 = .ok (.aload_n 0, 1) := dr9 dk9_dX12_calls_0_0.2.2 0 (18, .aload_n 0, 1) rfl
theorem dX12_calls_19 : decode cX12_calls 19 = .ok (.bipush 13, 2) := dr9 dk9_dX12_calls_0_0.2.2 1 (19, .bipush 13, 2) rfl
theorem dX12_calls_21 : decode cX12_calls 21 = .ok (.invokevirtual 484, 3) := dr9 dk9_dX12_calls_0_0.2.2 2 (21, .invokevirtual 484, 3) rfl
theorem dX12_calls_24 : decode cX12_calls 24 = .ok (.ireturn, 1) := dr9 dk9_dX12_calls_0_0.2.2 3 (24, .ireturn, 1) rfl
theorem dX12_calls_7 : decode cX12_calls 7 = .ok (.iconst 2, 1) := dr9 dk9_dX12_calls_0_0.2.2 4 (7, .iconst 2, 1) rfl
theorem dX12_calls_8 : decode cX12_calls 8 = .ok (.ireturn, 1) := dr9 dk9_dX12_calls_0_0.2.2 5 (8, .ireturn, 1) rfl
abbrev q_s_calls (D : va_G) (ks : KS) (ad : Nat → Nat) (kk : Nat → ClassId) (V : Vf) (L : Lf) (p0 : Int32) (p1 : Int32) (p2 : Int32) (p3 : Int32) (A : Nat → Prop) : Array Value → State → Outcome → State → Prop := va_Qi (fun (r : Int32) (u : Vf × Lf) => rgd bM u.1 ∧ agr [(0, 60), (0, 65), (0, 68), (0, 69), (0, 73), (0, 76), (0, 90), (0, 91), (0, 92), (0, 93), (0, 95), (0, 96), (0, 98)] [59, 61, 62, 63, 64, 66, 67, 74, 75, 77, 78, 79, 80, 94, 97] V u.1 ∧ u.2 = L ∧ (0 ≤ r.toInt ∧ r.toInt ≤ 2) ∧ ((u.1 0 93).toInt = (V 0 93).toInt) ∧ ((u.1 0 98).toInt = (V 0 98).toInt) ∧ ((V 0 60).toInt ≤ (u.1 0 60).toInt) ∧ ((V 0 65).toInt ≤ (u.1 0 65).toInt) ∧ ((u.1 0 65).toInt - (V 0 65).toInt ≤ (u.1 0 60).toInt - (V 0 60).toInt) ∧ ((u.1 0 73).toInt + (u.1 0 95).toInt - (u.1 0 65).toInt ≤ (V 0 73).toInt + (V 0 95).toInt - (V 0 65).toInt) ∧ ((V 0 73).toInt ≤ (u.1 0 73).toInt) ∧ ((V 0 69).toInt ≤ (u.1 0 69).toInt) ∧ ((u.1 0 95).toInt = (V 0 95).toInt) ∧ ((u.1 0 76).toInt - (u.1 0 69).toInt - (u.1 0 73).toInt ≤ (V 0 76).toInt - (V 0 69).toInt - (V 0 73).toInt) ∧ (RT u.1) ∧ (FRM V u.1 (-1))) (fun u t => gq D A (mw ad kk ks.1 u.1 u.2) (mty kk) t) A
def K_s_calls (l : Launch) (D : va_G) (ks : KS) (d1 d2 : Nat) : Prop := ∀ (sz : Nat) (ad : Nat → Nat) (kk : Nat → ClassId) (V : Vf) (L : Lf) (p0 : Int32) (p1 : Int32) (p2 : Int32) (p3 : Int32) (hMV : rgd bM V) (rg_p0 : 0 ≤ p0.toInt ∧ p0.toInt ≤ 299) (rg_p1 : 0 ≤ p1.toInt ∧ p1.toInt ≤ 19) (rg_p2 : 0 ≤ p2.toInt ∧ p2.toInt ≤ 39) (rt : RT V) (n1 : (V 0 65).toInt ≤ (V 0 60).toInt) (n2 : (V 0 95).toInt ≤ (V 0 65).toInt) (n3 : (V 0 73).toInt + (V 0 95).toInt - (V 0 65).toInt ≤ 999000) (n4 : (V 0 76).toInt - (V 0 69).toInt - (V 0 73).toInt ≤ 1000000000) (n5 : 300 - (V 0 60).toInt ≤ (d1 : Int)) (n6 : 10 - (V 0 93).toInt ≤ (d2 : Int)) (oq1 : p0.toInt < (V 0 60).toInt) (n7 : (V 0 98).toInt + 400 * (d2 : Int) ≤ 19000) , Met l yX12_calls (Cond.code yX12_calls cX12_calls 6 (some .int) :: GW) (rK2 (4 * d1 + 40 * d2 + 8) (100 * d1 + 1000 * d2 + 320)) (va_Pc [.ref (ad 0), .int p0, .int p1, .int p2, .int p3] (gp D ks (mw ad kk ks.1 V L) (mty kk) sz)) (q_s_calls D ks ad kk V L p0 p1 p2 p3 (va_A (mw ad kk ks.1 V L) sz)) 0 0 (va_A (mw ad kk ks.1 V L) sz)
abbrev q_s_arounds (D : va_G) (ks : KS) (ad : Nat → Nat) (kk : Nat → ClassId) (V : Vf) (L : Lf) (p0 : Int32) (p1 : Int32) (p2 : Int32) (p3 : Int32) (p4 : Int32) (A : Nat → Prop) : Array Value → State → Outcome → State → Prop := va_Qi (fun (r : Int32) (u : Vf × Lf) => rgd bM u.1 ∧ agr [(0, 60), (0, 65), (0, 68), (0, 69), (0, 73), (0, 76), (0, 90), (0, 91), (0, 92), (0, 93), (0, 95), (0, 96), (0, 98)] [59, 61, 62, 63, 64, 66, 67, 74, 75, 77, 78, 79, 80, 94, 97] V u.1 ∧ u.2 = L ∧ (0 ≤ r.toInt ∧ r.toInt ≤ 2) ∧ ((u.1 0 93).toInt = (V 0 93).toInt) ∧ ((u.1 0 98).toInt = (V 0 98).toInt) ∧ ((V 0 60).toInt ≤ (u.1 0 60).toInt) ∧ ((V 0 65).toInt ≤ (u.1 0 65).toInt) ∧ ((u.1 0 65).toInt - (V 0 65).toInt ≤ (u.1 0 60).toInt - (V 0 60).toInt) ∧ ((u.1 0 73).toInt + (u.1 0 95).toInt - (u.1 0 65).toInt ≤ (V 0 73).toInt + (V 0 95).toInt - (V 0 65).toInt) ∧ ((V 0 73).toInt ≤ (u.1 0 73).toInt) ∧ ((V 0 69).toInt ≤ (u.1 0 69).toInt) ∧ ((u.1 0 95).toInt = (V 0 95).toInt) ∧ ((u.1 0 76).toInt - (u.1 0 69).toInt - (u.1 0 73).toInt ≤ (V 0 76).toInt - (V 0 69).toInt - (V 0 73).toInt + 1) ∧ (Imp (r.toInt ≠ 2) ((u.1 0 76).toInt - (u.1 0 69).toInt - (u.1 0 73).toInt ≤ (V 0 76).toInt - (V 0 69).toInt - (V 0 73).toInt)) ∧ (RT u.1) ∧ (FRM V u.1 (-1))) (fun u t => gq D A (mw ad kk ks.1 u.1 u.2) (mty kk) t) A
def K_s_arounds (l : Launch) (D : va_G) (ks : KS) (d1 d2 d3 : Nat) : Prop := ∀ (sz : Nat) (ad : Nat → Nat) (kk : Nat → ClassId) (V : Vf) (L : Lf) (p0 : Int32) (p1 : Int32) (p2 : Int32) (p3 : Int32) (p4 : Int32) (hMV : rgd bM V) (rg_p0 : 0 ≤ p0.toInt ∧ p0.toInt ≤ 12) (rg_p1 : 0 ≤ p1.toInt ∧ p1.toInt ≤ 299) (rg_p2 : 0 ≤ p2.toInt ∧ p2.toInt ≤ 19) (rg_p3 : 0 ≤ p3.toInt ∧ p3.toInt ≤ 39) (rt : RT V) (n1 : (V 0 65).toInt ≤ (V 0 60).toInt) (n2 : (V 0 95).toInt ≤ (V 0 65).toInt) (n3 : (V 0 73).toInt + (V 0 95).toInt - (V 0 65).toInt ≤ 999000) (n4 : (V 0 76).toInt - (V 0 69).toInt - (V 0 73).toInt ≤ 1000000000) (n5 : 300 - (V 0 60).toInt ≤ (d1 : Int)) (n6 : 10 - (V 0 93).toInt ≤ (d2 : Int)) (oq1 : p1.toInt < (V 0 60).toInt) (n7 : (V 0 98).toInt + 400 * (d2 : Int) + 30 * (13 - p0.toInt) ≤ 19000) (n8 : 12 - p0.toInt ≤ (d3 : Int)) , Met l yX12_arounds (Cond.code yX12_arounds cX12_arounds 7 (some .int) :: GW) (rK2 (4 * d1 + 40 * d2 + 14 + 2 * d3) (100 * d1 + 1000 * d2 + 560 + 60 * d3)) (va_Pc [.ref (ad 0), .int p0, .int p1, .int p2, .int p3, .int p4] (gp D ks (mw ad kk ks.1 V L) (mty kk) sz)) (q_s_arounds D ks ad kk V L p0 p1 p2 p3 p4 (va_A (mw ad kk ks.1 V L) sz)) 0 0 (va_A (mw ad kk ks.1 V L) sz)
abbrev q_s_failings (D : va_G) (ks : KS) (ad : Nat → Nat) (kk : Nat → ClassId) (V : Vf) (L : Lf) (p0 : Int32) (p1 : Int32) (p2 : Int32) (A : Nat → Prop) : Array Value → State → Outcome → State → Prop := va_Qi (fun (r : Int32) (u : Vf × Lf) => rgd bM u.1 ∧ agr [(0, 60), (0, 65), (0, 68), (0, 69), (0, 73), (0, 76), (0, 90), (0, 91), (0, 92), (0, 93), (0, 95), (0, 96), (0, 98)] [59, 61, 62, 63, 64, 66, 67, 74, 75, 77, 78, 79, 80, 94, 97] V u.1 ∧ u.2 = L ∧ (0 ≤ r.toInt ∧ r.toInt ≤ 2) ∧ ((u.1 0 93).toInt = (V 0 93).toInt) ∧ ((u.1 0 98).toInt = (V 0 98).toInt) ∧ ((V 0 60).toInt ≤ (u.1 0 60).toInt) ∧ ((V 0 65).toInt ≤ (u.1 0 65).toInt) ∧ ((u.1 0 65).toInt - (V 0 65).toInt ≤ (u.1 0 60).toInt - (V 0 60).toInt) ∧ ((u.1 0 73).toInt + (u.1 0 95).toInt - (u.1 0 65).toInt ≤ (V 0 73).toInt + (V 0 95).toInt - (V 0 65).toInt) ∧ ((V 0 73).toInt ≤ (u.1 0 73).toInt) ∧ ((V 0 69).toInt ≤ (u.1 0 69).toInt) ∧ ((u.1 0 95).toInt = (V 0 95).toInt) ∧ ((u.1 0 76).toInt - (u.1 0 69).toInt - (u.1 0 73).toInt ≤ (V 0 76).toInt - (V 0 69).toInt - (V 0 73).toInt + 1) ∧ (Imp (r.toInt ≠ 2) ((u.1 0 76).toInt - (u.1 0 69).toInt - (u.1 0 73).toInt ≤ (V 0 76).toInt - (V 0 69).toInt - (V 0 73).toInt)) ∧ (RT u.1) ∧ (FRM V u.1 (-1))) (fun u t => gq D A (mw ad kk ks.1 u.1 u.2) (mty kk) t) A
def K_s_failings (l : Launch) (D : va_G) (ks : KS) (d1 d2 : Nat) : Prop := ∀ (sz : Nat) (ad : Nat → Nat) (kk : Nat → ClassId) (V : Vf) (L : Lf) (p0 : Int32) (p1 : Int32) (p2 : Int32) (hMV : rgd bM V) (rg_p0 : 0 ≤ p0.toInt ∧ p0.toInt ≤ 299) (rg_p1 : 0 ≤ p1.toInt ∧ p1.toInt ≤ 19) (rg_p2 : 0 ≤ p2.toInt ∧ p2.toInt ≤ 39) (rt : RT V) (n1 : (V 0 65).toInt ≤ (V 0 60).toInt) (n2 : (V 0 95).toInt ≤ (V 0 65).toInt) (n3 : (V 0 73).toInt + (V 0 95).toInt - (V 0 65).toInt ≤ 999000) (n4 : (V 0 76).toInt - (V 0 69).toInt - (V 0 73).toInt ≤ 1000000000) (n5 : 300 - (V 0 60).toInt ≤ (d1 : Int)) (n6 : 10 - (V 0 93).toInt ≤ (d2 : Int)) (oq1 : p0.toInt < (V 0 60).toInt) (n7 : (V 0 98).toInt + 400 * (d2 : Int) + 30 ≤ 19000) , Met l yX12_failings (Cond.code yX12_failings cX12_failings 11 (some .int) :: GW) (rK2 (4 * d1 + 40 * d2 + 13) (100 * d1 + 1000 * d2 + 500)) (va_Pc [.ref (ad 0), .int p0, .int p1, .int p2] (gp D ks (mw ad kk ks.1 V L) (mty kk) sz)) (q_s_failings D ks ad kk V L p0 p1 p2 (va_A (mw ad kk ks.1 V L) sz)) 0 0 (va_A (mw ad kk ks.1 V L) sz)