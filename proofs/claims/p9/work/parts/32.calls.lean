/-! what a call keeps (RT), and what it leaves of what was there (FRM; e: the object whose joins are being laid, or none) -/
abbrev rK2 (F L : Nat) : Room := { frames := F, cells := 0, slots := 0, locals := L }
def RT (V : Vf) : Prop := TB V ∧ (th V (cd0 V) ∨ ∀ c j : Nat, th V c → ¬ ndL V c j) ∧ (∀ o : Nat, (o : Int) < (V 0 60).toInt → th V (Int32.toNatClampNeg (V 61 o))) ∧ (∀ o k i : Nat, (o : Int) < (V 0 60).toInt → k < 8 → (i : Int) < (V 66 (8 * o + k)).toInt → (V 67 (24 * (8 * o + k) + i)).toInt < (V 0 60).toInt) ∧ (∀ i : Nat, (i : Int) < (V 0 95).toInt → (V 94 i).toInt < (V 0 60).toInt ∧ 1 ≤ (V 63 (Int32.toNatClampNeg (V 94 i))).toInt)
def FRM (V W : Vf) (e : Int) : Prop := (V 0 60).toInt ≤ (W 0 60).toInt ∧ (∀ o : Nat, (o : Int) < (V 0 60).toInt → W 61 o = V 61 o ∧ W 62 o = V 62 o ∧ ((V 63 o).toInt = 0 → (W 63 o).toInt = 0) ∧ (1 ≤ (V 63 o).toInt → (V 63 o).toInt ≤ (W 63 o).toInt)) ∧ (∀ o k : Nat, (o : Int) < (V 0 60).toInt → (o : Int) ≠ e → k < 8 → (V 29 (8 * (24 * nwh V + Int32.toNatClampNeg (V 61 o)) + k)).toInt ≠ 1 → W 66 (8 * o + k) = V 66 (8 * o + k)) ∧ (∀ i : Nat, (i : Int) < (V 0 95).toInt → W 94 i = V 94 i)
/-- none of the cells of what is made was written -/
def rtC (fs : List (Nat × Nat)) (cs : List Nat) : Prop := thC fs cs ∧ (∀ y ∈ fs, y.1 = 0) ∧ (∀ y ∈ cs, trk y = false) ∧ wrL fs cs 0 60 = false ∧ wrL fs cs 0 95 = false ∧ (∀ k, wrL fs cs 61 k = false) ∧ (∀ k, wrL fs cs 62 k = false) ∧ (∀ k, wrL fs cs 63 k = false) ∧ (∀ k, wrL fs cs 66 k = false) ∧ (∀ k, wrL fs cs 67 k = false) ∧ (∀ k, wrL fs cs 94 k = false)
theorem RT.ag {fs : List (Nat × Nat)} {cs : List Nat} {V W : Vf} (h : RT V) (hM : rgd bM V) (a : agr fs cs V W) (q : rtC fs cs) (c0 : c0k V W) : RT W := by
  obtain ⟨q1, q2, q3, q60, q95, q61, q62, q63, q66, q67, q94⟩ := q
  refine ⟨TB.ag h.1 hM a q1.1 q2 q3, RD_st h.2.1 a q1 c0, ?_, ?_, ?_⟩
  · intro o ho
    rw [a 0 60 q60] at ho
    rw [a _ _ (q61 o)]
    exact (h.2.2.1 o ho).ag a q1
  · intro o k i ho hk hi
    rw [a 0 60 q60] at ho ⊢
    rw [a _ _ (q66 _)] at hi
    rw [a _ _ (q67 _)]
    exact h.2.2.2.1 o k i ho hk hi
  · intro i hi
    rw [a 0 95 q95] at hi
    rw [a _ _ (q94 i), a 0 60 q60, a _ _ (q63 _)]
    exact h.2.2.2.2 i hi
theorem FRM.rf {V : Vf} {e : Int} : FRM V V e := ⟨Int.le_refl _, fun _ _ => ⟨rfl, rfl, id, fun _ => Int.le_refl _⟩, fun _ _ _ _ _ _ => rfl, fun _ _ => rfl⟩
theorem FRM.ag {fs : List (Nat × Nat)} {cs : List Nat} {V W : Vf} {e : Int} (a : agr fs cs V W) (q : rtC fs cs) : FRM V W e := by
  obtain ⟨q1, q2, q3, q60, q95, q61, q62, q63, q66, q67, q94⟩ := q
  refine ⟨by rw [a 0 60 q60]; exact Int.le_refl _, fun o _ => ⟨a _ _ (q61 o), a _ _ (q62 o), fun h => by rw [a _ _ (q63 o)]; exact h, fun h => by rw [a _ _ (q63 o)]; exact Int.le_refl _⟩, fun o k _ _ _ _ => a _ _ (q66 _), fun i _ => a _ _ (q94 i)⟩
theorem FRM.tr {fs : List (Nat × Nat)} {cs : List Nat} {V W X : Vf} {e : Int} (h1 : FRM V W e) (h2 : FRM W X e) (a : agr fs cs V W) (q : thC fs cs) (hf : (V 0 95).toInt ≤ (W 0 95).toInt) : FRM V X e := by
  have en : nwh W = nwh V := by unfold nwh; rw [a 0 11 q.1]
  refine ⟨Int.le_trans h1.1 h2.1, fun o ho => ?_, fun o k ho he hk hl => ?_, fun i hi => ?_⟩
  · have b1 := h1.2.1 o ho
    have b2 := h2.2.1 o (by have := h1.1; omega)
    refine ⟨b2.1.trans b1.1, b2.2.1.trans b1.2.1, fun h => b2.2.2.1 (b1.2.2.1 h), fun h => ?_⟩
    have c1 := b1.2.2.2 h
    have c2 := b2.2.2.2 (by omega)
    omega
  · have b1 := h1.2.2.1 o k ho he hk hl
    have b2 := h2.2.2.1 o k (by have := h1.1; omega) he hk (by rw [en, (h1.2.1 o ho).1, a _ _ (q.2.2.2.2.2.2 _)]; exact hl)
    exact b2.trans b1
  · exact (h2.2.2.2 i (by omega)).trans (h1.2.2.2 i hi)
theorem FRM.weak {V W : Vf} {e : Int} (h : FRM V W (-1)) : FRM V W e := ⟨h.1, h.2.1, fun o k ho _ hk hl => h.2.2.1 o k ho (by omega) hk hl, h.2.2.2⟩
/-- an object's state is raised -/
theorem RT.state {V W : Vf} {k : Nat} {v : Int32} (h : RT V) (hM : rgd bM V) (e : W = up2 V 63 k v) (hv : 1 ≤ v.toInt) : RT W := by
  have a : agr [] [63] V W := agr.up agr.rf e rfl
  have q : thC [] [63] := ⟨rfl, fun _ => rfl, fun _ => rfl, fun _ => rfl, fun _ => rfl, fun _ => rfl, fun _ => rfl⟩
  refine ⟨TB.ag h.1 hM a rfl (by decide) (by decide), RD_st h.2.1 a q (c0k.ag a rfl), ?_, ?_, ?_⟩
  · intro o ho
    rw [a 0 60 rfl] at ho
    rw [a 61 _ rfl]
    exact (h.2.2.1 o ho).ag a q
  · intro o k i ho hk hi
    rw [a 0 60 rfl] at ho ⊢
    rw [a 66 _ rfl] at hi
    rw [a 67 _ rfl]
    exact h.2.2.2.1 o k i ho hk hi
  · intro i hi
    rw [a 0 95 rfl] at hi
    rw [a 94 _ rfl, a 0 60 rfl]
    have b := h.2.2.2.2 i hi
    refine ⟨b.1, ?_⟩
    by_cases hk : Int32.toNatClampNeg (V 94 i) = k
    · rw [hk, up2_s e]
      exact hv
    · rw [up2_k e hk]
      exact b.2
theorem FRM.state {V W : Vf} {k : Nat} {v : Int32} {x : Int} (e : W = up2 V 63 k v) (h0 : (V 0 60).toInt ≤ (k : Int) ∨ (1 ≤ (V 63 k).toInt ∧ (V 63 k).toInt ≤ v.toInt)) : FRM V W x := by
  have a : agr [] [63] V W := agr.up agr.rf e rfl
  refine ⟨by rw [a 0 60 rfl]; exact Int.le_refl _, fun o ho => ⟨a 61 _ rfl, a 62 _ rfl, ?_, ?_⟩, fun _ _ _ _ _ _ => a 66 _ rfl, fun _ _ => a 94 _ rfl⟩
  · intro h
    by_cases hk : o = k
    · subst hk
      omega
    · rw [up2_k e hk]
      exact h
  · intro h
    by_cases hk : o = k
    · subst hk
      rw [up2_s e]
      omega
    · rw [up2_k e hk]
      exact Int.le_refl _
/-- fewer fresh ones -/
theorem RT.fewer {V W : Vf} {v : Int32} (h : RT V) (hM : rgd bM V) (e : W = up2 V 0 95 v) (hv : v.toInt ≤ (V 0 95).toInt) : RT W := by
  have a : agr [(0, 95)] [] V W := agr.up agr.rf e rfl
  have q : thC [(0, 95)] [] := ⟨rfl, fun _ => rfl, fun _ => rfl, fun _ => rfl, fun _ => rfl, fun _ => rfl, fun _ => rfl⟩
  refine ⟨TB.ag h.1 hM a rfl (by decide) (by decide), RD_st h.2.1 a q (c0k.ag a rfl), ?_, ?_, ?_⟩
  · intro o ho
    rw [a 0 60 rfl] at ho
    rw [a 61 _ rfl]
    exact (h.2.2.1 o ho).ag a q
  · intro o k i ho hk hi
    rw [a 0 60 rfl] at ho ⊢
    rw [a 66 _ rfl] at hi
    rw [a 67 _ rfl]
    exact h.2.2.2.1 o k i ho hk hi
  · intro i hi
    rw [up2_s e] at hi
    rw [a 94 _ rfl, a 0 60 rfl, a 63 _ rfl]
    exact h.2.2.2.2 i (by omega)
/-- one fresh one more -/
theorem RT.more {V V1 W : Vf} {k : Nat} {o v : Int32} (h : RT V) (hM : rgd bM V) (e1 : V1 = up2 V 94 k o) (e2 : W = up2 V1 0 95 v) (hk : (k : Int) = (V 0 95).toInt) (hv : v.toInt = (V 0 95).toInt + 1) (ho : 0 ≤ o.toInt ∧ o.toInt < (V 0 60).toInt) (hs : 1 ≤ (V 63 (Int32.toNatClampNeg o)).toInt) : RT W := by
  have a : agr [(0, 95)] [94] V W := agr.up (agr.up agr.rf e1 rfl) e2 rfl
  have q : thC [(0, 95)] [94] := ⟨rfl, fun _ => rfl, fun _ => rfl, fun _ => rfl, fun _ => rfl, fun _ => rfl, fun _ => rfl⟩
  refine ⟨TB.ag h.1 hM a rfl (by decide) (by decide), RD_st h.2.1 a q (c0k.ag a rfl), ?_, ?_, ?_⟩
  · intro o ho
    rw [a 0 60 rfl] at ho
    rw [a 61 _ rfl]
    exact (h.2.2.1 o ho).ag a q
  · intro o k i ho hk hi
    rw [a 0 60 rfl] at ho ⊢
    rw [a 66 _ rfl] at hi
    rw [a 67 _ rfl]
    exact h.2.2.2.1 o k i ho hk hi
  · intro i hi
    rw [up2_s e2] at hi
    have e94 : W 94 i = V1 94 i := up2_o e2 (by decide)
    rw [e94, a 0 60 rfl, a 63 _ rfl]
    by_cases hik : i = k
    · rw [hik, up2_s e1]
      exact ⟨ho.2, hs⟩
    · rw [up2_k e1 hik]
      exact h.2.2.2.2 i (by omega)
/-- a join is laid: who, then how many -/
theorem RT.join {V V1 W : Vf} {o k : Nat} {g v : Int32} (h : RT V) (hM : rgd bM V) {p r : Nat} (e1 : V1 = up2 V 67 p g) (e2 : W = up2 V1 66 r v) (hr : r = 8 * o + k) (hp : (p : Int) = 24 * (8 * (o : Int) + k) + (V 66 (8 * o + k)).toInt) (hk : k < 8) (hv : v.toInt = (V 66 (8 * o + k)).toInt + 1) (h24 : (V 66 (8 * o + k)).toInt ≤ 23) (hg : g.toInt < (V 0 60).toInt) : RT W := by
  have a : agr [] [66, 67] V W := agr.up (agr.up agr.rf e1 rfl) e2 rfl
  have q : thC [] [66, 67] := ⟨rfl, fun _ => rfl, fun _ => rfl, fun _ => rfl, fun _ => rfl, fun _ => rfl, fun _ => rfl⟩
  have h0 : 0 ≤ (V 66 (8 * o + k)).toInt := (hM 66 _).1
  refine ⟨TB.ag h.1 hM a rfl (by decide) (by decide), RD_st h.2.1 a q (c0k.ag a rfl), ?_, ?_, ?_⟩
  · intro o ho
    rw [a 0 60 rfl] at ho
    rw [a 61 _ rfl]
    exact (h.2.2.1 o ho).ag a q
  · intro o' k' i ho hk' hi
    rw [a 0 60 rfl] at ho ⊢
    have e67 : W 67 (24 * (8 * o' + k') + i) = V1 67 (24 * (8 * o' + k') + i) := up2_o e2 (by decide)
    rw [e67]
    by_cases hj : 8 * o' + k' = r
    · rw [hj, up2_s e2] at hi
      by_cases hi2 : 24 * (8 * o' + k') + i = p
      · rw [hi2, up2_s e1]
        exact hg
      · rw [up2_k e1 hi2]
        have e3 : 8 * o' + k' = 8 * o + k := by omega
        exact h.2.2.2.1 o' k' i ho hk' (by rw [e3]; omega)
    · have e66 : W 66 (8 * o' + k') = V 66 (8 * o' + k') := (up2_k e2 hj).trans (up2_o e1 (by decide))
      rw [e66] at hi
      have hb : (V 66 (8 * o' + k')).toInt ≤ 24 := (hM 66 _).2
      rw [up2_k e1 (by omega)]
      exact h.2.2.2.1 o' k' i ho hk' hi
  · intro i hi
    rw [a 0 95 rfl] at hi
    rw [a 94 _ rfl, a 0 60 rfl, a 63 _ rfl]
    exact h.2.2.2.2 i hi
theorem FRM.join {V V1 W : Vf} {o k : Nat} {g v : Int32} {x : Int} {p r : Nat} (e1 : V1 = up2 V 67 p g) (e2 : W = up2 V1 66 r v) (hr : r = 8 * o + k) (hk : k < 8) (hx : (o : Int) = x ∨ (V 29 (8 * (24 * nwh V + Int32.toNatClampNeg (V 61 o)) + k)).toInt = 1) : FRM V W x := by
  have a : agr [] [66, 67] V W := agr.up (agr.up agr.rf e1 rfl) e2 rfl
  refine ⟨by rw [a 0 60 rfl]; exact Int.le_refl _, fun o ho => ⟨a 61 _ rfl, a 62 _ rfl, fun h => by rw [a 63 _ rfl]; exact h, fun h => by rw [a 63 _ rfl]; exact Int.le_refl _⟩, fun o' k' ho he hk' hl => ?_, fun _ _ => a 94 _ rfl⟩
  by_cases hj : 8 * o' + k' = r
  · have e3 : o' = o := by omega
    have e4 : k' = k := by omega
    subst e3
    subst e4
    rcases hx with hx | hx
    · exact absurd hx he
    · exact absurd hx hl
  · exact (up2_k e2 hj).trans (up2_o e1 (by decide))
/-- a new object -/
theorem RT.new {V W : Vf} {o : Nat} (h : RT V) (hM : rgd bM V) (a : agr [(0, 60)] [61, 62, 63, 66] V W) (h60 : (W 0 60).toInt = (V 0 60).toInt + 1) (ho : (o : Int) = (V 0 60).toInt) (f61 : ∀ x, x ≠ o → W 61 x = V 61 x) (n61 : th V (Int32.toNatClampNeg (W 61 o))) (f63 : ∀ x, x ≠ o → W 63 x = V 63 x) (f66 : ∀ x, x < 8 * o ∨ 8 * o + 8 ≤ x → W 66 x = V 66 x) (n66 : ∀ k, k < 8 → (W 66 (8 * o + k)).toInt = 0) : RT W := by
  have q : thC [(0, 60)] [61, 62, 63, 66] := ⟨rfl, fun _ => rfl, fun _ => rfl, fun _ => rfl, fun _ => rfl, fun _ => rfl, fun _ => rfl⟩
  refine ⟨TB.ag h.1 hM a rfl (by decide) (by decide), RD_st h.2.1 a q (c0k.ag a rfl), ?_, ?_, ?_⟩
  · intro x hx
    by_cases e : x = o
    · rw [e]
      exact n61.ag a q
    · rw [f61 x e]
      exact (h.2.2.1 x (by omega)).ag a q
  · intro x k i hx hk hi
    by_cases e : x = o
    · rw [e, n66 k hk] at hi
      omega
    · rw [f66 _ (by omega)] at hi
      have e67 : W 67 (24 * (8 * x + k) + i) = V 67 (24 * (8 * x + k) + i) := a 67 _ rfl
      rw [e67]
      have := h.2.2.2.1 x k i (by omega) hk hi
      omega
  · intro i hi
    rw [a 0 95 rfl] at hi
    rw [a 94 _ rfl]
    have b := h.2.2.2.2 i hi
    have b0 : 0 ≤ (V 94 i).toInt := (hM 94 i).1
    have bc := i_clamp (x := V 94 i) rfl b0
    rw [f63 _ (by omega)]
    exact ⟨by omega, b.2⟩
theorem FRM.new {V W : Vf} {o : Nat} {x : Int} (a : agr [(0, 60)] [61, 62, 63, 66] V W) (h60 : (W 0 60).toInt = (V 0 60).toInt + 1) (ho : (o : Int) = (V 0 60).toInt) (f61 : ∀ x, x ≠ o → W 61 x = V 61 x) (f62 : ∀ x, x ≠ o → W 62 x = V 62 x) (f63 : ∀ x, x ≠ o → W 63 x = V 63 x) (f66 : ∀ x, x < 8 * o ∨ 8 * o + 8 ≤ x → W 66 x = V 66 x) : FRM V W x :=
  ⟨by omega, fun y hy => ⟨f61 y (by omega), f62 y (by omega), fun h => by rw [f63 y (by omega)]; exact h, fun h => by rw [f63 y (by omega)]; exact Int.le_refl _⟩, fun y k hy _ hk _ => f66 _ (by omega), fun _ _ => a 94 _ rfl⟩

theorem w2287 : Cond.code yX12_arounds cX12_arounds 7 (some .int) ∈ GW := gw_mem 2287 (by decide +kernel) rfl
theorem w2284 : Cond.methodLink RX12 523 yX12_arounds ∈ GW := gw_mem 2284 (by decide +kernel) rfl
theorem w2286 : Cond.instanceMethod yX12_arounds ∈ GW := gw_mem 2286 (by decide +kernel) rfl
theorem w139 : Cond.selects RX12 yX12_arounds yX12_arounds ∈ GW := gw_mem 139 (by decide +kernel) rfl
theorem hdV_yX12_arounds : yX12_arounds.cls = RX12 ∧ yX12_arounds.cls ≠ "java/lang/invoke/MethodHandle" ∧ yX12_arounds.cls ≠ "java/lang/invoke/VarHandle" ∧ (parseMethodDescriptor yX12_arounds.desc).map (fun d => d.parameters.length) = some 5 := by decide +kernel
theorem w2327 : Cond.code yX12_failings cX12_failings 11 (some .int) ∈ GW := gw_mem 2327 (by decide +kernel) rfl
theorem w2324 : Cond.methodLink RX12 526 yX12_failings ∈ GW := gw_mem 2324 (by decide +kernel) rfl
theorem w2326 : Cond.instanceMethod yX12_failings ∈ GW := gw_mem 2326 (by decide +kernel) rfl
theorem w149 : Cond.selects RX12 yX12_failings yX12_failings ∈ GW := gw_mem 149 (by decide +kernel) rfl
theorem hdV_yX12_failings : yX12_failings.cls = RX12 ∧ yX12_failings.cls ≠ "java/lang/invoke/MethodHandle" ∧ yX12_failings.cls ≠ "java/lang/invoke/VarHandle" ∧ (parseMethodDescriptor yX12_failings.desc).map (fun d => d.parameters.length) = some 3 := by decide +kernel
theorem dX12_calls_0 : decode cX12_calls 0 = .ok (.aload_n 0, 1) := by decide +kernel
theorem dX12_calls_1 : decode cX12_calls 1 = .ok (.invokevirtual 497, 3) := by decide +kernel
theorem dX12_calls_4 : decode cX12_calls 4 = .ok (.ifCond .ne 5, 3) := by decide +kernel
theorem dX12_calls_9 : decode cX12_calls 9 = .ok (.aload_n 0, 1) := by decide +kernel
theorem dX12_calls_10 : decode cX12_calls 10 = .ok (.getfield 520, 3) := by decide +kernel
theorem dX12_calls_13 : decode cX12_calls 13 = .ok (.bipush 10, 2) := by decide +kernel
theorem dX12_calls_15 : decode cX12_calls 15 = .ok (.if_icmp .ne 10, 3) := by decide +kernel
theorem dX12_calls_25 : decode cX12_calls 25 = .ok (.aload_n 0, 1) := by decide +kernel
theorem dX12_calls_26 : decode cX12_calls 26 = .ok (.getfield 170, 3) := by decide +kernel
theorem dX12_calls_29 : decode cX12_calls 29 = .ok (.iload_n 1, 1) := by decide +kernel
theorem dX12_calls_30 : decode cX12_calls 30 = .ok (.iaload, 1) := by decide +kernel
theorem dX12_calls_31 : decode cX12_calls 31 = .ok (.iconst 2, 1) := by decide +kernel
theorem dX12_calls_32 : decode cX12_calls 32 = .ok (.if_icmp .ne 10, 3) := by decide +kernel
theorem dX12_calls_42 : decode cX12_calls 42 = .ok (.aload_n 0, 1) := by decide +kernel
theorem dX12_calls_43 : decode cX12_calls 43 = .ok (.dup, 1) := by decide +kernel
theorem dX12_calls_44 : decode cX12_calls 44 = .ok (.getfield 520, 3) := by decide +kernel
theorem dX12_calls_47 : decode cX12_calls 47 = .ok (.iconst 1, 1) := by decide +kernel
theorem dX12_calls_48 : decode cX12_calls 48 = .ok (.iadd, 1) := by decide +kernel
theorem dX12_calls_49 : decode cX12_calls 49 = .ok (.putfield 520, 3) := by decide +kernel
theorem dX12_calls_52 : decode cX12_calls 52 = .ok (.aload_n 0, 1) := by decide +kernel
theorem dX12_calls_53 : decode cX12_calls 53 = .ok (.iconst 0, 1) := by decide +kernel
theorem dX12_calls_54 : decode cX12_calls 54 = .ok (.iload_n 1, 1) := by decide +kernel
theorem dX12_calls_55 : decode cX12_calls 55 = .ok (.iload_n 2, 1) := by decide +kernel
theorem dX12_calls_56 : decode cX12_calls 56 = .ok (.iload_n 3, 1) := by decide +kernel
theorem dX12_calls_57 : decode cX12_calls 57 = .ok (.iload 4, 2) := by decide +kernel
theorem dX12_calls_59 : decode cX12_calls 59 = .ok (.invokevirtual 523, 3) := by decide +kernel
theorem dX12_calls_62 : decode cX12_calls 62 = .ok (.istore 5, 2) := by decide +kernel
theorem dX12_calls_64 : decode cX12_calls 64 = .ok (.iload 5, 2) := by decide +kernel
theorem dX12_calls_66 : decode cX12_calls 66 = .ok (.iconst 1, 1) := by decide +kernel
theorem dX12_calls_67 : decode cX12_calls 67 = .ok (.if_icmp .ne 12, 3) := by decide +kernel
theorem dX12_calls_79 : decode cX12_calls 79 = .ok (.aload_n 0, 1) := by decide +kernel
theorem dX12_calls_80 : decode cX12_calls 80 = .ok (.dup, 1) := by decide +kernel
theorem dX12_calls_81 : decode cX12_calls 81 = .ok (.getfield 520, 3) := by decide +kernel
theorem dX12_calls_84 : decode cX12_calls 84 = .ok (.iconst 1, 1) := by decide +kernel
theorem dX12_calls_85 : decode cX12_calls 85 = .ok (.isub, 1) := by decide +kernel
theorem dX12_calls_86 : decode cX12_calls 86 = .ok (.putfield 520, 3) := by decide +kernel
theorem dX12_calls_89 : decode cX12_calls 89 = .ok (.iload 5, 2) := by decide +kernel
theorem dX12_calls_91 : decode cX12_calls 91 = .ok (.ireturn, 1) := by decide +kernel
theorem dX12_calls_70 : decode cX12_calls 70 = .ok (.aload_n 0, 1) := by decide +kernel
theorem dX12_calls_71 : decode cX12_calls 71 = .ok (.iload_n 1, 1) := by decide +kernel
theorem dX12_calls_72 : decode cX12_calls 72 = .ok (.iload_n 2, 1) := by decide +kernel
theorem dX12_calls_73 : decode cX12_calls 73 = .ok (.iload_n 3, 1) := by decide +kernel
theorem dX12_calls_74 : decode cX12_calls 74 = .ok (.invokevirtual 526, 3) := by decide +kernel
theorem dX12_calls_77 : decode cX12_calls 77 = .ok (.istore 5, 2) := by decide +kernel
theorem dX12_calls_35 : decode cX12_calls 35 = .ok (.aload_n 0, 1) := by decide +kernel
theorem dX12_calls_36 : decode cX12_calls 36 = .ok (.bipush 17, 2) := by decide +kernel
theorem dX12_calls_38 : decode cX12_calls 38 = .ok (.invokevirtual 484, 3) := by decide +kernel
theorem dX12_calls_41 : decode cX12_calls 41 = .ok (.ireturn, 1) := by decide +kernel
theorem dX12_calls_18 : decode cX12_calls 18 = .ok (.aload_n 0, 1) := by decide +kernel
theorem dX12_calls_19 : decode cX12_calls 19 = .ok (.bipush 13, 2) := by decide +kernel
theorem dX12_calls_21 : decode cX12_calls 21 = .ok (.invokevirtual 484, 3) := by decide +kernel
theorem dX12_calls_24 : decode cX12_calls 24 = .ok (.ireturn, 1) := by decide +kernel
theorem dX12_calls_7 : decode cX12_calls 7 = .ok (.iconst 2, 1) := by decide +kernel
theorem dX12_calls_8 : decode cX12_calls 8 = .ok (.ireturn, 1) := by decide +kernel
abbrev q_s_calls (D : va_G) (ks : KS) (ad : Nat → Nat) (kk : Nat → ClassId) (V : Vf) (L : Lf) (p0 : Int32) (p1 : Int32) (p2 : Int32) (p3 : Int32) (A : Nat → Prop) : Array Value → State → Outcome → State → Prop := va_Qi (fun (r : Int32) (u : Vf × Lf) => rgd bM u.1 ∧ agr [(0, 60), (0, 65), (0, 68), (0, 69), (0, 73), (0, 76), (0, 90), (0, 91), (0, 92), (0, 93), (0, 95), (0, 96), (0, 98)] [59, 61, 62, 63, 64, 66, 67, 74, 75, 77, 78, 79, 80, 94, 97] V u.1 ∧ u.2 = L ∧ (0 ≤ r.toInt ∧ r.toInt ≤ 2) ∧ ((u.1 0 93).toInt = (V 0 93).toInt) ∧ ((u.1 0 98).toInt = (V 0 98).toInt) ∧ ((V 0 60).toInt ≤ (u.1 0 60).toInt) ∧ ((V 0 65).toInt ≤ (u.1 0 65).toInt) ∧ ((u.1 0 65).toInt - (V 0 65).toInt ≤ (u.1 0 60).toInt - (V 0 60).toInt) ∧ ((u.1 0 73).toInt + (u.1 0 95).toInt - (u.1 0 65).toInt ≤ (V 0 73).toInt + (V 0 95).toInt - (V 0 65).toInt) ∧ ((V 0 73).toInt ≤ (u.1 0 73).toInt) ∧ ((V 0 69).toInt ≤ (u.1 0 69).toInt) ∧ ((u.1 0 95).toInt = (V 0 95).toInt) ∧ ((u.1 0 76).toInt - (u.1 0 69).toInt - (u.1 0 73).toInt ≤ (V 0 76).toInt - (V 0 69).toInt - (V 0 73).toInt) ∧ (RT u.1) ∧ (FRM V u.1 (-1))) (fun u t => gq D A (mw ad kk ks.1 u.1 u.2) (mty kk) t) A
def K_s_calls (l : Launch) (D : va_G) (ks : KS) (d1 d2 : Nat) : Prop := ∀ (sz : Nat) (ad : Nat → Nat) (kk : Nat → ClassId) (V : Vf) (L : Lf) (p0 : Int32) (p1 : Int32) (p2 : Int32) (p3 : Int32) (hMV : rgd bM V) (rg_p0 : 0 ≤ p0.toInt ∧ p0.toInt ≤ 299) (rg_p1 : 0 ≤ p1.toInt ∧ p1.toInt ≤ 19) (rg_p2 : 0 ≤ p2.toInt ∧ p2.toInt ≤ 39) (rt : RT V) (n1 : (V 0 65).toInt ≤ (V 0 60).toInt) (n2 : (V 0 95).toInt ≤ (V 0 65).toInt) (n3 : (V 0 73).toInt + (V 0 95).toInt - (V 0 65).toInt ≤ 999000) (n4 : (V 0 76).toInt - (V 0 69).toInt - (V 0 73).toInt ≤ 1000000000) (n5 : 300 - (V 0 60).toInt ≤ (d1 : Int)) (n6 : 10 - (V 0 93).toInt ≤ (d2 : Int)) (oq1 : p0.toInt < (V 0 60).toInt) (n7 : (V 0 98).toInt + 400 * (d2 : Int) ≤ 19000) , Met l yX12_calls (Cond.code yX12_calls cX12_calls 6 (some .int) :: GW) (rK2 (4 * d1 + 40 * d2 + 8) (100 * d1 + 1000 * d2 + 320)) (va_Pc [.ref (ad 0), .int p0, .int p1, .int p2, .int p3] (gp D ks (mw ad kk ks.1 V L) (mty kk) sz)) (q_s_calls D ks ad kk V L p0 p1 p2 p3 (va_A (mw ad kk ks.1 V L) sz)) 0 0 (va_A (mw ad kk ks.1 V L) sz)
abbrev q_s_arounds (D : va_G) (ks : KS) (ad : Nat → Nat) (kk : Nat → ClassId) (V : Vf) (L : Lf) (p0 : Int32) (p1 : Int32) (p2 : Int32) (p3 : Int32) (p4 : Int32) (A : Nat → Prop) : Array Value → State → Outcome → State → Prop := va_Qi (fun (r : Int32) (u : Vf × Lf) => rgd bM u.1 ∧ agr [(0, 60), (0, 65), (0, 68), (0, 69), (0, 73), (0, 76), (0, 90), (0, 91), (0, 92), (0, 93), (0, 95), (0, 96), (0, 98)] [59, 61, 62, 63, 64, 66, 67, 74, 75, 77, 78, 79, 80, 94, 97] V u.1 ∧ u.2 = L ∧ (0 ≤ r.toInt ∧ r.toInt ≤ 2) ∧ ((u.1 0 93).toInt = (V 0 93).toInt) ∧ ((u.1 0 98).toInt = (V 0 98).toInt) ∧ ((V 0 60).toInt ≤ (u.1 0 60).toInt) ∧ ((V 0 65).toInt ≤ (u.1 0 65).toInt) ∧ ((u.1 0 65).toInt - (V 0 65).toInt ≤ (u.1 0 60).toInt - (V 0 60).toInt) ∧ ((u.1 0 73).toInt + (u.1 0 95).toInt - (u.1 0 65).toInt ≤ (V 0 73).toInt + (V 0 95).toInt - (V 0 65).toInt) ∧ ((V 0 73).toInt ≤ (u.1 0 73).toInt) ∧ ((V 0 69).toInt ≤ (u.1 0 69).toInt) ∧ ((u.1 0 95).toInt = (V 0 95).toInt) ∧ ((u.1 0 76).toInt - (u.1 0 69).toInt - (u.1 0 73).toInt ≤ (V 0 76).toInt - (V 0 69).toInt - (V 0 73).toInt + 1) ∧ (Imp (r.toInt ≠ 2) ((u.1 0 76).toInt - (u.1 0 69).toInt - (u.1 0 73).toInt ≤ (V 0 76).toInt - (V 0 69).toInt - (V 0 73).toInt)) ∧ (RT u.1) ∧ (FRM V u.1 (-1))) (fun u t => gq D A (mw ad kk ks.1 u.1 u.2) (mty kk) t) A
def K_s_arounds (l : Launch) (D : va_G) (ks : KS) (d1 d2 d3 : Nat) : Prop := ∀ (sz : Nat) (ad : Nat → Nat) (kk : Nat → ClassId) (V : Vf) (L : Lf) (p0 : Int32) (p1 : Int32) (p2 : Int32) (p3 : Int32) (p4 : Int32) (hMV : rgd bM V) (rg_p0 : 0 ≤ p0.toInt ∧ p0.toInt ≤ 12) (rg_p1 : 0 ≤ p1.toInt ∧ p1.toInt ≤ 299) (rg_p2 : 0 ≤ p2.toInt ∧ p2.toInt ≤ 19) (rg_p3 : 0 ≤ p3.toInt ∧ p3.toInt ≤ 39) (rt : RT V) (n1 : (V 0 65).toInt ≤ (V 0 60).toInt) (n2 : (V 0 95).toInt ≤ (V 0 65).toInt) (n3 : (V 0 73).toInt + (V 0 95).toInt - (V 0 65).toInt ≤ 999000) (n4 : (V 0 76).toInt - (V 0 69).toInt - (V 0 73).toInt ≤ 1000000000) (n5 : 300 - (V 0 60).toInt ≤ (d1 : Int)) (n6 : 10 - (V 0 93).toInt ≤ (d2 : Int)) (oq1 : p1.toInt < (V 0 60).toInt) (n7 : (V 0 98).toInt + 400 * (d2 : Int) + 30 * (13 - p0.toInt) ≤ 19000) (n8 : 12 - p0.toInt ≤ (d3 : Int)) , Met l yX12_arounds (Cond.code yX12_arounds cX12_arounds 7 (some .int) :: GW) (rK2 (4 * d1 + 40 * d2 + 14 + 2 * d3) (100 * d1 + 1000 * d2 + 560 + 60 * d3)) (va_Pc [.ref (ad 0), .int p0, .int p1, .int p2, .int p3, .int p4] (gp D ks (mw ad kk ks.1 V L) (mty kk) sz)) (q_s_arounds D ks ad kk V L p0 p1 p2 p3 p4 (va_A (mw ad kk ks.1 V L) sz)) 0 0 (va_A (mw ad kk ks.1 V L) sz)
abbrev q_s_failings (D : va_G) (ks : KS) (ad : Nat → Nat) (kk : Nat → ClassId) (V : Vf) (L : Lf) (p0 : Int32) (p1 : Int32) (p2 : Int32) (A : Nat → Prop) : Array Value → State → Outcome → State → Prop := va_Qi (fun (r : Int32) (u : Vf × Lf) => rgd bM u.1 ∧ agr [(0, 60), (0, 65), (0, 68), (0, 69), (0, 73), (0, 76), (0, 90), (0, 91), (0, 92), (0, 93), (0, 95), (0, 96), (0, 98)] [59, 61, 62, 63, 64, 66, 67, 74, 75, 77, 78, 79, 80, 94, 97] V u.1 ∧ u.2 = L ∧ (0 ≤ r.toInt ∧ r.toInt ≤ 2) ∧ ((u.1 0 93).toInt = (V 0 93).toInt) ∧ ((u.1 0 98).toInt = (V 0 98).toInt) ∧ ((V 0 60).toInt ≤ (u.1 0 60).toInt) ∧ ((V 0 65).toInt ≤ (u.1 0 65).toInt) ∧ ((u.1 0 65).toInt - (V 0 65).toInt ≤ (u.1 0 60).toInt - (V 0 60).toInt) ∧ ((u.1 0 73).toInt + (u.1 0 95).toInt - (u.1 0 65).toInt ≤ (V 0 73).toInt + (V 0 95).toInt - (V 0 65).toInt) ∧ ((V 0 73).toInt ≤ (u.1 0 73).toInt) ∧ ((V 0 69).toInt ≤ (u.1 0 69).toInt) ∧ ((u.1 0 95).toInt = (V 0 95).toInt) ∧ ((u.1 0 76).toInt - (u.1 0 69).toInt - (u.1 0 73).toInt ≤ (V 0 76).toInt - (V 0 69).toInt - (V 0 73).toInt + 1) ∧ (Imp (r.toInt ≠ 2) ((u.1 0 76).toInt - (u.1 0 69).toInt - (u.1 0 73).toInt ≤ (V 0 76).toInt - (V 0 69).toInt - (V 0 73).toInt)) ∧ (RT u.1) ∧ (FRM V u.1 (-1))) (fun u t => gq D A (mw ad kk ks.1 u.1 u.2) (mty kk) t) A
def K_s_failings (l : Launch) (D : va_G) (ks : KS) (d1 d2 : Nat) : Prop := ∀ (sz : Nat) (ad : Nat → Nat) (kk : Nat → ClassId) (V : Vf) (L : Lf) (p0 : Int32) (p1 : Int32) (p2 : Int32) (hMV : rgd bM V) (rg_p0 : 0 ≤ p0.toInt ∧ p0.toInt ≤ 299) (rg_p1 : 0 ≤ p1.toInt ∧ p1.toInt ≤ 19) (rg_p2 : 0 ≤ p2.toInt ∧ p2.toInt ≤ 39) (rt : RT V) (n1 : (V 0 65).toInt ≤ (V 0 60).toInt) (n2 : (V 0 95).toInt ≤ (V 0 65).toInt) (n3 : (V 0 73).toInt + (V 0 95).toInt - (V 0 65).toInt ≤ 999000) (n4 : (V 0 76).toInt - (V 0 69).toInt - (V 0 73).toInt ≤ 1000000000) (n5 : 300 - (V 0 60).toInt ≤ (d1 : Int)) (n6 : 10 - (V 0 93).toInt ≤ (d2 : Int)) (oq1 : p0.toInt < (V 0 60).toInt) (n7 : (V 0 98).toInt + 400 * (d2 : Int) + 30 ≤ 19000) , Met l yX12_failings (Cond.code yX12_failings cX12_failings 11 (some .int) :: GW) (rK2 (4 * d1 + 40 * d2 + 13) (100 * d1 + 1000 * d2 + 500)) (va_Pc [.ref (ad 0), .int p0, .int p1, .int p2] (gp D ks (mw ad kk ks.1 V L) (mty kk) sz)) (q_s_failings D ks ad kk V L p0 p1 p2 (va_A (mw ad kk ks.1 V L) sz)) 0 0 (va_A (mw ad kk ks.1 V L) sz)
set_option maxHeartbeats 4000000 in
set_option maxRecDepth 100000 in
theorem s_calls {l : Launch} {D : va_G} {ks : KS} {d1 d2 : Nat} (hk_s_arounds : ∀ d9, d2 = d9 + 1 → K_s_arounds l D ks d1 d9 12) (hk_s_failings : ∀ d9, d2 = d9 + 1 → K_s_failings l D ks d1 d9) : K_s_calls l D ks d1 d2 := by
  intro sz ad kk V L p0 p1 p2 p3 hMV rg_p0 rg_p1 rg_p2 rt n1 n2 n3 n4 n5 n6 oq1 n7
  refine g_met (q_s_calls D ks ad kk V L p0 p1 p2 p3) (by decide) (Nat.le_of_ble_eq_true rfl) ?_
  intro p e s m below meth c A ls H locs hx hb hr hml hown hg hlocks hin hnw hgk hP hK hD hS hA hl
  have hown : s.vm.findClass RX12 = some m.cls := hown
  have hl : lv_has ls 6 [(0, .ref (ad 0)), (1, .int p0), (2, .int p1), (3, .int p2), (4, .int p3)] := hl
  have hP : va_P D vwCl (mw ad kk ks.1 V L) H := hP
  have hD : va_D A (mw ad kk ks.1 V L) := hD
  have hK : va_K D vwCl (mty kk) s := hK
  have agV : agr [(0, 60), (0, 65), (0, 68), (0, 69), (0, 73), (0, 76), (0, 90), (0, 91), (0, 92), (0, 93), (0, 95), (0, 96), (0, 98)] [59, 61, 62, 63, 64, 66, 67, 74, 75, 77, 78, 79, 80, 94, 97] V V := agr.rf
  have r1 : 0 ≤ ((V 0 65)).toInt ∧ ((V 0 65)).toInt ≤ 1000000 := hMV 0 65
  have r2 : 0 ≤ ((V 0 60)).toInt ∧ ((V 0 60)).toInt ≤ 300 := hMV 0 60
  have r3 : 0 ≤ ((V 0 95)).toInt ∧ ((V 0 95)).toInt ≤ 300 := hMV 0 95
  have r4 : 0 ≤ ((V 0 73)).toInt ∧ ((V 0 73)).toInt ≤ 1000000 := hMV 0 73
  have r5 : 0 ≤ ((V 0 76)).toInt ∧ ((V 0 76)).toInt ≤ 2000000000 := hMV 0 76
  have r6 : 0 ≤ ((V 0 69)).toInt ∧ ((V 0 69)).toInt ≤ 3000 := hMV 0 69
  have r7 : 0 ≤ ((V 0 93)).toInt ∧ ((V 0 93)).toInt ≤ 10 := hMV 0 93
  have r8 : 0 ≤ ((V 0 98)).toInt ∧ ((V 0 98)).toInt ≤ 20000 := hMV 0 98
  refine lv_aload_n hx hb dX12_calls_0 rfl (lv_at hl 0 rfl) ?_
  refine gA_int (gA_runV (As := []) (rest := []) (ci := 12) (q0 := 0) hx hb hml hown hg hP hD hK hS hA hnw hgk (s_step2 l D ks H.size ad kk V L  hMV ) w2263 w2265 w134 w172 w2266 rfl rfl hdV_yX12_step ⟨(by show (0) + 1 ≤ (4 * d1 + 40 * d2 + 8); omega), (by show 8 + (1 + 11) + (0) ≤ (100 * d1 + 1000 * d2 + 320); omega)⟩ rfl hl.1 rfl (Nat.le_of_ble_eq_true rfl) dX12_calls_1 ⟨Nat.le_of_ble_eq_true rfl, Nat.le_of_ble_eq_true rfl⟩) hP hD hK hS hA (fun z9 u10 H locs w11 hP hD hK hS => ?_)
  obtain ⟨V14, L15⟩ := u10
  obtain ⟨hMV14, ajV14, axL15, rgz9, t12, t13⟩ := w11
  have axL15 : L = L15 := Eq.symm axL15
  subst axL15
  have hP : va_P D vwCl (mw ad kk ks.1 V14 L) H := hP
  have hD : va_D A (mw ad kk ks.1 V14 L) := hD
  have hMV14 : rgd bM V14 := hMV14
  have ajV14 : agr [(0, 68), (0, 69)] [] V V14 := ajV14
  have agV14 : agr [(0, 60), (0, 65), (0, 68), (0, 69), (0, 73), (0, 76), (0, 90), (0, 91), (0, 92), (0, 93), (0, 95), (0, 96), (0, 98)] [59, 61, 62, 63, 64, 66, 67, 74, 75, 77, 78, 79, 80, 94, 97] V V14 := agV.tr ajV14 (by decide) (by decide)
  have rgz9 : 0 ≤ z9.toInt ∧ z9.toInt ≤ 1 := rgz9
  have t12 : Imp (z9.toInt = 1) ((V14 0 69).toInt = (V 0 69).toInt + 1 ∧ (V14 0 68).toInt = (V 0 68).toInt + 1) := t12
  have t13 : Imp (z9.toInt = 0) ((V14 0 69).toInt = (V 0 69).toInt ∧ (V14 0 68).toInt = (V 0 68).toInt) := t13
  have r16 : 0 ≤ ((V 0 68)).toInt ∧ ((V 0 68)).toInt ≤ 60000 := hMV 0 68
  have r17 : 0 ≤ ((V14 0 69)).toInt ∧ ((V14 0 69)).toInt ≤ 3000 := hMV14 0 69
  have r18 : 0 ≤ ((V14 0 68)).toInt ∧ ((V14 0 68)).toInt ≤ 60000 := hMV14 0 68
  refine lv_if_ne (tgt := 9) hx hb dX12_calls_4 (by decide) (fun c19 => ?_) (fun c19 => ?_)
  · skip
    have f20 : z9.toInt ≠ 0 := b_neq rfl (by decide) c19
    refine lv_aload_n hx hb dX12_calls_9 rfl (lv_at hl 0 rfl) ?_
    refine va_get (D := D) (ci := 12) (v := .int (V14 0 93)) (C := RX12) (T := TX12) (N := 100) hx hb hg inX12 hown hK hP 0 rfl rfl 93 (by decide) (hg _ w1803) (fun _ h9 => h9) rfl dX12_calls_10 ?_
    refine g_top (v := (V 0 93)) (ajV14 0 93 rfl) ?_
    refine lv_bipush (v := 10) hx hb dX12_calls_13 (by decide) ?_
    refine lv_icmp_ne (tgt := 25) hx hb dX12_calls_15 (by decide) (fun c21 => ?_) (fun c21 => ?_)
    · skip
      have f22 : ((V 0 93)).toInt ≠ 10 := b_neq rfl (by decide) c21
      refine lv_aload_n hx hb dX12_calls_25 rfl (lv_at hl 0 rfl) ?_
      refine va_get (D := D) (ci := 12) (v := .ref (ad 63)) (C := RX12) (T := TX12) (N := 100) hx hb hg inX12 hown hK hP 0 rfl rfl 63 (by decide) (hg _ w1773) (fun _ h9 => h9) rfl dX12_calls_26 ?_
      refine lv_iload_n hx hb dX12_calls_29 rfl (lv_at hl 1 rfl) ?_
      refine va_iald (D := D) (i := p0) hx hb hK hP 48 47 rfl rfl (i_in (a := p0.toInt) rfl (by first | omega | ((try (have i_t13 := Imp.go t13 (by omega))); (try (have i_t12 := Imp.go t12 (by omega))); (try (have i_rt := Imp.go rt (by omega))); (try (have i_rt := Imp.go rt (by omega))); (try (have i_t12 := Imp.go t12 (by omega))); (try (have i_t13 := Imp.go t13 (by omega))); omega))) dX12_calls_30 ?_
      refine g_top (v := (V 63 (Int32.toNatClampNeg p0))) (ajV14 63 (Int32.toNatClampNeg p0) rfl) ?_
      have r23 : 0 ≤ ((V 63 (Int32.toNatClampNeg p0))).toInt ∧ ((V 63 (Int32.toNatClampNeg p0))).toInt ≤ 2 := hMV 63 (Int32.toNatClampNeg p0)
      refine lv_iconst (v := 2) hx hb dX12_calls_31 (by decide) ?_
      refine lv_icmp_ne (tgt := 42) hx hb dX12_calls_32 (by decide) (fun c24 => ?_) (fun c24 => ?_)
      · skip
        have f25 : ((V 63 (Int32.toNatClampNeg p0))).toInt ≠ 2 := b_neq rfl (by decide) c24
        refine lv_aload_n hx hb dX12_calls_42 rfl (lv_at hl 0 rfl) ?_
        refine lv_dup hx hb dX12_calls_43 rfl ?_
        refine va_get (D := D) (ci := 12) (v := .int (V14 0 93)) (C := RX12) (T := TX12) (N := 100) hx hb hg inX12 hown hK hP 0 rfl rfl 93 (by decide) (hg _ w1803) (fun _ h9 => h9) rfl dX12_calls_44 ?_
        refine g_top (v := (V 0 93)) (ajV14 0 93 rfl) ?_
        refine lv_iconst (v := 1) hx hb dX12_calls_47 (by decide) ?_
        refine lv_iadd hx hb dX12_calls_48 ?_
        refine lv_topi (fun z26 ez26 => ?_)
        have hz26 : z26.toInt = ((V 0 93)).toInt + 1 := i_add ez26 rfl (by decide) (by omega)
        refine va_put (D := D) (ci := 12) (v := .int z26) (ty := tyX12 93) (C := RX12) (T := TX12) (N := 100) hx hb hg inX12 tyX12 tyX12_ok nmX12 hown hK hP hD hS 0 rfl rfl 93 (by decide) (hg _ w1803) (fun _ h9 => h9) rfl (tyX12_ok 93 (by decide)) rfl rfl (Nat.le_of_ble_eq_true rfl) dX12_calls_49 (fun H locs hP hD hS => ?_)
        obtain ⟨V27, hV27⟩ : ∃ z, z = up2 V14 0 93 z26 := ⟨_, rfl⟩
        have hP : va_P D vwCl (mw ad kk ks.1 V27 L) H := by rw [hV27]; exact hP
        have hD : va_D A (mw ad kk ks.1 V27 L) := by rw [hV27]; exact hD
        have hMV27 : rgd bM V27 := hMV14.put hV27 (show 0 ≤ z26.toInt ∧ z26.toInt ≤ 10 from by first | omega | ((try (have i_t13 := Imp.go t13 (by omega))); (try (have i_t12 := Imp.go t12 (by omega))); (try (have i_rt := Imp.go rt (by omega))); (try (have i_rt := Imp.go rt (by omega))); (try (have i_t12 := Imp.go t12 (by omega))); (try (have i_t13 := Imp.go t13 (by omega))); omega))
        have agV27 : agr [(0, 60), (0, 65), (0, 68), (0, 69), (0, 73), (0, 76), (0, 90), (0, 91), (0, 92), (0, 93), (0, 95), (0, 96), (0, 98)] [59, 61, 62, 63, 64, 66, 67, 74, 75, 77, 78, 79, 80, 94, 97] V V27 := agV14.up hV27 rfl
        obtain ⟨d9, rfl⟩ : ∃ d9, d2 = d9 + 1 := ⟨d2 - 1, by omega⟩
        refine lv_aload_n hx hb dX12_calls_52 rfl (lv_at hl 0 rfl) ?_
        refine lv_iconst (v := 0) hx hb dX12_calls_53 (by decide) ?_
        refine lv_iload_n hx hb dX12_calls_54 rfl (lv_at hl 1 rfl) ?_
        refine lv_iload_n hx hb dX12_calls_55 rfl (lv_at hl 2 rfl) ?_
        refine lv_iload_n hx hb dX12_calls_56 rfl (lv_at hl 3 rfl) ?_
        refine lv_iload hx hb dX12_calls_57 (lv_at hl 4 rfl) ?_
        have r28 : Int32.toInt 0 = 0 := by decide
        have pq29 : (V27 0 65).toInt = ((V 0 65)).toInt := congrArg Int32.toInt ((up2_k hV27 (by decide)).trans (ajV14 0 65 rfl))
        have pq30 : (V27 0 60).toInt = ((V 0 60)).toInt := congrArg Int32.toInt ((up2_k hV27 (by decide)).trans (ajV14 0 60 rfl))
        have pq31 : (V27 0 95).toInt = ((V 0 95)).toInt := congrArg Int32.toInt ((up2_k hV27 (by decide)).trans (ajV14 0 95 rfl))
        have pq32 : (V27 0 73).toInt = ((V 0 73)).toInt := congrArg Int32.toInt ((up2_k hV27 (by decide)).trans (ajV14 0 73 rfl))
        have pq33 : (V27 0 76).toInt = ((V 0 76)).toInt := congrArg Int32.toInt ((up2_k hV27 (by decide)).trans (ajV14 0 76 rfl))
        have pq34 : (V27 0 69).toInt = ((V14 0 69)).toInt := congrArg Int32.toInt (up2_k hV27 (by decide))
        have pq35 : (V27 0 93).toInt = z26.toInt := congrArg Int32.toInt (up2_s hV27)
        have pq36 : (V27 0 98).toInt = ((V 0 98)).toInt := congrArg Int32.toInt ((up2_k hV27 (by decide)).trans (ajV14 0 98 rfl))
        have rt37 : RT V27 := RT.ag rt hMV (show agr [(0, 68), (0, 69), (0, 93)] [] V V27 from (agr.up (agr.tr agr.rf ajV14 (by decide) (by decide)) hV27 rfl)) ⟨⟨rfl, fun _ => rfl, fun _ => rfl, fun _ => rfl, fun _ => rfl, fun _ => rfl, fun _ => rfl⟩, by decide, by decide, rfl, rfl, fun _ => rfl, fun _ => rfl, fun _ => rfl, fun _ => rfl, fun _ => rfl, fun _ => rfl⟩ (c0k.ag (show agr [(0, 68), (0, 69), (0, 93)] [] V V27 from (agr.up (agr.tr agr.rf ajV14 (by decide) (by decide)) hV27 rfl)) rfl)
        refine gA_int (gA_runV (As := [.int 0, .int p0, .int p1, .int p2, .int p3]) (rest := []) (ci := 12) (q0 := 0) hx hb hml hown hg hP hD hK hS hA hnw hgk ((hk_s_arounds d9 rfl) H.size ad kk V27 L 0 p0 p1 p2 p3 hMV27 (by decide) (by first | omega | ((try (have i_t13 := Imp.go t13 (by omega))); (try (have i_t12 := Imp.go t12 (by omega))); (try (have i_rt := Imp.go rt (by omega))); (try (have i_rt := Imp.go rt (by omega))); (try (have i_t12 := Imp.go t12 (by omega))); (try (have i_t13 := Imp.go t13 (by omega))); omega)) (by first | omega | ((try (have i_t13 := Imp.go t13 (by omega))); (try (have i_t12 := Imp.go t12 (by omega))); (try (have i_rt := Imp.go rt (by omega))); (try (have i_rt := Imp.go rt (by omega))); (try (have i_t12 := Imp.go t12 (by omega))); (try (have i_t13 := Imp.go t13 (by omega))); omega)) (by first | omega | ((try (have i_t13 := Imp.go t13 (by omega))); (try (have i_t12 := Imp.go t12 (by omega))); (try (have i_rt := Imp.go rt (by omega))); (try (have i_rt := Imp.go rt (by omega))); (try (have i_t12 := Imp.go t12 (by omega))); (try (have i_t13 := Imp.go t13 (by omega))); omega)) rt37 (show (V27 0 65).toInt ≤ (V27 0 60).toInt from by first | omega | ((try (have i_t13 := Imp.go t13 (by omega))); (try (have i_t12 := Imp.go t12 (by omega))); (try (have i_rt := Imp.go rt (by omega))); (try (have i_rt := Imp.go rt (by omega))); (try (have i_t12 := Imp.go t12 (by omega))); (try (have i_t13 := Imp.go t13 (by omega))); omega)) (show (V27 0 95).toInt ≤ (V27 0 65).toInt from by first | omega | ((try (have i_t13 := Imp.go t13 (by omega))); (try (have i_t12 := Imp.go t12 (by omega))); (try (have i_rt := Imp.go rt (by omega))); (try (have i_rt := Imp.go rt (by omega))); (try (have i_t12 := Imp.go t12 (by omega))); (try (have i_t13 := Imp.go t13 (by omega))); omega)) (show (V27 0 73).toInt + (V27 0 95).toInt - (V27 0 65).toInt ≤ 999000 from by first | omega | ((try (have i_t13 := Imp.go t13 (by omega))); (try (have i_t12 := Imp.go t12 (by omega))); (try (have i_rt := Imp.go rt (by omega))); (try (have i_rt := Imp.go rt (by omega))); (try (have i_t12 := Imp.go t12 (by omega))); (try (have i_t13 := Imp.go t13 (by omega))); omega)) (show (V27 0 76).toInt - (V27 0 69).toInt - (V27 0 73).toInt ≤ 1000000000 from by first | omega | ((try (have i_t13 := Imp.go t13 (by omega))); (try (have i_t12 := Imp.go t12 (by omega))); (try (have i_rt := Imp.go rt (by omega))); (try (have i_rt := Imp.go rt (by omega))); (try (have i_t12 := Imp.go t12 (by omega))); (try (have i_t13 := Imp.go t13 (by omega))); omega)) (show 300 - (V27 0 60).toInt ≤ ((d1 : Nat) : Int) from by first | omega | ((try (have i_t13 := Imp.go t13 (by omega))); (try (have i_t12 := Imp.go t12 (by omega))); (try (have i_rt := Imp.go rt (by omega))); (try (have i_rt := Imp.go rt (by omega))); (try (have i_t12 := Imp.go t12 (by omega))); (try (have i_t13 := Imp.go t13 (by omega))); omega)) (show 10 - (V27 0 93).toInt ≤ ((d9 : Nat) : Int) from by first | omega | ((try (have i_t13 := Imp.go t13 (by omega))); (try (have i_t12 := Imp.go t12 (by omega))); (try (have i_rt := Imp.go rt (by omega))); (try (have i_rt := Imp.go rt (by omega))); (try (have i_t12 := Imp.go t12 (by omega))); (try (have i_t13 := Imp.go t13 (by omega))); omega)) (show p0.toInt < (V27 0 60).toInt from by first | omega | ((try (have i_t13 := Imp.go t13 (by omega))); (try (have i_t12 := Imp.go t12 (by omega))); (try (have i_rt := Imp.go rt (by omega))); (try (have i_rt := Imp.go rt (by omega))); (try (have i_t12 := Imp.go t12 (by omega))); (try (have i_t13 := Imp.go t13 (by omega))); omega)) (show (V27 0 98).toInt + 400 * ((d9 : Nat) : Int) + 30 * (13 - (Int32.toInt 0)) ≤ 19000 from by first | omega | ((try (have i_t13 := Imp.go t13 (by omega))); (try (have i_t12 := Imp.go t12 (by omega))); (try (have i_rt := Imp.go rt (by omega))); (try (have i_rt := Imp.go rt (by omega))); (try (have i_t12 := Imp.go t12 (by omega))); (try (have i_t13 := Imp.go t13 (by omega))); omega)) (show 12 - (Int32.toInt 0) ≤ ((12 : Nat) : Int) from by first | omega | ((try (have i_t13 := Imp.go t13 (by omega))); (try (have i_t12 := Imp.go t12 (by omega))); (try (have i_rt := Imp.go rt (by omega))); (try (have i_rt := Imp.go rt (by omega))); (try (have i_t12 := Imp.go t12 (by omega))); (try (have i_t13 := Imp.go t13 (by omega))); omega))) w2284 w2286 w139 w172 w2287 rfl rfl hdV_yX12_arounds ⟨(by show (4 * (d1) + 40 * (d9) + 14 + 2 * (12)) + 1 ≤ (4 * d1 + 40 * (d9 + 1) + 8); omega), (by show 8 + (7 + 11) + (100 * (d1) + 1000 * (d9) + 560 + 60 * (12)) ≤ (100 * d1 + 1000 * (d9 + 1) + 320); omega)⟩ rfl hl.1 rfl (Nat.le_of_ble_eq_true rfl) dX12_calls_59 ⟨Nat.le_of_ble_eq_true rfl, Nat.le_of_ble_eq_true rfl⟩) hP hD hK hS hA (fun z38 u39 H locs w40 hP hD hK hS => ?_)
        obtain ⟨V54, L55⟩ := u39
        obtain ⟨hMV54, ajV54, axL55, rgz38, t41, t42, t43, t44, t45, t46, t47, t48, t49, t50, t51, t52, t53⟩ := w40
        have axL55 : L = L55 := Eq.symm axL55
        subst axL55
        have hP : va_P D vwCl (mw ad kk ks.1 V54 L) H := hP
        have hD : va_D A (mw ad kk ks.1 V54 L) := hD
        have hMV54 : rgd bM V54 := hMV54
        have ajV54 : agr [(0, 60), (0, 65), (0, 68), (0, 69), (0, 73), (0, 76), (0, 90), (0, 91), (0, 92), (0, 93), (0, 95), (0, 96), (0, 98)] [59, 61, 62, 63, 64, 66, 67, 74, 75, 77, 78, 79, 80, 94, 97] V27 V54 := ajV54
        have agV54 : agr [(0, 60), (0, 65), (0, 68), (0, 69), (0, 73), (0, 76), (0, 90), (0, 91), (0, 92), (0, 93), (0, 95), (0, 96), (0, 98)] [59, 61, 62, 63, 64, 66, 67, 74, 75, 77, 78, 79, 80, 94, 97] V V54 := agV27.tr ajV54 (by decide) (by decide)
        have rgz38 : 0 ≤ z38.toInt ∧ z38.toInt ≤ 2 := rgz38
        have t41 : (V54 0 93).toInt = (V27 0 93).toInt := t41
        have t42 : (V54 0 98).toInt = (V27 0 98).toInt := t42
        have t43 : (V27 0 60).toInt ≤ (V54 0 60).toInt := t43
        have t44 : (V27 0 65).toInt ≤ (V54 0 65).toInt := t44
        have t45 : (V54 0 65).toInt - (V27 0 65).toInt ≤ (V54 0 60).toInt - (V27 0 60).toInt := t45
        have t46 : (V54 0 73).toInt + (V54 0 95).toInt - (V54 0 65).toInt ≤ (V27 0 73).toInt + (V27 0 95).toInt - (V27 0 65).toInt := t46
        have t47 : (V27 0 73).toInt ≤ (V54 0 73).toInt := t47
        have t48 : (V27 0 69).toInt ≤ (V54 0 69).toInt := t48
        have t49 : (V54 0 95).toInt = (V27 0 95).toInt := t49
        have t50 : (V54 0 76).toInt - (V54 0 69).toInt - (V54 0 73).toInt ≤ (V27 0 76).toInt - (V27 0 69).toInt - (V27 0 73).toInt + 1 := t50
        have t51 : Imp (z38.toInt ≠ 2) ((V54 0 76).toInt - (V54 0 69).toInt - (V54 0 73).toInt ≤ (V27 0 76).toInt - (V27 0 69).toInt - (V27 0 73).toInt) := t51
        have t52 : RT V54 := t52
        have t53 : FRM V27 V54 (-1) := t53
        have r56 : 0 ≤ ((V54 0 93)).toInt ∧ ((V54 0 93)).toInt ≤ 10 := hMV54 0 93
        have r57 : 0 ≤ ((V54 0 98)).toInt ∧ ((V54 0 98)).toInt ≤ 20000 := hMV54 0 98
        have r58 : 0 ≤ ((V54 0 60)).toInt ∧ ((V54 0 60)).toInt ≤ 300 := hMV54 0 60
        have r59 : 0 ≤ ((V54 0 65)).toInt ∧ ((V54 0 65)).toInt ≤ 1000000 := hMV54 0 65
        have r60 : 0 ≤ ((V54 0 73)).toInt ∧ ((V54 0 73)).toInt ≤ 1000000 := hMV54 0 73
        have r61 : 0 ≤ ((V54 0 95)).toInt ∧ ((V54 0 95)).toInt ≤ 300 := hMV54 0 95
        have r62 : 0 ≤ ((V54 0 69)).toInt ∧ ((V54 0 69)).toInt ≤ 3000 := hMV54 0 69
        have r63 : 0 ≤ ((V54 0 76)).toInt ∧ ((V54 0 76)).toInt ≤ 2000000000 := hMV54 0 76
        refine lv_istore (lv' := [(5, .int z38), (0, .ref (ad 0)), (1, .int p0), (2, .int p1), (3, .int p2), (4, .int p3)]) hx hb dX12_calls_62 hl (by decide) rfl (fun ls hl => ?_)
        refine lv_iload hx hb dX12_calls_64 (lv_at hl 0 rfl) ?_
        refine lv_iconst (v := 1) hx hb dX12_calls_66 (by decide) ?_
        refine lv_icmp_ne (tgt := 79) hx hb dX12_calls_67 (by decide) (fun c64 => ?_) (fun c64 => ?_)
        · skip
          have f65 : z38.toInt ≠ 1 := b_neq rfl (by decide) c64
          refine lv_aload_n hx hb dX12_calls_79 rfl (lv_at hl 1 rfl) ?_
          refine lv_dup hx hb dX12_calls_80 rfl ?_
          refine va_get (D := D) (ci := 12) (v := .int (V54 0 93)) (C := RX12) (T := TX12) (N := 100) hx hb hg inX12 hown hK hP 0 rfl rfl 93 (by decide) (hg _ w1803) (fun _ h9 => h9) rfl dX12_calls_81 ?_
          refine lv_iconst (v := 1) hx hb dX12_calls_84 (by decide) ?_
          refine lv_isub hx hb dX12_calls_85 ?_
          refine lv_topi (fun z66 ez66 => ?_)
          have hz66 : z66.toInt = ((V54 0 93)).toInt - 1 := i_sub ez66 rfl (by decide) (by omega)
          refine va_put (D := D) (ci := 12) (v := .int z66) (ty := tyX12 93) (C := RX12) (T := TX12) (N := 100) hx hb hg inX12 tyX12 tyX12_ok nmX12 hown hK hP hD hS 0 rfl rfl 93 (by decide) (hg _ w1803) (fun _ h9 => h9) rfl (tyX12_ok 93 (by decide)) rfl rfl (Nat.le_of_ble_eq_true rfl) dX12_calls_86 (fun H locs hP hD hS => ?_)
          obtain ⟨V67, hV67⟩ : ∃ z, z = up2 V54 0 93 z66 := ⟨_, rfl⟩
          have hP : va_P D vwCl (mw ad kk ks.1 V67 L) H := by rw [hV67]; exact hP
          have hD : va_D A (mw ad kk ks.1 V67 L) := by rw [hV67]; exact hD
          have hMV67 : rgd bM V67 := hMV54.put hV67 (show 0 ≤ z66.toInt ∧ z66.toInt ≤ 10 from by first | omega | ((try (have i_t51 := Imp.go t51 (by omega))); (try (have i_t13 := Imp.go t13 (by omega))); (try (have i_t12 := Imp.go t12 (by omega))); (try (have i_rt := Imp.go rt (by omega))); (try (have i_rt := Imp.go rt (by omega))); (try (have i_t12 := Imp.go t12 (by omega))); (try (have i_t13 := Imp.go t13 (by omega))); (try (have i_t51 := Imp.go t51 (by omega))); omega))
          have agV67 : agr [(0, 60), (0, 65), (0, 68), (0, 69), (0, 73), (0, 76), (0, 90), (0, 91), (0, 92), (0, 93), (0, 95), (0, 96), (0, 98)] [59, 61, 62, 63, 64, 66, 67, 74, 75, 77, 78, 79, 80, 94, 97] V V67 := agV54.up hV67 rfl
          refine lv_iload hx hb dX12_calls_89 (lv_at hl 0 rfl) ?_
          have pq68 : (V67 0 93).toInt = z66.toInt := congrArg Int32.toInt (up2_s hV67)
          have pq69 : (V67 0 98).toInt = ((V54 0 98)).toInt := congrArg Int32.toInt (up2_k hV67 (by decide))
          have pq70 : (V67 0 60).toInt = ((V54 0 60)).toInt := congrArg Int32.toInt (up2_k hV67 (by decide))
          have pq71 : (V67 0 65).toInt = ((V54 0 65)).toInt := congrArg Int32.toInt (up2_k hV67 (by decide))
          have pq72 : (V67 0 73).toInt = ((V54 0 73)).toInt := congrArg Int32.toInt (up2_k hV67 (by decide))
          have pq73 : (V67 0 95).toInt = ((V54 0 95)).toInt := congrArg Int32.toInt (up2_k hV67 (by decide))
          have pq74 : (V67 0 69).toInt = ((V54 0 69)).toInt := congrArg Int32.toInt (up2_k hV67 (by decide))
          have pq75 : (V67 0 76).toInt = ((V54 0 76)).toInt := congrArg Int32.toInt (up2_k hV67 (by decide))
          have rt76 : RT V67 := RT.ag t52 hMV54 (show agr [(0, 93)] [] V54 V67 from (agr.up agr.rf hV67 rfl)) ⟨⟨rfl, fun _ => rfl, fun _ => rfl, fun _ => rfl, fun _ => rfl, fun _ => rfl, fun _ => rfl⟩, by decide, by decide, rfl, rfl, fun _ => rfl, fun _ => rfl, fun _ => rfl, fun _ => rfl, fun _ => rfl, fun _ => rfl⟩ (c0k.ag (show agr [(0, 93)] [] V54 V67 from (agr.up agr.rf hV67 rfl)) rfl)
          have fm77 : FRM V V27 (-1) := ((FRM.ag (show agr [(0, 68), (0, 69), (0, 93)] [] V V27 from (agr.up (agr.tr agr.rf ajV14 (by decide) (by decide)) hV27 rfl)) ⟨⟨rfl, fun _ => rfl, fun _ => rfl, fun _ => rfl, fun _ => rfl, fun _ => rfl, fun _ => rfl⟩, by decide, by decide, rfl, rfl, fun _ => rfl, fun _ => rfl, fun _ => rfl, fun _ => rfl, fun _ => rfl, fun _ => rfl⟩) : FRM V V27 (-1))
          have fm78 : FRM V V54 (-1) := (FRM.tr fm77 t53 agV27 ⟨rfl, fun _ => rfl, fun _ => rfl, fun _ => rfl, fun _ => rfl, fun _ => rfl, fun _ => rfl⟩ (by omega))
          have fm79 : FRM V V67 (-1) := (FRM.tr fm78 (FRM.ag (show agr [(0, 93)] [] V54 V67 from (agr.up agr.rf hV67 rfl)) ⟨⟨rfl, fun _ => rfl, fun _ => rfl, fun _ => rfl, fun _ => rfl, fun _ => rfl, fun _ => rfl⟩, by decide, by decide, rfl, rfl, fun _ => rfl, fun _ => rfl, fun _ => rfl, fun _ => rfl, fun _ => rfl, fun _ => rfl⟩) agV54 ⟨rfl, fun _ => rfl, fun _ => rfl, fun _ => rfl, fun _ => rfl, fun _ => rfl, fun _ => rfl⟩ (by omega))
          exact W.iret (v := z38) hx hb hr (fun t ht hW => ⟨⟨z38, (V67, L), rfl, ⟨hMV67, agV67, rfl, (show 0 ≤ z38.toInt ∧ z38.toInt ≤ 2 from by first | omega | ((try (have i_t51 := Imp.go t51 (by omega))); (try (have i_t13 := Imp.go t13 (by omega))); (try (have i_t12 := Imp.go t12 (by omega))); (try (have i_rt := Imp.go rt (by omega))); (try (have i_rt := Imp.go rt (by omega))); (try (have i_t12 := Imp.go t12 (by omega))); (try (have i_t13 := Imp.go t13 (by omega))); (try (have i_t51 := Imp.go t51 (by omega))); omega)), (show (V67 0 93).toInt = (V 0 93).toInt from by first | omega | ((try (have i_t51 := Imp.go t51 (by omega))); (try (have i_t13 := Imp.go t13 (by omega))); (try (have i_t12 := Imp.go t12 (by omega))); (try (have i_rt := Imp.go rt (by omega))); (try (have i_rt := Imp.go rt (by omega))); (try (have i_t12 := Imp.go t12 (by omega))); (try (have i_t13 := Imp.go t13 (by omega))); (try (have i_t51 := Imp.go t51 (by omega))); omega)), (show (V67 0 98).toInt = (V 0 98).toInt from by first | omega | ((try (have i_t51 := Imp.go t51 (by omega))); (try (have i_t13 := Imp.go t13 (by omega))); (try (have i_t12 := Imp.go t12 (by omega))); (try (have i_rt := Imp.go rt (by omega))); (try (have i_rt := Imp.go rt (by omega))); (try (have i_t12 := Imp.go t12 (by omega))); (try (have i_t13 := Imp.go t13 (by omega))); (try (have i_t51 := Imp.go t51 (by omega))); omega)), (show (V 0 60).toInt ≤ (V67 0 60).toInt from by first | omega | ((try (have i_t51 := Imp.go t51 (by omega))); (try (have i_t13 := Imp.go t13 (by omega))); (try (have i_t12 := Imp.go t12 (by omega))); (try (have i_rt := Imp.go rt (by omega))); (try (have i_rt := Imp.go rt (by omega))); (try (have i_t12 := Imp.go t12 (by omega))); (try (have i_t13 := Imp.go t13 (by omega))); (try (have i_t51 := Imp.go t51 (by omega))); omega)), (show (V 0 65).toInt ≤ (V67 0 65).toInt from by first | omega | ((try (have i_t51 := Imp.go t51 (by omega))); (try (have i_t13 := Imp.go t13 (by omega))); (try (have i_t12 := Imp.go t12 (by omega))); (try (have i_rt := Imp.go rt (by omega))); (try (have i_rt := Imp.go rt (by omega))); (try (have i_t12 := Imp.go t12 (by omega))); (try (have i_t13 := Imp.go t13 (by omega))); (try (have i_t51 := Imp.go t51 (by omega))); omega)), (show (V67 0 65).toInt - (V 0 65).toInt ≤ (V67 0 60).toInt - (V 0 60).toInt from by first | omega | ((try (have i_t51 := Imp.go t51 (by omega))); (try (have i_t13 := Imp.go t13 (by omega))); (try (have i_t12 := Imp.go t12 (by omega))); (try (have i_rt := Imp.go rt (by omega))); (try (have i_rt := Imp.go rt (by omega))); (try (have i_t12 := Imp.go t12 (by omega))); (try (have i_t13 := Imp.go t13 (by omega))); (try (have i_t51 := Imp.go t51 (by omega))); omega)), (show (V67 0 73).toInt + (V67 0 95).toInt - (V67 0 65).toInt ≤ (V 0 73).toInt + (V 0 95).toInt - (V 0 65).toInt from by first | omega | ((try (have i_t51 := Imp.go t51 (by omega))); (try (have i_t13 := Imp.go t13 (by omega))); (try (have i_t12 := Imp.go t12 (by omega))); (try (have i_rt := Imp.go rt (by omega))); (try (have i_rt := Imp.go rt (by omega))); (try (have i_t12 := Imp.go t12 (by omega))); (try (have i_t13 := Imp.go t13 (by omega))); (try (have i_t51 := Imp.go t51 (by omega))); omega)), (show (V 0 73).toInt ≤ (V67 0 73).toInt from by first | omega | ((try (have i_t51 := Imp.go t51 (by omega))); (try (have i_t13 := Imp.go t13 (by omega))); (try (have i_t12 := Imp.go t12 (by omega))); (try (have i_rt := Imp.go rt (by omega))); (try (have i_rt := Imp.go rt (by omega))); (try (have i_t12 := Imp.go t12 (by omega))); (try (have i_t13 := Imp.go t13 (by omega))); (try (have i_t51 := Imp.go t51 (by omega))); omega)), (show (V 0 69).toInt ≤ (V67 0 69).toInt from by first | omega | ((try (have i_t51 := Imp.go t51 (by omega))); (try (have i_t13 := Imp.go t13 (by omega))); (try (have i_t12 := Imp.go t12 (by omega))); (try (have i_rt := Imp.go rt (by omega))); (try (have i_rt := Imp.go rt (by omega))); (try (have i_t12 := Imp.go t12 (by omega))); (try (have i_t13 := Imp.go t13 (by omega))); (try (have i_t51 := Imp.go t51 (by omega))); omega)), (show (V67 0 95).toInt = (V 0 95).toInt from by first | omega | ((try (have i_t51 := Imp.go t51 (by omega))); (try (have i_t13 := Imp.go t13 (by omega))); (try (have i_t12 := Imp.go t12 (by omega))); (try (have i_rt := Imp.go rt (by omega))); (try (have i_rt := Imp.go rt (by omega))); (try (have i_t12 := Imp.go t12 (by omega))); (try (have i_t13 := Imp.go t13 (by omega))); (try (have i_t51 := Imp.go t51 (by omega))); omega)), (show (V67 0 76).toInt - (V67 0 69).toInt - (V67 0 73).toInt ≤ (V 0 76).toInt - (V 0 69).toInt - (V 0 73).toInt from by first | omega | ((try (have i_t51 := Imp.go t51 (by omega))); (try (have i_t13 := Imp.go t13 (by omega))); (try (have i_t12 := Imp.go t12 (by omega))); (try (have i_rt := Imp.go rt (by omega))); (try (have i_rt := Imp.go rt (by omega))); (try (have i_t12 := Imp.go t12 (by omega))); (try (have i_t13 := Imp.go t13 (by omega))); (try (have i_t51 := Imp.go t51 (by omega))); omega)), rt76, fm79⟩, by rw [ht]; exact hP, va_K.moved hW.alike hK, hD⟩, hS.F ht⟩) hS.2.2 dX12_calls_91
        · skip
          have f80 : z38.toInt = 1 := b_eq rfl (by decide) c64
          refine lv_aload_n hx hb dX12_calls_70 rfl (lv_at hl 1 rfl) ?_
          refine lv_iload_n hx hb dX12_calls_71 rfl (lv_at hl 2 rfl) ?_
          refine lv_iload_n hx hb dX12_calls_72 rfl (lv_at hl 3 rfl) ?_
          refine lv_iload_n hx hb dX12_calls_73 rfl (lv_at hl 4 rfl) ?_
          refine gA_int (gA_runV (As := [.int p0, .int p1, .int p2]) (rest := []) (ci := 12) (q0 := 0) hx hb hml hown hg hP hD hK hS hA hnw hgk ((hk_s_failings d9 rfl) H.size ad kk V54 L p0 p1 p2 hMV54 (by first | omega | ((try (have i_t51 := Imp.go t51 (by omega))); (try (have i_t13 := Imp.go t13 (by omega))); (try (have i_t12 := Imp.go t12 (by omega))); (try (have i_rt := Imp.go rt (by omega))); (try (have i_rt := Imp.go rt (by omega))); (try (have i_t12 := Imp.go t12 (by omega))); (try (have i_t13 := Imp.go t13 (by omega))); (try (have i_t51 := Imp.go t51 (by omega))); omega)) (by first | omega | ((try (have i_t51 := Imp.go t51 (by omega))); (try (have i_t13 := Imp.go t13 (by omega))); (try (have i_t12 := Imp.go t12 (by omega))); (try (have i_rt := Imp.go rt (by omega))); (try (have i_rt := Imp.go rt (by omega))); (try (have i_t12 := Imp.go t12 (by omega))); (try (have i_t13 := Imp.go t13 (by omega))); (try (have i_t51 := Imp.go t51 (by omega))); omega)) (by first | omega | ((try (have i_t51 := Imp.go t51 (by omega))); (try (have i_t13 := Imp.go t13 (by omega))); (try (have i_t12 := Imp.go t12 (by omega))); (try (have i_rt := Imp.go rt (by omega))); (try (have i_rt := Imp.go rt (by omega))); (try (have i_t12 := Imp.go t12 (by omega))); (try (have i_t13 := Imp.go t13 (by omega))); (try (have i_t51 := Imp.go t51 (by omega))); omega)) t52 (show (V54 0 65).toInt ≤ (V54 0 60).toInt from by first | omega | ((try (have i_t51 := Imp.go t51 (by omega))); (try (have i_t13 := Imp.go t13 (by omega))); (try (have i_t12 := Imp.go t12 (by omega))); (try (have i_rt := Imp.go rt (by omega))); (try (have i_rt := Imp.go rt (by omega))); (try (have i_t12 := Imp.go t12 (by omega))); (try (have i_t13 := Imp.go t13 (by omega))); (try (have i_t51 := Imp.go t51 (by omega))); omega)) (show (V54 0 95).toInt ≤ (V54 0 65).toInt from by first | omega | ((try (have i_t51 := Imp.go t51 (by omega))); (try (have i_t13 := Imp.go t13 (by omega))); (try (have i_t12 := Imp.go t12 (by omega))); (try (have i_rt := Imp.go rt (by omega))); (try (have i_rt := Imp.go rt (by omega))); (try (have i_t12 := Imp.go t12 (by omega))); (try (have i_t13 := Imp.go t13 (by omega))); (try (have i_t51 := Imp.go t51 (by omega))); omega)) (show (V54 0 73).toInt + (V54 0 95).toInt - (V54 0 65).toInt ≤ 999000 from by first | omega | ((try (have i_t51 := Imp.go t51 (by omega))); (try (have i_t13 := Imp.go t13 (by omega))); (try (have i_t12 := Imp.go t12 (by omega))); (try (have i_rt := Imp.go rt (by omega))); (try (have i_rt := Imp.go rt (by omega))); (try (have i_t12 := Imp.go t12 (by omega))); (try (have i_t13 := Imp.go t13 (by omega))); (try (have i_t51 := Imp.go t51 (by omega))); omega)) (show (V54 0 76).toInt - (V54 0 69).toInt - (V54 0 73).toInt ≤ 1000000000 from by first | omega | ((try (have i_t51 := Imp.go t51 (by omega))); (try (have i_t13 := Imp.go t13 (by omega))); (try (have i_t12 := Imp.go t12 (by omega))); (try (have i_rt := Imp.go rt (by omega))); (try (have i_rt := Imp.go rt (by omega))); (try (have i_t12 := Imp.go t12 (by omega))); (try (have i_t13 := Imp.go t13 (by omega))); (try (have i_t51 := Imp.go t51 (by omega))); omega)) (show 300 - (V54 0 60).toInt ≤ ((d1 : Nat) : Int) from by first | omega | ((try (have i_t51 := Imp.go t51 (by omega))); (try (have i_t13 := Imp.go t13 (by omega))); (try (have i_t12 := Imp.go t12 (by omega))); (try (have i_rt := Imp.go rt (by omega))); (try (have i_rt := Imp.go rt (by omega))); (try (have i_t12 := Imp.go t12 (by omega))); (try (have i_t13 := Imp.go t13 (by omega))); (try (have i_t51 := Imp.go t51 (by omega))); omega)) (show 10 - (V54 0 93).toInt ≤ ((d9 : Nat) : Int) from by first | omega | ((try (have i_t51 := Imp.go t51 (by omega))); (try (have i_t13 := Imp.go t13 (by omega))); (try (have i_t12 := Imp.go t12 (by omega))); (try (have i_rt := Imp.go rt (by omega))); (try (have i_rt := Imp.go rt (by omega))); (try (have i_t12 := Imp.go t12 (by omega))); (try (have i_t13 := Imp.go t13 (by omega))); (try (have i_t51 := Imp.go t51 (by omega))); omega)) (show p0.toInt < (V54 0 60).toInt from by first | omega | ((try (have i_t51 := Imp.go t51 (by omega))); (try (have i_t13 := Imp.go t13 (by omega))); (try (have i_t12 := Imp.go t12 (by omega))); (try (have i_rt := Imp.go rt (by omega))); (try (have i_rt := Imp.go rt (by omega))); (try (have i_t12 := Imp.go t12 (by omega))); (try (have i_t13 := Imp.go t13 (by omega))); (try (have i_t51 := Imp.go t51 (by omega))); omega)) (show (V54 0 98).toInt + 400 * ((d9 : Nat) : Int) + 30 ≤ 19000 from by first | omega | ((try (have i_t51 := Imp.go t51 (by omega))); (try (have i_t13 := Imp.go t13 (by omega))); (try (have i_t12 := Imp.go t12 (by omega))); (try (have i_rt := Imp.go rt (by omega))); (try (have i_rt := Imp.go rt (by omega))); (try (have i_t12 := Imp.go t12 (by omega))); (try (have i_t13 := Imp.go t13 (by omega))); (try (have i_t51 := Imp.go t51 (by omega))); omega))) w2324 w2326 w149 w172 w2327 rfl rfl hdV_yX12_failings ⟨(by show (4 * (d1) + 40 * (d9) + 13) + 1 ≤ (4 * d1 + 40 * (d9 + 1) + 8); omega), (by show 8 + (11 + 11) + (100 * (d1) + 1000 * (d9) + 500) ≤ (100 * d1 + 1000 * (d9 + 1) + 320); omega)⟩ rfl hl.1 rfl (Nat.le_of_ble_eq_true rfl) dX12_calls_74 ⟨Nat.le_of_ble_eq_true rfl, Nat.le_of_ble_eq_true rfl⟩) hP hD hK hS hA (fun z81 u82 H locs w83 hP hD hK hS => ?_)
          obtain ⟨V97, L98⟩ := u82
          obtain ⟨hMV97, ajV97, axL98, rgz81, t84, t85, t86, t87, t88, t89, t90, t91, t92, t93, t94, t95, t96⟩ := w83
          have axL98 : L = L98 := Eq.symm axL98
          subst axL98
          have hP : va_P D vwCl (mw ad kk ks.1 V97 L) H := hP
          have hD : va_D A (mw ad kk ks.1 V97 L) := hD
          have hMV97 : rgd bM V97 := hMV97
          have ajV97 : agr [(0, 60), (0, 65), (0, 68), (0, 69), (0, 73), (0, 76), (0, 90), (0, 91), (0, 92), (0, 93), (0, 95), (0, 96), (0, 98)] [59, 61, 62, 63, 64, 66, 67, 74, 75, 77, 78, 79, 80, 94, 97] V54 V97 := ajV97
          have agV97 : agr [(0, 60), (0, 65), (0, 68), (0, 69), (0, 73), (0, 76), (0, 90), (0, 91), (0, 92), (0, 93), (0, 95), (0, 96), (0, 98)] [59, 61, 62, 63, 64, 66, 67, 74, 75, 77, 78, 79, 80, 94, 97] V V97 := agV54.tr ajV97 (by decide) (by decide)
          have rgz81 : 0 ≤ z81.toInt ∧ z81.toInt ≤ 2 := rgz81
          have t84 : (V97 0 93).toInt = (V54 0 93).toInt := t84
          have t85 : (V97 0 98).toInt = (V54 0 98).toInt := t85
          have t86 : (V54 0 60).toInt ≤ (V97 0 60).toInt := t86
          have t87 : (V54 0 65).toInt ≤ (V97 0 65).toInt := t87
          have t88 : (V97 0 65).toInt - (V54 0 65).toInt ≤ (V97 0 60).toInt - (V54 0 60).toInt := t88
          have t89 : (V97 0 73).toInt + (V97 0 95).toInt - (V97 0 65).toInt ≤ (V54 0 73).toInt + (V54 0 95).toInt - (V54 0 65).toInt := t89
          have t90 : (V54 0 73).toInt ≤ (V97 0 73).toInt := t90
          have t91 : (V54 0 69).toInt ≤ (V97 0 69).toInt := t91
          have t92 : (V97 0 95).toInt = (V54 0 95).toInt := t92
          have t93 : (V97 0 76).toInt - (V97 0 69).toInt - (V97 0 73).toInt ≤ (V54 0 76).toInt - (V54 0 69).toInt - (V54 0 73).toInt + 1 := t93
          have t94 : Imp (z81.toInt ≠ 2) ((V97 0 76).toInt - (V97 0 69).toInt - (V97 0 73).toInt ≤ (V54 0 76).toInt - (V54 0 69).toInt - (V54 0 73).toInt) := t94
          have t95 : RT V97 := t95
          have t96 : FRM V54 V97 (-1) := t96
          have r99 : 0 ≤ ((V97 0 93)).toInt ∧ ((V97 0 93)).toInt ≤ 10 := hMV97 0 93
          have r100 : 0 ≤ ((V97 0 98)).toInt ∧ ((V97 0 98)).toInt ≤ 20000 := hMV97 0 98
          have r101 : 0 ≤ ((V97 0 60)).toInt ∧ ((V97 0 60)).toInt ≤ 300 := hMV97 0 60
          have r102 : 0 ≤ ((V97 0 65)).toInt ∧ ((V97 0 65)).toInt ≤ 1000000 := hMV97 0 65
          have r103 : 0 ≤ ((V97 0 73)).toInt ∧ ((V97 0 73)).toInt ≤ 1000000 := hMV97 0 73
          have r104 : 0 ≤ ((V97 0 95)).toInt ∧ ((V97 0 95)).toInt ≤ 300 := hMV97 0 95
          have r105 : 0 ≤ ((V97 0 69)).toInt ∧ ((V97 0 69)).toInt ≤ 3000 := hMV97 0 69
          have r106 : 0 ≤ ((V97 0 76)).toInt ∧ ((V97 0 76)).toInt ≤ 2000000000 := hMV97 0 76
          refine lv_istore (lv' := [(5, .int z81), (0, .ref (ad 0)), (1, .int p0), (2, .int p1), (3, .int p2), (4, .int p3)]) hx hb dX12_calls_77 hl (by decide) rfl (fun ls hl => ?_)
          refine lv_aload_n hx hb dX12_calls_79 rfl (lv_at hl 1 rfl) ?_
          refine lv_dup hx hb dX12_calls_80 rfl ?_
          refine va_get (D := D) (ci := 12) (v := .int (V97 0 93)) (C := RX12) (T := TX12) (N := 100) hx hb hg inX12 hown hK hP 0 rfl rfl 93 (by decide) (hg _ w1803) (fun _ h9 => h9) rfl dX12_calls_81 ?_
          refine lv_iconst (v := 1) hx hb dX12_calls_84 (by decide) ?_
          refine lv_isub hx hb dX12_calls_85 ?_
          refine lv_topi (fun z107 ez107 => ?_)
          have hz107 : z107.toInt = ((V97 0 93)).toInt - 1 := i_sub ez107 rfl (by decide) (by omega)
          refine va_put (D := D) (ci := 12) (v := .int z107) (ty := tyX12 93) (C := RX12) (T := TX12) (N := 100) hx hb hg inX12 tyX12 tyX12_ok nmX12 hown hK hP hD hS 0 rfl rfl 93 (by decide) (hg _ w1803) (fun _ h9 => h9) rfl (tyX12_ok 93 (by decide)) rfl rfl (Nat.le_of_ble_eq_true rfl) dX12_calls_86 (fun H locs hP hD hS => ?_)
          obtain ⟨V108, hV108⟩ : ∃ z, z = up2 V97 0 93 z107 := ⟨_, rfl⟩
          have hP : va_P D vwCl (mw ad kk ks.1 V108 L) H := by rw [hV108]; exact hP
          have hD : va_D A (mw ad kk ks.1 V108 L) := by rw [hV108]; exact hD
          have hMV108 : rgd bM V108 := hMV97.put hV108 (show 0 ≤ z107.toInt ∧ z107.toInt ≤ 10 from by first | omega | ((try (have i_t94 := Imp.go t94 (by omega))); (try (have i_t51 := Imp.go t51 (by omega))); (try (have i_t13 := Imp.go t13 (by omega))); (try (have i_t12 := Imp.go t12 (by omega))); (try (have i_rt := Imp.go rt (by omega))); (try (have i_rt := Imp.go rt (by omega))); (try (have i_t12 := Imp.go t12 (by omega))); (try (have i_t13 := Imp.go t13 (by omega))); (try (have i_t51 := Imp.go t51 (by omega))); (try (have i_t94 := Imp.go t94 (by omega))); omega))
          have agV108 : agr [(0, 60), (0, 65), (0, 68), (0, 69), (0, 73), (0, 76), (0, 90), (0, 91), (0, 92), (0, 93), (0, 95), (0, 96), (0, 98)] [59, 61, 62, 63, 64, 66, 67, 74, 75, 77, 78, 79, 80, 94, 97] V V108 := agV97.up hV108 rfl
          refine lv_iload hx hb dX12_calls_89 (lv_at hl 0 rfl) ?_
          have pq109 : (V108 0 93).toInt = z107.toInt := congrArg Int32.toInt (up2_s hV108)
          have pq110 : (V108 0 98).toInt = ((V97 0 98)).toInt := congrArg Int32.toInt (up2_k hV108 (by decide))
          have pq111 : (V108 0 60).toInt = ((V97 0 60)).toInt := congrArg Int32.toInt (up2_k hV108 (by decide))
          have pq112 : (V108 0 65).toInt = ((V97 0 65)).toInt := congrArg Int32.toInt (up2_k hV108 (by decide))
          have pq113 : (V108 0 73).toInt = ((V97 0 73)).toInt := congrArg Int32.toInt (up2_k hV108 (by decide))
          have pq114 : (V108 0 95).toInt = ((V97 0 95)).toInt := congrArg Int32.toInt (up2_k hV108 (by decide))
          have pq115 : (V108 0 69).toInt = ((V97 0 69)).toInt := congrArg Int32.toInt (up2_k hV108 (by decide))
          have pq116 : (V108 0 76).toInt = ((V97 0 76)).toInt := congrArg Int32.toInt (up2_k hV108 (by decide))
          have rt117 : RT V108 := RT.ag t95 hMV97 (show agr [(0, 93)] [] V97 V108 from (agr.up agr.rf hV108 rfl)) ⟨⟨rfl, fun _ => rfl, fun _ => rfl, fun _ => rfl, fun _ => rfl, fun _ => rfl, fun _ => rfl⟩, by decide, by decide, rfl, rfl, fun _ => rfl, fun _ => rfl, fun _ => rfl, fun _ => rfl, fun _ => rfl, fun _ => rfl⟩ (c0k.ag (show agr [(0, 93)] [] V97 V108 from (agr.up agr.rf hV108 rfl)) rfl)
          have fm118 : FRM V V27 (-1) := ((FRM.ag (show agr [(0, 68), (0, 69), (0, 93)] [] V V27 from (agr.up (agr.tr agr.rf ajV14 (by decide) (by decide)) hV27 rfl)) ⟨⟨rfl, fun _ => rfl, fun _ => rfl, fun _ => rfl, fun _ => rfl, fun _ => rfl, fun _ => rfl⟩, by decide, by decide, rfl, rfl, fun _ => rfl, fun _ => rfl, fun _ => rfl, fun _ => rfl, fun _ => rfl, fun _ => rfl⟩) : FRM V V27 (-1))
          have fm119 : FRM V V54 (-1) := (FRM.tr fm118 t53 agV27 ⟨rfl, fun _ => rfl, fun _ => rfl, fun _ => rfl, fun _ => rfl, fun _ => rfl, fun _ => rfl⟩ (by omega))
          have fm120 : FRM V V97 (-1) := (FRM.tr fm119 t96 agV54 ⟨rfl, fun _ => rfl, fun _ => rfl, fun _ => rfl, fun _ => rfl, fun _ => rfl, fun _ => rfl⟩ (by omega))
          have fm121 : FRM V V108 (-1) := (FRM.tr fm120 (FRM.ag (show agr [(0, 93)] [] V97 V108 from (agr.up agr.rf hV108 rfl)) ⟨⟨rfl, fun _ => rfl, fun _ => rfl, fun _ => rfl, fun _ => rfl, fun _ => rfl, fun _ => rfl⟩, by decide, by decide, rfl, rfl, fun _ => rfl, fun _ => rfl, fun _ => rfl, fun _ => rfl, fun _ => rfl, fun _ => rfl⟩) agV97 ⟨rfl, fun _ => rfl, fun _ => rfl, fun _ => rfl, fun _ => rfl, fun _ => rfl, fun _ => rfl⟩ (by omega))
          exact W.iret (v := z81) hx hb hr (fun t ht hW => ⟨⟨z81, (V108, L), rfl, ⟨hMV108, agV108, rfl, (show 0 ≤ z81.toInt ∧ z81.toInt ≤ 2 from by first | omega | ((try (have i_t94 := Imp.go t94 (by omega))); (try (have i_t51 := Imp.go t51 (by omega))); (try (have i_t13 := Imp.go t13 (by omega))); (try (have i_t12 := Imp.go t12 (by omega))); (try (have i_rt := Imp.go rt (by omega))); (try (have i_rt := Imp.go rt (by omega))); (try (have i_t12 := Imp.go t12 (by omega))); (try (have i_t13 := Imp.go t13 (by omega))); (try (have i_t51 := Imp.go t51 (by omega))); (try (have i_t94 := Imp.go t94 (by omega))); omega)), (show (V108 0 93).toInt = (V 0 93).toInt from by first | omega | ((try (have i_t94 := Imp.go t94 (by omega))); (try (have i_t51 := Imp.go t51 (by omega))); (try (have i_t13 := Imp.go t13 (by omega))); (try (have i_t12 := Imp.go t12 (by omega))); (try (have i_rt := Imp.go rt (by omega))); (try (have i_rt := Imp.go rt (by omega))); (try (have i_t12 := Imp.go t12 (by omega))); (try (have i_t13 := Imp.go t13 (by omega))); (try (have i_t51 := Imp.go t51 (by omega))); (try (have i_t94 := Imp.go t94 (by omega))); omega)), (show (V108 0 98).toInt = (V 0 98).toInt from by first | omega | ((try (have i_t94 := Imp.go t94 (by omega))); (try (have i_t51 := Imp.go t51 (by omega))); (try (have i_t13 := Imp.go t13 (by omega))); (try (have i_t12 := Imp.go t12 (by omega))); (try (have i_rt := Imp.go rt (by omega))); (try (have i_rt := Imp.go rt (by omega))); (try (have i_t12 := Imp.go t12 (by omega))); (try (have i_t13 := Imp.go t13 (by omega))); (try (have i_t51 := Imp.go t51 (by omega))); (try (have i_t94 := Imp.go t94 (by omega))); omega)), (show (V 0 60).toInt ≤ (V108 0 60).toInt from by first | omega | ((try (have i_t94 := Imp.go t94 (by omega))); (try (have i_t51 := Imp.go t51 (by omega))); (try (have i_t13 := Imp.go t13 (by omega))); (try (have i_t12 := Imp.go t12 (by omega))); (try (have i_rt := Imp.go rt (by omega))); (try (have i_rt := Imp.go rt (by omega))); (try (have i_t12 := Imp.go t12 (by omega))); (try (have i_t13 := Imp.go t13 (by omega))); (try (have i_t51 := Imp.go t51 (by omega))); (try (have i_t94 := Imp.go t94 (by omega))); omega)), (show (V 0 65).toInt ≤ (V108 0 65).toInt from by first | omega | ((try (have i_t94 := Imp.go t94 (by omega))); (try (have i_t51 := Imp.go t51 (by omega))); (try (have i_t13 := Imp.go t13 (by omega))); (try (have i_t12 := Imp.go t12 (by omega))); (try (have i_rt := Imp.go rt (by omega))); (try (have i_rt := Imp.go rt (by omega))); (try (have i_t12 := Imp.go t12 (by omega))); (try (have i_t13 := Imp.go t13 (by omega))); (try (have i_t51 := Imp.go t51 (by omega))); (try (have i_t94 := Imp.go t94 (by omega))); omega)), (show (V108 0 65).toInt - (V 0 65).toInt ≤ (V108 0 60).toInt - (V 0 60).toInt from by first | omega | ((try (have i_t94 := Imp.go t94 (by omega))); (try (have i_t51 := Imp.go t51 (by omega))); (try (have i_t13 := Imp.go t13 (by omega))); (try (have i_t12 := Imp.go t12 (by omega))); (try (have i_rt := Imp.go rt (by omega))); (try (have i_rt := Imp.go rt (by omega))); (try (have i_t12 := Imp.go t12 (by omega))); (try (have i_t13 := Imp.go t13 (by omega))); (try (have i_t51 := Imp.go t51 (by omega))); (try (have i_t94 := Imp.go t94 (by omega))); omega)), (show (V108 0 73).toInt + (V108 0 95).toInt - (V108 0 65).toInt ≤ (V 0 73).toInt + (V 0 95).toInt - (V 0 65).toInt from by first | omega | ((try (have i_t94 := Imp.go t94 (by omega))); (try (have i_t51 := Imp.go t51 (by omega))); (try (have i_t13 := Imp.go t13 (by omega))); (try (have i_t12 := Imp.go t12 (by omega))); (try (have i_rt := Imp.go rt (by omega))); (try (have i_rt := Imp.go rt (by omega))); (try (have i_t12 := Imp.go t12 (by omega))); (try (have i_t13 := Imp.go t13 (by omega))); (try (have i_t51 := Imp.go t51 (by omega))); (try (have i_t94 := Imp.go t94 (by omega))); omega)), (show (V 0 73).toInt ≤ (V108 0 73).toInt from by first | omega | ((try (have i_t94 := Imp.go t94 (by omega))); (try (have i_t51 := Imp.go t51 (by omega))); (try (have i_t13 := Imp.go t13 (by omega))); (try (have i_t12 := Imp.go t12 (by omega))); (try (have i_rt := Imp.go rt (by omega))); (try (have i_rt := Imp.go rt (by omega))); (try (have i_t12 := Imp.go t12 (by omega))); (try (have i_t13 := Imp.go t13 (by omega))); (try (have i_t51 := Imp.go t51 (by omega))); (try (have i_t94 := Imp.go t94 (by omega))); omega)), (show (V 0 69).toInt ≤ (V108 0 69).toInt from by first | omega | ((try (have i_t94 := Imp.go t94 (by omega))); (try (have i_t51 := Imp.go t51 (by omega))); (try (have i_t13 := Imp.go t13 (by omega))); (try (have i_t12 := Imp.go t12 (by omega))); (try (have i_rt := Imp.go rt (by omega))); (try (have i_rt := Imp.go rt (by omega))); (try (have i_t12 := Imp.go t12 (by omega))); (try (have i_t13 := Imp.go t13 (by omega))); (try (have i_t51 := Imp.go t51 (by omega))); (try (have i_t94 := Imp.go t94 (by omega))); omega)), (show (V108 0 95).toInt = (V 0 95).toInt from by first | omega | ((try (have i_t94 := Imp.go t94 (by omega))); (try (have i_t51 := Imp.go t51 (by omega))); (try (have i_t13 := Imp.go t13 (by omega))); (try (have i_t12 := Imp.go t12 (by omega))); (try (have i_rt := Imp.go rt (by omega))); (try (have i_rt := Imp.go rt (by omega))); (try (have i_t12 := Imp.go t12 (by omega))); (try (have i_t13 := Imp.go t13 (by omega))); (try (have i_t51 := Imp.go t51 (by omega))); (try (have i_t94 := Imp.go t94 (by omega))); omega)), (show (V108 0 76).toInt - (V108 0 69).toInt - (V108 0 73).toInt ≤ (V 0 76).toInt - (V 0 69).toInt - (V 0 73).toInt from by first | omega | ((try (have i_t94 := Imp.go t94 (by omega))); (try (have i_t51 := Imp.go t51 (by omega))); (try (have i_t13 := Imp.go t13 (by omega))); (try (have i_t12 := Imp.go t12 (by omega))); (try (have i_rt := Imp.go rt (by omega))); (try (have i_rt := Imp.go rt (by omega))); (try (have i_t12 := Imp.go t12 (by omega))); (try (have i_t13 := Imp.go t13 (by omega))); (try (have i_t51 := Imp.go t51 (by omega))); (try (have i_t94 := Imp.go t94 (by omega))); omega)), rt117, fm121⟩, by rw [ht]; exact hP, va_K.moved hW.alike hK, hD⟩, hS.F ht⟩) hS.2.2 dX12_calls_91
      · skip
        have f122 : ((V 63 (Int32.toNatClampNeg p0))).toInt = 2 := b_eq rfl (by decide) c24
        refine lv_aload_n hx hb dX12_calls_35 rfl (lv_at hl 0 rfl) ?_
        refine lv_bipush (v := 17) hx hb dX12_calls_36 (by decide) ?_
        have r123 : Int32.toInt 17 = 17 := by decide
        refine gA_int (gA_runV (As := [.int 17]) (rest := []) (ci := 12) (q0 := 0) hx hb hml hown hg hP hD hK hS hA hnw hgk (s_fails2 l D ks H.size ad kk V14 L 17 hMV14 ) w2251 w2253 w131 w172 w2254 rfl rfl hdV_yX12_fails ⟨(by show (0) + 1 ≤ (4 * d1 + 40 * d2 + 8); omega), (by show 8 + (2 + 11) + (0) ≤ (100 * d1 + 1000 * d2 + 320); omega)⟩ rfl hl.1 rfl (Nat.le_of_ble_eq_true rfl) dX12_calls_38 ⟨Nat.le_of_ble_eq_true rfl, Nat.le_of_ble_eq_true rfl⟩) hP hD hK hS hA (fun z124 u125 H locs w126 hP hD hK hS => ?_)
        obtain ⟨V127, L128⟩ := u125
        obtain ⟨hMV127, ajV127, axL128, rgz124⟩ := w126
        have axL128 : L = L128 := Eq.symm axL128
        subst axL128
        have hP : va_P D vwCl (mw ad kk ks.1 V127 L) H := hP
        have hD : va_D A (mw ad kk ks.1 V127 L) := hD
        have hMV127 : rgd bM V127 := hMV127
        have ajV127 : agr [(0, 90), (0, 91)] [] V14 V127 := ajV127
        have agV127 : agr [(0, 60), (0, 65), (0, 68), (0, 69), (0, 73), (0, 76), (0, 90), (0, 91), (0, 92), (0, 93), (0, 95), (0, 96), (0, 98)] [59, 61, 62, 63, 64, 66, 67, 74, 75, 77, 78, 79, 80, 94, 97] V V127 := agV14.tr ajV127 (by decide) (by decide)
        have rgz124 : 1 ≤ z124.toInt ∧ z124.toInt ≤ 1 := rgz124
        have pq129 : (V127 0 93).toInt = ((V 0 93)).toInt := congrArg Int32.toInt ((ajV127 0 93 rfl).trans (ajV14 0 93 rfl))
        have pq130 : (V127 0 98).toInt = ((V 0 98)).toInt := congrArg Int32.toInt ((ajV127 0 98 rfl).trans (ajV14 0 98 rfl))
        have pq131 : (V127 0 60).toInt = ((V 0 60)).toInt := congrArg Int32.toInt ((ajV127 0 60 rfl).trans (ajV14 0 60 rfl))
        have pq132 : (V127 0 65).toInt = ((V 0 65)).toInt := congrArg Int32.toInt ((ajV127 0 65 rfl).trans (ajV14 0 65 rfl))
        have pq133 : (V127 0 73).toInt = ((V 0 73)).toInt := congrArg Int32.toInt ((ajV127 0 73 rfl).trans (ajV14 0 73 rfl))
        have pq134 : (V127 0 95).toInt = ((V 0 95)).toInt := congrArg Int32.toInt ((ajV127 0 95 rfl).trans (ajV14 0 95 rfl))
        have pq135 : (V127 0 69).toInt = ((V14 0 69)).toInt := congrArg Int32.toInt (ajV127 0 69 rfl)
        have pq136 : (V127 0 76).toInt = ((V 0 76)).toInt := congrArg Int32.toInt ((ajV127 0 76 rfl).trans (ajV14 0 76 rfl))
        have rt137 : RT V127 := RT.ag rt hMV (show agr [(0, 68), (0, 69), (0, 90), (0, 91)] [] V V127 from (agr.tr (agr.tr agr.rf ajV14 (by decide) (by decide)) ajV127 (by decide) (by decide))) ⟨⟨rfl, fun _ => rfl, fun _ => rfl, fun _ => rfl, fun _ => rfl, fun _ => rfl, fun _ => rfl⟩, by decide, by decide, rfl, rfl, fun _ => rfl, fun _ => rfl, fun _ => rfl, fun _ => rfl, fun _ => rfl, fun _ => rfl⟩ (c0k.ag (show agr [(0, 68), (0, 69), (0, 90), (0, 91)] [] V V127 from (agr.tr (agr.tr agr.rf ajV14 (by decide) (by decide)) ajV127 (by decide) (by decide))) rfl)
        have fm138 : FRM V V127 (-1) := ((FRM.ag (show agr [(0, 68), (0, 69), (0, 90), (0, 91)] [] V V127 from (agr.tr (agr.tr agr.rf ajV14 (by decide) (by decide)) ajV127 (by decide) (by decide))) ⟨⟨rfl, fun _ => rfl, fun _ => rfl, fun _ => rfl, fun _ => rfl, fun _ => rfl, fun _ => rfl⟩, by decide, by decide, rfl, rfl, fun _ => rfl, fun _ => rfl, fun _ => rfl, fun _ => rfl, fun _ => rfl, fun _ => rfl⟩) : FRM V V127 (-1))
        exact W.iret (v := z124) hx hb hr (fun t ht hW => ⟨⟨z124, (V127, L), rfl, ⟨hMV127, agV127, rfl, (show 0 ≤ z124.toInt ∧ z124.toInt ≤ 2 from by first | omega | ((try (have i_t13 := Imp.go t13 (by omega))); (try (have i_t12 := Imp.go t12 (by omega))); (try (have i_rt := Imp.go rt (by omega))); (try (have i_rt := Imp.go rt (by omega))); (try (have i_t12 := Imp.go t12 (by omega))); (try (have i_t13 := Imp.go t13 (by omega))); omega)), (show (V127 0 93).toInt = (V 0 93).toInt from by first | omega | ((try (have i_t13 := Imp.go t13 (by omega))); (try (have i_t12 := Imp.go t12 (by omega))); (try (have i_rt := Imp.go rt (by omega))); (try (have i_rt := Imp.go rt (by omega))); (try (have i_t12 := Imp.go t12 (by omega))); (try (have i_t13 := Imp.go t13 (by omega))); omega)), (show (V127 0 98).toInt = (V 0 98).toInt from by first | omega | ((try (have i_t13 := Imp.go t13 (by omega))); (try (have i_t12 := Imp.go t12 (by omega))); (try (have i_rt := Imp.go rt (by omega))); (try (have i_rt := Imp.go rt (by omega))); (try (have i_t12 := Imp.go t12 (by omega))); (try (have i_t13 := Imp.go t13 (by omega))); omega)), (show (V 0 60).toInt ≤ (V127 0 60).toInt from by first | omega | ((try (have i_t13 := Imp.go t13 (by omega))); (try (have i_t12 := Imp.go t12 (by omega))); (try (have i_rt := Imp.go rt (by omega))); (try (have i_rt := Imp.go rt (by omega))); (try (have i_t12 := Imp.go t12 (by omega))); (try (have i_t13 := Imp.go t13 (by omega))); omega)), (show (V 0 65).toInt ≤ (V127 0 65).toInt from by first | omega | ((try (have i_t13 := Imp.go t13 (by omega))); (try (have i_t12 := Imp.go t12 (by omega))); (try (have i_rt := Imp.go rt (by omega))); (try (have i_rt := Imp.go rt (by omega))); (try (have i_t12 := Imp.go t12 (by omega))); (try (have i_t13 := Imp.go t13 (by omega))); omega)), (show (V127 0 65).toInt - (V 0 65).toInt ≤ (V127 0 60).toInt - (V 0 60).toInt from by first | omega | ((try (have i_t13 := Imp.go t13 (by omega))); (try (have i_t12 := Imp.go t12 (by omega))); (try (have i_rt := Imp.go rt (by omega))); (try (have i_rt := Imp.go rt (by omega))); (try (have i_t12 := Imp.go t12 (by omega))); (try (have i_t13 := Imp.go t13 (by omega))); omega)), (show (V127 0 73).toInt + (V127 0 95).toInt - (V127 0 65).toInt ≤ (V 0 73).toInt + (V 0 95).toInt - (V 0 65).toInt from by first | omega | ((try (have i_t13 := Imp.go t13 (by omega))); (try (have i_t12 := Imp.go t12 (by omega))); (try (have i_rt := Imp.go rt (by omega))); (try (have i_rt := Imp.go rt (by omega))); (try (have i_t12 := Imp.go t12 (by omega))); (try (have i_t13 := Imp.go t13 (by omega))); omega)), (show (V 0 73).toInt ≤ (V127 0 73).toInt from by first | omega | ((try (have i_t13 := Imp.go t13 (by omega))); (try (have i_t12 := Imp.go t12 (by omega))); (try (have i_rt := Imp.go rt (by omega))); (try (have i_rt := Imp.go rt (by omega))); (try (have i_t12 := Imp.go t12 (by omega))); (try (have i_t13 := Imp.go t13 (by omega))); omega)), (show (V 0 69).toInt ≤ (V127 0 69).toInt from by first | omega | ((try (have i_t13 := Imp.go t13 (by omega))); (try (have i_t12 := Imp.go t12 (by omega))); (try (have i_rt := Imp.go rt (by omega))); (try (have i_rt := Imp.go rt (by omega))); (try (have i_t12 := Imp.go t12 (by omega))); (try (have i_t13 := Imp.go t13 (by omega))); omega)), (show (V127 0 95).toInt = (V 0 95).toInt from by first | omega | ((try (have i_t13 := Imp.go t13 (by omega))); (try (have i_t12 := Imp.go t12 (by omega))); (try (have i_rt := Imp.go rt (by omega))); (try (have i_rt := Imp.go rt (by omega))); (try (have i_t12 := Imp.go t12 (by omega))); (try (have i_t13 := Imp.go t13 (by omega))); omega)), (show (V127 0 76).toInt - (V127 0 69).toInt - (V127 0 73).toInt ≤ (V 0 76).toInt - (V 0 69).toInt - (V 0 73).toInt from by first | omega | ((try (have i_t13 := Imp.go t13 (by omega))); (try (have i_t12 := Imp.go t12 (by omega))); (try (have i_rt := Imp.go rt (by omega))); (try (have i_rt := Imp.go rt (by omega))); (try (have i_t12 := Imp.go t12 (by omega))); (try (have i_t13 := Imp.go t13 (by omega))); omega)), rt137, fm138⟩, by rw [ht]; exact hP, va_K.moved hW.alike hK, hD⟩, hS.F ht⟩) hS.2.2 dX12_calls_41
    · skip
      have f139 : ((V 0 93)).toInt = 10 := b_eq rfl (by decide) c21
      refine lv_aload_n hx hb dX12_calls_18 rfl (lv_at hl 0 rfl) ?_
      refine lv_bipush (v := 13) hx hb dX12_calls_19 (by decide) ?_
      have r140 : Int32.toInt 13 = 13 := by decide
      refine gA_int (gA_runV (As := [.int 13]) (rest := []) (ci := 12) (q0 := 0) hx hb hml hown hg hP hD hK hS hA hnw hgk (s_fails2 l D ks H.size ad kk V14 L 13 hMV14 ) w2251 w2253 w131 w172 w2254 rfl rfl hdV_yX12_fails ⟨(by show (0) + 1 ≤ (4 * d1 + 40 * d2 + 8); omega), (by show 8 + (2 + 11) + (0) ≤ (100 * d1 + 1000 * d2 + 320); omega)⟩ rfl hl.1 rfl (Nat.le_of_ble_eq_true rfl) dX12_calls_21 ⟨Nat.le_of_ble_eq_true rfl, Nat.le_of_ble_eq_true rfl⟩) hP hD hK hS hA (fun z141 u142 H locs w143 hP hD hK hS => ?_)
      obtain ⟨V144, L145⟩ := u142
      obtain ⟨hMV144, ajV144, axL145, rgz141⟩ := w143
      have axL145 : L = L145 := Eq.symm axL145
      subst axL145
      have hP : va_P D vwCl (mw ad kk ks.1 V144 L) H := hP
      have hD : va_D A (mw ad kk ks.1 V144 L) := hD
      have hMV144 : rgd bM V144 := hMV144
      have ajV144 : agr [(0, 90), (0, 91)] [] V14 V144 := ajV144
      have agV144 : agr [(0, 60), (0, 65), (0, 68), (0, 69), (0, 73), (0, 76), (0, 90), (0, 91), (0, 92), (0, 93), (0, 95), (0, 96), (0, 98)] [59, 61, 62, 63, 64, 66, 67, 74, 75, 77, 78, 79, 80, 94, 97] V V144 := agV14.tr ajV144 (by decide) (by decide)
      have rgz141 : 1 ≤ z141.toInt ∧ z141.toInt ≤ 1 := rgz141
      have pq146 : (V144 0 93).toInt = ((V 0 93)).toInt := congrArg Int32.toInt ((ajV144 0 93 rfl).trans (ajV14 0 93 rfl))
      have pq147 : (V144 0 98).toInt = ((V 0 98)).toInt := congrArg Int32.toInt ((ajV144 0 98 rfl).trans (ajV14 0 98 rfl))
      have pq148 : (V144 0 60).toInt = ((V 0 60)).toInt := congrArg Int32.toInt ((ajV144 0 60 rfl).trans (ajV14 0 60 rfl))
      have pq149 : (V144 0 65).toInt = ((V 0 65)).toInt := congrArg Int32.toInt ((ajV144 0 65 rfl).trans (ajV14 0 65 rfl))
      have pq150 : (V144 0 73).toInt = ((V 0 73)).toInt := congrArg Int32.toInt ((ajV144 0 73 rfl).trans (ajV14 0 73 rfl))
      have pq151 : (V144 0 95).toInt = ((V 0 95)).toInt := congrArg Int32.toInt ((ajV144 0 95 rfl).trans (ajV14 0 95 rfl))
      have pq152 : (V144 0 69).toInt = ((V14 0 69)).toInt := congrArg Int32.toInt (ajV144 0 69 rfl)
      have pq153 : (V144 0 76).toInt = ((V 0 76)).toInt := congrArg Int32.toInt ((ajV144 0 76 rfl).trans (ajV14 0 76 rfl))
      have rt154 : RT V144 := RT.ag rt hMV (show agr [(0, 68), (0, 69), (0, 90), (0, 91)] [] V V144 from (agr.tr (agr.tr agr.rf ajV14 (by decide) (by decide)) ajV144 (by decide) (by decide))) ⟨⟨rfl, fun _ => rfl, fun _ => rfl, fun _ => rfl, fun _ => rfl, fun _ => rfl, fun _ => rfl⟩, by decide, by decide, rfl, rfl, fun _ => rfl, fun _ => rfl, fun _ => rfl, fun _ => rfl, fun _ => rfl, fun _ => rfl⟩ (c0k.ag (show agr [(0, 68), (0, 69), (0, 90), (0, 91)] [] V V144 from (agr.tr (agr.tr agr.rf ajV14 (by decide) (by decide)) ajV144 (by decide) (by decide))) rfl)
      have fm155 : FRM V V144 (-1) := ((FRM.ag (show agr [(0, 68), (0, 69), (0, 90), (0, 91)] [] V V144 from (agr.tr (agr.tr agr.rf ajV14 (by decide) (by decide)) ajV144 (by decide) (by decide))) ⟨⟨rfl, fun _ => rfl, fun _ => rfl, fun _ => rfl, fun _ => rfl, fun _ => rfl, fun _ => rfl⟩, by decide, by decide, rfl, rfl, fun _ => rfl, fun _ => rfl, fun _ => rfl, fun _ => rfl, fun _ => rfl, fun _ => rfl⟩) : FRM V V144 (-1))
      exact W.iret (v := z141) hx hb hr (fun t ht hW => ⟨⟨z141, (V144, L), rfl, ⟨hMV144, agV144, rfl, (show 0 ≤ z141.toInt ∧ z141.toInt ≤ 2 from by first | omega | ((try (have i_t13 := Imp.go t13 (by omega))); (try (have i_t12 := Imp.go t12 (by omega))); (try (have i_rt := Imp.go rt (by omega))); (try (have i_rt := Imp.go rt (by omega))); (try (have i_t12 := Imp.go t12 (by omega))); (try (have i_t13 := Imp.go t13 (by omega))); omega)), (show (V144 0 93).toInt = (V 0 93).toInt from by first | omega | ((try (have i_t13 := Imp.go t13 (by omega))); (try (have i_t12 := Imp.go t12 (by omega))); (try (have i_rt := Imp.go rt (by omega))); (try (have i_rt := Imp.go rt (by omega))); (try (have i_t12 := Imp.go t12 (by omega))); (try (have i_t13 := Imp.go t13 (by omega))); omega)), (show (V144 0 98).toInt = (V 0 98).toInt from by first | omega | ((try (have i_t13 := Imp.go t13 (by omega))); (try (have i_t12 := Imp.go t12 (by omega))); (try (have i_rt := Imp.go rt (by omega))); (try (have i_rt := Imp.go rt (by omega))); (try (have i_t12 := Imp.go t12 (by omega))); (try (have i_t13 := Imp.go t13 (by omega))); omega)), (show (V 0 60).toInt ≤ (V144 0 60).toInt from by first | omega | ((try (have i_t13 := Imp.go t13 (by omega))); (try (have i_t12 := Imp.go t12 (by omega))); (try (have i_rt := Imp.go rt (by omega))); (try (have i_rt := Imp.go rt (by omega))); (try (have i_t12 := Imp.go t12 (by omega))); (try (have i_t13 := Imp.go t13 (by omega))); omega)), (show (V 0 65).toInt ≤ (V144 0 65).toInt from by first | omega | ((try (have i_t13 := Imp.go t13 (by omega))); (try (have i_t12 := Imp.go t12 (by omega))); (try (have i_rt := Imp.go rt (by omega))); (try (have i_rt := Imp.go rt (by omega))); (try (have i_t12 := Imp.go t12 (by omega))); (try (have i_t13 := Imp.go t13 (by omega))); omega)), (show (V144 0 65).toInt - (V 0 65).toInt ≤ (V144 0 60).toInt - (V 0 60).toInt from by first | omega | ((try (have i_t13 := Imp.go t13 (by omega))); (try (have i_t12 := Imp.go t12 (by omega))); (try (have i_rt := Imp.go rt (by omega))); (try (have i_rt := Imp.go rt (by omega))); (try (have i_t12 := Imp.go t12 (by omega))); (try (have i_t13 := Imp.go t13 (by omega))); omega)), (show (V144 0 73).toInt + (V144 0 95).toInt - (V144 0 65).toInt ≤ (V 0 73).toInt + (V 0 95).toInt - (V 0 65).toInt from by first | omega | ((try (have i_t13 := Imp.go t13 (by omega))); (try (have i_t12 := Imp.go t12 (by omega))); (try (have i_rt := Imp.go rt (by omega))); (try (have i_rt := Imp.go rt (by omega))); (try (have i_t12 := Imp.go t12 (by omega))); (try (have i_t13 := Imp.go t13 (by omega))); omega)), (show (V 0 73).toInt ≤ (V144 0 73).toInt from by first | omega | ((try (have i_t13 := Imp.go t13 (by omega))); (try (have i_t12 := Imp.go t12 (by omega))); (try (have i_rt := Imp.go rt (by omega))); (try (have i_rt := Imp.go rt (by omega))); (try (have i_t12 := Imp.go t12 (by omega))); (try (have i_t13 := Imp.go t13 (by omega))); omega)), (show (V 0 69).toInt ≤ (V144 0 69).toInt from by first | omega | ((try (have i_t13 := Imp.go t13 (by omega))); (try (have i_t12 := Imp.go t12 (by omega))); (try (have i_rt := Imp.go rt (by omega))); (try (have i_rt := Imp.go rt (by omega))); (try (have i_t12 := Imp.go t12 (by omega))); (try (have i_t13 := Imp.go t13 (by omega))); omega)), (show (V144 0 95).toInt = (V 0 95).toInt from by first | omega | ((try (have i_t13 := Imp.go t13 (by omega))); (try (have i_t12 := Imp.go t12 (by omega))); (try (have i_rt := Imp.go rt (by omega))); (try (have i_rt := Imp.go rt (by omega))); (try (have i_t12 := Imp.go t12 (by omega))); (try (have i_t13 := Imp.go t13 (by omega))); omega)), (show (V144 0 76).toInt - (V144 0 69).toInt - (V144 0 73).toInt ≤ (V 0 76).toInt - (V 0 69).toInt - (V 0 73).toInt from by first | omega | ((try (have i_t13 := Imp.go t13 (by omega))); (try (have i_t12 := Imp.go t12 (by omega))); (try (have i_rt := Imp.go rt (by omega))); (try (have i_rt := Imp.go rt (by omega))); (try (have i_t12 := Imp.go t12 (by omega))); (try (have i_t13 := Imp.go t13 (by omega))); omega)), rt154, fm155⟩, by rw [ht]; exact hP, va_K.moved hW.alike hK, hD⟩, hS.F ht⟩) hS.2.2 dX12_calls_24
  · skip
    have f156 : z9.toInt = 0 := b_eq rfl (by decide) c19
    refine lv_iconst (v := 2) hx hb dX12_calls_7 (by decide) ?_
    have pq157 : (V14 0 93).toInt = ((V 0 93)).toInt := congrArg Int32.toInt (ajV14 0 93 rfl)
    have pq158 : (V14 0 98).toInt = ((V 0 98)).toInt := congrArg Int32.toInt (ajV14 0 98 rfl)
    have pq159 : (V14 0 60).toInt = ((V 0 60)).toInt := congrArg Int32.toInt (ajV14 0 60 rfl)
    have pq160 : (V14 0 65).toInt = ((V 0 65)).toInt := congrArg Int32.toInt (ajV14 0 65 rfl)
    have pq161 : (V14 0 73).toInt = ((V 0 73)).toInt := congrArg Int32.toInt (ajV14 0 73 rfl)
    have pq162 : (V14 0 95).toInt = ((V 0 95)).toInt := congrArg Int32.toInt (ajV14 0 95 rfl)
    have pq163 : (V14 0 76).toInt = ((V 0 76)).toInt := congrArg Int32.toInt (ajV14 0 76 rfl)
    have rt164 : RT V14 := RT.ag rt hMV (show agr [(0, 68), (0, 69)] [] V V14 from (agr.tr agr.rf ajV14 (by decide) (by decide))) ⟨⟨rfl, fun _ => rfl, fun _ => rfl, fun _ => rfl, fun _ => rfl, fun _ => rfl, fun _ => rfl⟩, by decide, by decide, rfl, rfl, fun _ => rfl, fun _ => rfl, fun _ => rfl, fun _ => rfl, fun _ => rfl, fun _ => rfl⟩ (c0k.ag (show agr [(0, 68), (0, 69)] [] V V14 from (agr.tr agr.rf ajV14 (by decide) (by decide))) rfl)
    have fm165 : FRM V V14 (-1) := ((FRM.ag (show agr [(0, 68), (0, 69)] [] V V14 from (agr.tr agr.rf ajV14 (by decide) (by decide))) ⟨⟨rfl, fun _ => rfl, fun _ => rfl, fun _ => rfl, fun _ => rfl, fun _ => rfl, fun _ => rfl⟩, by decide, by decide, rfl, rfl, fun _ => rfl, fun _ => rfl, fun _ => rfl, fun _ => rfl, fun _ => rfl, fun _ => rfl⟩) : FRM V V14 (-1))
    exact W.iret (v := 2) hx hb hr (fun t ht hW => ⟨⟨2, (V14, L), rfl, ⟨hMV14, agV14, rfl, (by decide), (show (V14 0 93).toInt = (V 0 93).toInt from by first | omega | ((try (have i_t13 := Imp.go t13 (by omega))); (try (have i_t12 := Imp.go t12 (by omega))); (try (have i_rt := Imp.go rt (by omega))); (try (have i_rt := Imp.go rt (by omega))); (try (have i_t12 := Imp.go t12 (by omega))); (try (have i_t13 := Imp.go t13 (by omega))); omega)), (show (V14 0 98).toInt = (V 0 98).toInt from by first | omega | ((try (have i_t13 := Imp.go t13 (by omega))); (try (have i_t12 := Imp.go t12 (by omega))); (try (have i_rt := Imp.go rt (by omega))); (try (have i_rt := Imp.go rt (by omega))); (try (have i_t12 := Imp.go t12 (by omega))); (try (have i_t13 := Imp.go t13 (by omega))); omega)), (show (V 0 60).toInt ≤ (V14 0 60).toInt from by first | omega | ((try (have i_t13 := Imp.go t13 (by omega))); (try (have i_t12 := Imp.go t12 (by omega))); (try (have i_rt := Imp.go rt (by omega))); (try (have i_rt := Imp.go rt (by omega))); (try (have i_t12 := Imp.go t12 (by omega))); (try (have i_t13 := Imp.go t13 (by omega))); omega)), (show (V 0 65).toInt ≤ (V14 0 65).toInt from by first | omega | ((try (have i_t13 := Imp.go t13 (by omega))); (try (have i_t12 := Imp.go t12 (by omega))); (try (have i_rt := Imp.go rt (by omega))); (try (have i_rt := Imp.go rt (by omega))); (try (have i_t12 := Imp.go t12 (by omega))); (try (have i_t13 := Imp.go t13 (by omega))); omega)), (show (V14 0 65).toInt - (V 0 65).toInt ≤ (V14 0 60).toInt - (V 0 60).toInt from by first | omega | ((try (have i_t13 := Imp.go t13 (by omega))); (try (have i_t12 := Imp.go t12 (by omega))); (try (have i_rt := Imp.go rt (by omega))); (try (have i_rt := Imp.go rt (by omega))); (try (have i_t12 := Imp.go t12 (by omega))); (try (have i_t13 := Imp.go t13 (by omega))); omega)), (show (V14 0 73).toInt + (V14 0 95).toInt - (V14 0 65).toInt ≤ (V 0 73).toInt + (V 0 95).toInt - (V 0 65).toInt from by first | omega | ((try (have i_t13 := Imp.go t13 (by omega))); (try (have i_t12 := Imp.go t12 (by omega))); (try (have i_rt := Imp.go rt (by omega))); (try (have i_rt := Imp.go rt (by omega))); (try (have i_t12 := Imp.go t12 (by omega))); (try (have i_t13 := Imp.go t13 (by omega))); omega)), (show (V 0 73).toInt ≤ (V14 0 73).toInt from by first | omega | ((try (have i_t13 := Imp.go t13 (by omega))); (try (have i_t12 := Imp.go t12 (by omega))); (try (have i_rt := Imp.go rt (by omega))); (try (have i_rt := Imp.go rt (by omega))); (try (have i_t12 := Imp.go t12 (by omega))); (try (have i_t13 := Imp.go t13 (by omega))); omega)), (show (V 0 69).toInt ≤ (V14 0 69).toInt from by first | omega | ((try (have i_t13 := Imp.go t13 (by omega))); (try (have i_t12 := Imp.go t12 (by omega))); (try (have i_rt := Imp.go rt (by omega))); (try (have i_rt := Imp.go rt (by omega))); (try (have i_t12 := Imp.go t12 (by omega))); (try (have i_t13 := Imp.go t13 (by omega))); omega)), (show (V14 0 95).toInt = (V 0 95).toInt from by first | omega | ((try (have i_t13 := Imp.go t13 (by omega))); (try (have i_t12 := Imp.go t12 (by omega))); (try (have i_rt := Imp.go rt (by omega))); (try (have i_rt := Imp.go rt (by omega))); (try (have i_t12 := Imp.go t12 (by omega))); (try (have i_t13 := Imp.go t13 (by omega))); omega)), (show (V14 0 76).toInt - (V14 0 69).toInt - (V14 0 73).toInt ≤ (V 0 76).toInt - (V 0 69).toInt - (V 0 73).toInt from by first | omega | ((try (have i_t13 := Imp.go t13 (by omega))); (try (have i_t12 := Imp.go t12 (by omega))); (try (have i_rt := Imp.go rt (by omega))); (try (have i_rt := Imp.go rt (by omega))); (try (have i_t12 := Imp.go t12 (by omega))); (try (have i_t13 := Imp.go t13 (by omega))); omega)), rt164, fm165⟩, by rw [ht]; exact hP, va_K.moved hW.alike hK, hD⟩, hS.F ht⟩) hS.2.2 dX12_calls_8
