theorem zX {c k : Nat} (h : ¬ (c = 3 ∧ k = 12)) : (bX c k).1 ≤ 0 ∧ 0 ≤ (bX c k).2 := by
  unfold bX
  split
  · unfold bX0; split <;> decide
  · unfold bX1; split <;> decide
  · unfold bX2; split <;> decide
  · unfold bX3; split <;> first | decide | exact absurd ⟨rfl, rfl⟩ h
  · unfold bX4; split <;> decide
  · unfold bX5; split <;> decide
  · unfold bX6; split <;> decide
  · exact ⟨Int.le_refl _, Int.natCast_nonneg _⟩
  all_goals decide
theorem zM {c k : Nat} (h : ¬ (c = 0 ∧ k = 55)) : (bM c k).1 ≤ 0 ∧ 0 ≤ (bM c k).2 := by
  unfold bM
  split
  · unfold bMf; split <;> first | decide | exact absurd ⟨rfl, rfl⟩ h
  all_goals decide
theorem V0_o {u : HU} {c k : Nat} (h : ¬ (c = 0 ∧ k = 7) ∧ ¬ (c = 1 ∧ k = 1) ∧ ¬ (c = 1 ∧ k = 2) ∧ ¬ (c = 2 ∧ k = 6) ∧ ¬ (c = 3 ∧ k = 12) ∧ c ≠ 23 ∧ c ≠ 25 ∧ c ≠ 44) : V0 u c k = 0 := by
  unfold V0
  split
  · rw [if_neg (by omega)]
  · rw [if_neg (by omega), if_neg (by omega)]
  · rw [if_neg (by omega)]
  · rw [if_neg (by omega)]
  · omega
  · omega
  · omega
  · rfl
theorem V0_rgd {u : HU} (hg : ∀ q : Nat, u.2.2.1 q = if q < 960 then -1 else 0) : rgd bX (V0 u) := by
  intro c k
  by_cases h : ¬ (c = 0 ∧ k = 7) ∧ ¬ (c = 1 ∧ k = 1) ∧ ¬ (c = 1 ∧ k = 2) ∧ ¬ (c = 2 ∧ k = 6) ∧ ¬ (c = 3 ∧ k = 12) ∧ c ≠ 23 ∧ c ≠ 25 ∧ c ≠ 44
  · rw [V0_o h]
    have e : Int32.toInt 0 = 0 := by decide
    rw [e]
    exact zX (by omega)
  · have h2 : (c = 0 ∧ k = 7) ∨ (c = 1 ∧ k = 1) ∨ (c = 1 ∧ k = 2) ∨ (c = 2 ∧ k = 6) ∨ (c = 3 ∧ k = 12) ∨ c = 23 ∨ c = 25 ∨ c = 44 := by omega
    rcases h2 with ⟨rfl, rfl⟩ | ⟨rfl, rfl⟩ | ⟨rfl, rfl⟩ | ⟨rfl, rfl⟩ | ⟨rfl, rfl⟩ | rfl | rfl | rfl
    · exact ⟨(show (0 : Int) ≤ Int32.toInt 1 from by decide), (show Int32.toInt 1 ≤ (1 : Int) from by decide)⟩
    · exact ⟨(show (-1 : Int) ≤ Int32.toInt (-1) from by decide), (show Int32.toInt (-1) ≤ (1 : Int) from by decide)⟩
    · exact ⟨(show (-1 : Int) ≤ Int32.toInt (-1) from by decide), (show Int32.toInt (-1) ≤ (47 : Int) from by decide)⟩
    · exact ⟨(show (-1 : Int) ≤ Int32.toInt (-1) from by decide), (show Int32.toInt (-1) ≤ (1 : Int) from by decide)⟩
    · exact ⟨(show (1 : Int) ≤ Int32.toInt 1 from by decide), (show Int32.toInt 1 ≤ (40 : Int) from by decide)⟩
    · show (0 : Int) ≤ (if k = 0 then (1 : Int32) else 0).toInt ∧ (if k = 0 then (1 : Int32) else 0).toInt ≤ (1 : Int)
      split <;> decide
    · show (-1 : Int) ≤ (u.2.2.1 k).toInt ∧ (u.2.2.1 k).toInt ≤ (299 : Int)
      rw [hg]
      split <;> decide
    · exact i_full _
theorem HI_0 {u : HU} (hg : ∀ q : Nat, u.2.2.1 q = if q < 960 then -1 else 0) : HI (V0 u) (Z0 u) 0 := by
  have z : Int32.toInt 0 = 0 := by decide
  have e13 : (V0 u 3 13).toInt = 0 := z
  have e15 : (V0 u 3 15).toInt = 0 := z
  have e44 : (V0 u 44 0).toInt = 60900 := (show Int32.toInt 60900 = 60900 from by decide)
  have ln : (Z0 u).ln = 512 := rfl
  refine ⟨⟨by rw [e15, ln]; decide, by rw [ln]; decide, fun o k a1 _ => absurd a1 (by omega), fun i a1 => absurd a1 (by omega)⟩, (show 0 ≤ 400 from by decide), fun o ho => absurd ho (by omega), by omega, by omega, TX.zero (show Int32.toInt 0 = 0 from z) (show Int32.toInt 0 = 0 from z), CD.zero (show Int32.toInt 0 = 0 from z), z, Or.inl rfl, fun k hk => ?_⟩
  have e25 : (V0 u 25 k).toInt = -1 := by
    show (u.2.2.1 k).toInt = -1
    rw [hg, if_pos hk]
    decide
  rw [e25, e13]
  exact ⟨by decide, fun o h1 => absurd h1 (by omega)⟩
def Vm0 : Vf := fun c k => match c with
  | 0 => if k = 55 then 1 else 0
  | 56 => upd (fun _ => 0) 0 1 k
  | _ => 0
def Lm0 (g : Nat → Int64) : Lf := fun c k => match c with
  | 10 => g k
  | _ => 0
theorem Vm0_o {c k : Nat} (h : ¬ (c = 0 ∧ k = 55) ∧ c ≠ 56) : Vm0 c k = 0 := by
  unfold Vm0
  split
  · rw [if_neg (by omega)]
  · omega
  · rfl
theorem Vm0_rgd : rgd bM Vm0 := by
  intro c k
  by_cases h : ¬ (c = 0 ∧ k = 55) ∧ c ≠ 56
  · rw [Vm0_o h]
    have e : Int32.toInt 0 = 0 := by decide
    rw [e]
    exact zM h.1
  · have h2 : (c = 0 ∧ k = 55) ∨ c = 56 := by omega
    rcases h2 with ⟨rfl, rfl⟩ | rfl
    · decide
    · show (0 : Int) ≤ (if k = 0 then (1 : Int32) else 0).toInt ∧ (if k = 0 then (1 : Int32) else 0).toInt ≤ (1 : Int)
      split <;> decide
theorem TI_0 : TI Vm0 0 := by
  have z : Int32.toInt 0 = 0 := by decide
  have e19 : ∀ k, (Vm0 19 k).toInt = 0 := fun _ => z
  have e39 : ∀ k, (Vm0 39 k).toInt = 0 := fun _ => z
  refine ⟨RT0.none ⟨fun i hi => absurd hi (by rw [e19]; omega), fun i hi => absurd hi (by rw [e39]; omega)⟩ z z z, ?_, ?_, ?_⟩
  · show Int32.toInt 0 ≤ Int32.toInt 0
    decide
  · show Int32.toInt 0 - Int32.toInt 0 ≤ 300 * ((0 : Nat) : Int)
    decide
  · show Int32.toInt 0 - Int32.toInt 0 - Int32.toInt 0 ≤ 3000 * ((0 : Nat) : Int)
    decide
theorem wd_0 {g : Nat → Int64} (h : ∀ j : Nat, g j = kg 155 j) : wd (Lm0 g) := by
  intro j k hj hk hn
  show g j ≠ g k
  rw [h, h]
  exact kg_ne j hj k hk hn
theorem TI.mono {V : Vf} {n : Nat} (h : TI V n) : TI V (n + 1) := ⟨h.1, h.2.1, by have := h.2.2.1; omega, by have := h.2.2.2; omega⟩
theorem KMB_0 {u : HU} : KMB (V0 u) 0 Vm0 St0 := by
  have z : Int32.toInt 0 = 0 := by decide
  have o : Int32.toInt 1 = 1 := by decide
  have nz : ∀ n : Nat, ¬ n < 0 := fun n => Nat.not_lt_zero n
  have nb : ∀ v, bW (St0, v) = [] := fun v => List.eq_nil_of_length_eq_zero (bW_len (B := (St0, v)) (fun w hw => absurd hw (nz w)))
  have c0 : ∀ {c k : Nat}, (¬ (c = 0 ∧ k = 7) ∧ ¬ (c = 1 ∧ k = 1) ∧ ¬ (c = 1 ∧ k = 2) ∧ ¬ (c = 2 ∧ k = 6) ∧ ¬ (c = 3 ∧ k = 12) ∧ c ≠ 23 ∧ c ≠ 25 ∧ c ≠ 44) → (V0 u c k).toInt = 0 := fun h => by rw [V0_o h]; exact z
  have m0 : ∀ {c k : Nat}, (¬ (c = 0 ∧ k = 55) ∧ c ≠ 56) → (Vm0 c k).toInt = 0 := fun h => by rw [Vm0_o h]; exact z
  have k12 : (V0 u 3 12).toInt = 1 := o
  have k55 : (Vm0 0 55).toInt = 1 := o
  have k56 : (Vm0 56 0).toInt = 1 := o
  have x02 : mV Vm0 0 0 0 0 2 = 0 := m0 (by omega)
  have x05 : mV Vm0 0 0 0 0 5 = 0 := m0 (by omega)
  refine ⟨⟨fun v => ⟨fun c k hb => ?_, fun i hi => ?_⟩, fun w hw => absurd hw (nz w), fun v c me i => ?_, fun c hc => absurd hc (nz c), ⟨fun c hc => absurd hc (nz c), fun i hi => absurd hi (nz i)⟩, ⟨Nat.zero_le _, Nat.zero_le _, Nat.zero_le _⟩⟩, ⟨⟨c0 (by omega), fun i hi => absurd hi (nz i)⟩, ⟨Nat.zero_le _, fun c hc => absurd hc (nz c), fun j _ _ => Nat.zero_le _, fun j _ _ => rfl⟩, ⟨⟨Nat.zero_le _, fun w hw => absurd hw (nz w)⟩, c0 (by omega), fun i hi => ?_⟩, ⟨c0 (by omega), Nat.zero_le _, fun c hc => absurd hc (nz c)⟩, fun i hi => absurd hi (nz i), fun w hw => absurd hw (nz w), ⟨fun c hc => absurd hc (nz c), fun i hi => absurd hi (nz i)⟩, Nat.zero_le _⟩, ⟨fun i hi => absurd hi (nz i), fun c hc => absurd hc (nz c), ⟨m0 (by omega), Nat.zero_le _, fun w hw => absurd hw (nz w)⟩, ⟨m0 (by omega), Nat.zero_le _, fun c hc => absurd hc (nz c)⟩, fun i hi => absurd hi (nz i)⟩, ⟨fun _ => 0, ⟨⟨⟨?_, ?_, ?_, ?_⟩, ⟨?_, ?_⟩, fun i _ hi => ?_⟩, fun x hx => ?_, fun x k hx _ => ?_, ⟨⟨⟨by omega, by omega⟩, fun s _ _ => V0_o (by omega)⟩, fun s _ => ?_, fun s hs => ?_⟩, ⟨fun pl c _ hc _ => absurd hc (nz c), fun x y _ hy => ?_⟩⟩⟩, ⟨m0 (by omega), k56, fun j h1 h2 => ?_⟩, ⟨k12.trans k55.symm, fun s h1 h2 => ?_⟩, ⟨(c0 (by omega)).trans (m0 (by omega)).symm, (c0 (by omega)).trans (m0 (by omega)).symm, ?_⟩, fun h => ?_⟩
  · unfold bE at hb
    rw [if_neg (fun q => absurd q.1 (nz c))] at hb
    exact absurd rfl hb
  · rw [nb v] at hi
    exact absurd hi (nz i)
  · rw [nb v, List.take_nil]
    exact Nat.zero_le _
  · rw [nb] at hi
    exact absurd hi (nz i)
  · exact (c0 (by omega)).trans (m0 (by omega)).symm
  · exact (c0 (by omega)).trans (m0 (by omega)).symm
  · exact (c0 (by omega)).trans (m0 (by omega)).symm
  · exact (c0 (by omega)).trans (m0 (by omega)).symm
  · rw [x05, c0 (by omega)]
    rfl
  · rw [x05]
    exact Int.le_refl _
  · rw [x05] at hi
    omega
  · rw [x02] at hx
    omega
  · rw [x02] at hx
    omega
  · exact (c0 (by omega)).trans (m0 (by omega)).symm
  · have s0 : s = 0 := by omega
    subst s0
    refine ⟨k56.symm ▸ o, fun q => ?_, fun c _ => ?_⟩
    · have q : (Vm0 57 0).toInt = 2 := q
      rw [m0 (by omega)] at q
      exact absurd q (by decide)
    · rw [V0_o (by omega), b_0]
      have y : (Vm0 59 (24 * 0 + c)).toInt = 0 := m0 (by omega)
      exact ⟨fun h => absurd h (by decide), fun h => absurd y h⟩
  · rw [x02] at hy
    omega
  · rw [k55] at h2
    omega
  · omega
  · rw [m0 (by omega)]
    exact Int.le_refl _
  · rw [m0 (by omega)] at h
    exact absurd h (by decide)
theorem LV_0 {u : HU} {g : Nat → Int64} (h11 : ∀ j : Nat, j < 28 → u.2.2.2.1 j = kg 155 j) (hg : ∀ q : Nat, u.2.2.1 q = if q < 960 then -1 else 0) (h : ∀ j : Nat, g j = kg 155 j) : LV 0 (V0 u) (L0 u) (Z0 u) 0 Vm0 (Lm0 g) := by
  have z : Int32.toInt 0 = 0 := by decide
  have o : Int32.toInt 1 = 1 := by decide
  have ls0 : ∀ {f : Nat → Int64}, LSw [] f (Int32.toInt 0) ∧ NDl [] := fun {f} => ⟨⟨rfl, fun i h => absurd h (Nat.not_lt_zero _)⟩, fun i j hi => absurd hi (Nat.not_lt_zero _)⟩
  have e44 : (V0 u 44 0).toInt = 60900 := (show Int32.toInt 60900 = 60900 from by decide)
  refine ⟨⟨V0_rgd hg, HI_0 hg, by decide, z, o⟩, by omega, ⟨Vm0_rgd, TI_0, wd_0 h⟩, rfl, ?_, ⟨fun q hq => absurd hq (Nat.not_lt_zero _), fun q hq => absurd hq (Nat.not_lt_zero _), h11, fun k _ => h k⟩, ⟨St0, ⟨fun j hj => ⟨rfl, fun i hi => absurd hi (Nat.not_lt_zero _)⟩, ⟨ls0, ls0, ls0, ls0, ls0⟩, fun j _ w hw => absurd hw List.not_mem_nil⟩, KEP.z (V0_o (by omega)) (Vm0_o (by omega)), KMB_0, NJz.z (by rw [Vm0_o (by omega)]; decide) (by rw [Vm0_o (by omega)]; decide)⟩, KF.z (by rw [V0_o (by omega)]; decide) (by rw [Vm0_o (by omega)]; decide)⟩
  exact ⟨(show 400 - 0 + (262144 - 512) / 256 ≤ 1422 from by decide), (show 19 * (400 - 0) + 4 * (262144 - 512) ≤ 1054128 from by decide)⟩

theorem nfX11 : ∀ j, j < 10 → defaultValue (tyX11 j) = vp_V [.null, .null, .null, .null, .null, .null, .null, .null, .int 0, .int 0] j := by decide +kernel
theorem w182 : Cond.classLink RL 8 "WiringHouse" ∈ GW := gw_k tk9_1 27 (by decide +kernel) rfl
theorem w183 : Cond.instantiable RX11 10 ∈ GW := gw_k tk9_1 28 (by decide +kernel) rfl
theorem nfX12 : ∀ j, j < 100 → defaultValue (tyX12 j) = vp_V (.int 0 :: .null :: .int 0 :: .int 0 :: .null :: .null :: .null :: .int 0 :: .int 0 :: .null :: .null :: .int 0 :: .int 0 :: .null :: .null :: .null :: .null :: .null :: .null :: .null :: .null :: .null :: .null :: .null :: .null :: .null :: .null :: .null :: .null :: .null :: .null :: .null :: .null :: .null :: .null :: .null :: .null :: .null :: .null :: .null :: .null :: .null :: .null :: .null :: .null :: .null :: .null :: .null :: .int 0 :: .int 0 :: .int 0 :: .int 0 :: .int 0 :: .null :: .int 0 :: .int 0 :: .null :: .null :: .null :: .null :: .int 0 :: .null :: .null :: .null :: .null :: .int 0 :: .null :: .null :: .int 0 :: .int 0 :: .int 0 :: .int 0 :: .int 0 :: .int 0 :: .null :: .null :: .int 0 :: .null :: .null :: .null :: .null :: .int 0 :: .null :: .null :: .null :: .null :: .null :: .null :: .null :: .int 0 :: .int 0 :: .int 0 :: .int 0 :: .int 0 :: .null :: .int 0 :: .int 0 :: .null :: .int 0 :: .int 0 :: []) j := by decide +kernel
theorem w1690 : Cond.classLink RL 19 "WiringHouseModel" ∈ GW := gw_k tk9_7 95 (by decide +kernel) rfl
theorem w1688 : Cond.instantiable RX12 100 ∈ GW := gw_k tk9_7 93 (by decide +kernel) rfl
theorem hdS_yX11_init : yX11_init.cls ≠ "java/lang/invoke/MethodHandle" ∧ yX11_init.cls ≠ "java/lang/invoke/VarHandle" ∧ (parseMethodDescriptor yX11_init.desc).map (fun d => d.parameters.length) = some 0 := by decide +kernel
theorem w186 : Cond.code yX11_init cX11_init 1 none ∈ GW := gw_k tk9_1 31 (rfl) rfl
theorem w184 : Cond.methodLink RL 18 yX11_init ∈ GW := gw_k tk9_1 29 (by decide +kernel) rfl
theorem w185 : Cond.instanceMethod yX11_init ∈ GW := gw_k tk9_1 30 (by decide +kernel) rfl
theorem hdS_yX12_init : yX12_init.cls ≠ "java/lang/invoke/MethodHandle" ∧ yX12_init.cls ≠ "java/lang/invoke/VarHandle" ∧ (parseMethodDescriptor yX12_init.desc).map (fun d => d.parameters.length) = some 0 := by decide +kernel
set_option maxRecDepth 100000 in
theorem w1693 : Cond.code yX12_init cX12_init 6 none ∈ GW := List.mem_filter.mpr ⟨List.mem_append_right _ (show _ ∈ tables_1 from List.mem_append_right _ (List.mem_append_right _ (List.mem_append_right _ (List.mem_append_right _ (List.mem_append_right _ (List.mem_append_right _ (List.mem_append_left _ (List.mem_of_getElem? (i := 98) rfl)))))))), rfl⟩
theorem w1691 : Cond.methodLink RL 21 yX12_init ∈ GW := gw_k tk9_7 96 (by decide +kernel) rfl
theorem w1692 : Cond.instanceMethod yX12_init ∈ GW := gw_k tk9_7 97 (by decide +kernel) rfl
theorem dk9_dL_law_0_0 : dOk cL_law [(0, .new 8, 3), (3, .dup, 1), (4, .invokespecial 18, 3), (7, .astore_n 1, 1), (8, .new 19, 3), (11, .dup, 1), (12, .invokespecial 21, 3), (15, .astore_n 2, 1), (16, .iconst 1, 1), (17, .newarray .long, 2), (19, .astore_n 3, 1), (20, .iconst 0, 1), (21, .istore 4, 2), (23, .iload 4, 2), (25, .aload_n 0, 1), (26, .arraylength, 1), (27, .bipush 7, 2), (29, .isub, 1), (30, .if_icmp .gt 942, 3), (33, .aload_n 0, 1), (34, .iload 4, 2), (36, .iaload, 1), (37, .bipush 31, 2), (39, .iand, 1)] = true ∧ dOk cL_law [(40, .tableswitch 926 0 21 #[104, 251, 264, 289, 326, 339, 376, 413, 453, 502, 515, 540, 577, 638, 663, 676, 701, 741, 790, 827, 864, 901], 104), (966, .iinc 4 7, 3), (969, .goto (-946), 3), (972, .iconst 1, 1), (973, .ireturn, 1)] = true := by decide +kernel
theorem dL_law_0 : decode cL_law 0 = .ok (.new 8, 3) := dr9 dk9_dL_law_0_0.1 0 (0, .new 8, 3) rfl
theorem dL_law_3 : decode cL_law 3 = .ok (.dup, 1) := dr9 dk9_dL_law_0_0.1 1 (3, .dup, 1) rfl
theorem dL_law_4 : decode cL_law 4 = .ok (.invokespecial 18, 3) := dr9 dk9_dL_law_0_0.1 2 (4, .invokespecial 18, 3) rfl
theorem dL_law_7 : decode cL_law 7 = .ok (.astore_n 1, 1) := dr9 dk9_dL_law_0_0.1 3 (7, .astore_n 1, 1) rfl
theorem dL_law_8 : decode cL_law 8 = .ok (.new 19, 3) := dr9 dk9_dL_law_0_0.1 4 (8, .new 19, 3) rfl
theorem dL_law_11 : decode cL_law 11 = .ok (.dup, 1) := dr9 dk9_dL_law_0_0.1 5 (11, .dup, 1) rfl
theorem dL_law_12 : decode cL_law 12 = .ok (.invokespecial 21, 3) := dr9 dk9_dL_law_0_0.1 6 (12, .invokespecial 21, 3) rfl
theorem dL_law_15 : decode cL_law 15 = .ok (.astore_n 2, 1) := dr9 dk9_dL_law_0_0.1 7 (15, .astore_n 2, 1) rfl
theorem dL_law_16 : decode cL_law 16 = .ok (.iconst 1, 1) := dr9 dk9_dL_law_0_0.1 8 (16, .iconst 1, 1) rfl
theorem dL_law_17 : decode cL_law 17 = .ok (.newarray .long, 2) := dr9 dk9_dL_law_0_0.1 9 (17, .newarray .long, 2) rfl
theorem dL_law_19 : decode cL_law 19 = .ok (.astore_n 3, 1) := dr9 dk9_dL_law_0_0.1 10 (19, .astore_n 3, 1) rfl
theorem dL_law_20 : decode cL_law 20 = .ok (.iconst 0, 1) := dr9 dk9_dL_law_0_0.1 11 (20, .iconst 0, 1) rfl
theorem dL_law_21 : decode cL_law 21 = .ok (.istore 4, 2) := dr9 dk9_dL_law_0_0.1 12 (21, .istore 4, 2) rfl
theorem dL_law_23 : decode cL_law 23 = .ok (.iload 4, 2) := dr9 dk9_dL_law_0_0.1 13 (23, .iload 4, 2) rfl
theorem dL_law_25 : decode cL_law 25 = .ok (.aload_n 0, 1) := dr9 dk9_dL_law_0_0.1 14 (25, .aload_n 0, 1) rfl
theorem dL_law_26 : decode cL_law 26 = .ok (.arraylength, 1) := dr9 dk9_dL_law_0_0.1 15 (26, .arraylength, 1) rfl
theorem dL_law_27 : decode cL_law 27 = .ok (.bipush 7, 2) := dr9 dk9_dL_law_0_0.1 16 (27, .bipush 7, 2) rfl
theorem dL_law_29 : decode cL_law 29 = .ok (.isub, 1) := dr9 dk9_dL_law_0_0.1 17 (29, .isub, 1) rfl
theorem dL_law_30 : decode cL_law 30 = .ok (.if_icmp .gt 942, 3) := dr9 dk9_dL_law_0_0.1 18 (30, .if_icmp .gt 942, 3) rfl
theorem dL_law_33 : decode cL_law 33 = .ok (.aload_n 0, 1) := dr9 dk9_dL_law_0_0.1 19 (33, .aload_n 0, 1) rfl
theorem dL_law_34 : decode cL_law 34 = .ok (.iload 4, 2) := dr9 dk9_dL_law_0_0.1 20 (34, .iload 4, 2) rfl
theorem dL_law_36 : decode cL_law 36 = .ok (.iaload, 1) := dr9 dk9_dL_law_0_0.1 21 (36, .iaload, 1) rfl
theorem dL_law_37 : decode cL_law 37 = .ok (.bipush 31, 2) := dr9 dk9_dL_law_0_0.1 22 (37, .bipush 31, 2) rfl
theorem dL_law_39 : decode cL_law 39 = .ok (.iand, 1) := dr9 dk9_dL_law_0_0.1 23 (39, .iand, 1) rfl
theorem dL_law_40 : decode cL_law 40 = .ok (.tableswitch 926 0 21 #[104, 251, 264, 289, 326, 339, 376, 413, 453, 502, 515, 540, 577, 638, 663, 676, 701, 741, 790, 827, 864, 901], 104) := dr9 dk9_dL_law_0_0.2 0 (40, .tableswitch 926 0 21 #[104, 251, 264, 289, 326, 339, 376, 413, 453, 502, 515, 540, 577, 638, 663, 676, 701, 741, 790, 827, 864, 901], 104) rfl
theorem dL_law_966 : decode cL_law 966 = .ok (.iinc 4 7, 3) := dr9 dk9_dL_law_0_0.2 1 (966, .iinc 4 7, 3) rfl
theorem dL_law_969 : decode cL_law 969 = .ok (.goto (-946), 3) := dr9 dk9_dL_law_0_0.2 2 (969, .goto (-946), 3) rfl
theorem dL_law_972 : decode cL_law 972 = .ok (.iconst 1, 1) := dr9 dk9_dL_law_0_0.2 3 (972, .iconst 1, 1) rfl
theorem dL_law_973 : decode cL_law 973 = .ok (.ireturn, 1) := dr9 dk9_dL_law_0_0.2 4 (973, .ireturn, 1) rfl
set_option maxHeartbeats 4000000 in
set_option maxRecDepth 100000 in
theorem law_loop {p : Program} {e : Env} {s : State} {m : MethodId} {below : List Frame} {meth : Method} {c : Code} (l : Launch) (hst : l.stackTraces = false) {b L : Nat} {xs : Nat → Int32} (hL0 : L ≤ 3584) (C0 : lw_At p s m meth c b L xs) {A : Nat → Prop} (hA : ∀ q, s.heap.size ≤ q → A q) (hAr : ∀ q, A q → s.heap.size ≤ q) (D : va_G) (ks : KS) (kx : KX) (hnw : nw s) (hgk : gk ks A s s.heap) (hgx : gx kx A s s.heap) (ad : Nat → Nat) (kk : Nat → ClassId) (am : Nat → Nat) (km : Nat → ClassId) (ao : Nat) (ka : ClassId) (hKm : va_K D vwCl (mty km) s) (hKo : va_K D vwCl [(ka, .long)] s) : ∀ (fu n : Nat), 7 * n ≤ L → L < 7 * n + fu → LNx p l e s m below meth c b D A ks ad kk am km ao ka n 23 (7 * n) := by
  obtain ⟨hx, hb, hr, hml, hown, hts, hX, hbl, hlocks, hgv⟩ := id C0
  replace hown : s.vm.findClass RL = some m.cls := hown
  have hg : ∀ w ∈ GW, w.before #[Value.ref b] s = true := fun w h => hts w (gw_tbl h)
  have hbA : ¬ A b := fun h => absurd (hAr b h) (Nat.not_le.mpr hbl)
  intro fu
  induction fu with
  | zero => intro n h1 h2; omega
  | succ fu ih =>
    intro n h1 h2 V LX Z bb Vm Lm f H locs ls hV hL hKx hS hl
    have hz := hV.2.2.2.2.1
    refine lv_iload hx hb dL_law_23 (lv_at hl 0 rfl) ?_
    refine lv_aload_n hx hb dL_law_25 rfl (lv_at hl 4 rfl) ?_
    refine va_slen hx hb hX hbl hbA hS dL_law_26 ?_
    refine lv_bipush (v := 7) hx hb dL_law_27 (by decide) ?_
    refine lv_isub hx hb dL_law_29 ?_
    have hy : (Int32.ofNat L - 7).toInt = (L : Int) - 7 := i_sub rfl (nI_toInt (n := L) (by omega)) (by decide) (by (first | exact om_b5fdb152eadb hL0 | omega))
    have hi : (nI (7 * n)).toInt = ((7 * n : Nat) : Int) := nI_toInt (by omega)
    refine lv_icmp_gt (tgt := 972) hx hb dL_law_30 (by decide) (fun q => ?_) (fun q => ?_)
    · refine lv_iconst (v := 1) hx hb dL_law_972 (by decide) ?_
      refine va_forget (fun q hq => hAr _ (hS.2.2 q hq)) ?_
      refine W.widen (k := 601024) (n := 7293034) (by omega) (by omega) ?_
      exact lw_ret hx hb hr hlocks dL_law_973
    · have hn : 7 * n + 7 ≤ L := by
        have q2 : ¬ (Int32.ofNat L - 7).toInt < (nI (7 * n)).toInt := fun h => q (Int32.lt_iff_toInt_lt.mpr h)
        omega
      have hN : LNx p l e s m below meth c b D A ks ad kk am km ao ka (n + 1) 966 (7 * n) := by
        intro V LX Z bb Vm Lm f H locs ls hV hL hKx hS hl
        refine lv_iinc (v := (nI (7 * n + 7))) (lv' := [(4, .int (nI (7 * n + 7))), (3, .ref ao), (2, .ref (am 0)), (1, .ref (ad 0)), (0, .ref b)]) hx hb dL_law_966 hl (k := 0) rfl (nI_add (7 * n) 7) (by decide) rfl (fun ls hl => ?_)
        refine lv_goto (tgt := 23) hx hb dL_law_969 (by decide) ?_
        exact ih (n + 1) (by omega) (by omega) V LX Z bb Vm Lm f H locs ls hV hL hKx hS hl
      refine lv_aload_n hx hb dL_law_33 rfl (lv_at hl 4 rfl) ?_
      refine lv_iload hx hb dL_law_34 (lv_at hl 0 rfl) ?_
      refine va_sld (i := nI (7 * n)) hx hb hX hbl hbA hS (vp_in_nI (by omega) (by omega)) dL_law_36 ?_
      refine lv_bipush (v := 31) hx hb dL_law_37 (by decide) ?_
      refine lv_iand hx hb dL_law_39 ?_
      refine lv_topi (fun sw esw => ?_)
      by_cases hq0 : sw = 0
      · subst hq0
        refine lv_tableIn (x := 0) (off := 104) (tgt := 144) hx hb dL_law_40 (by decide) (by decide) (by decide) (by decide) ?_
        exact law_c0 l hst hL0 C0 hA hAr D ks kx hnw hgk hgx ad kk am km ao ka hKm hKo n hn hN V LX Z bb Vm Lm f hV hL hKx hS hl
      by_cases hq1 : sw = 1
      · subst hq1
        refine lv_tableIn (x := 1) (off := 251) (tgt := 291) hx hb dL_law_40 (by decide) (by decide) (by decide) (by decide) ?_
        exact law_c1 l hst hL0 C0 hA hAr D ks kx hnw hgk hgx ad kk am km ao ka hKm hKo n hn hN V LX Z bb Vm Lm f hV hL hKx hS hl
      by_cases hq2 : sw = 2
      · subst hq2
        refine lv_tableIn (x := 2) (off := 264) (tgt := 304) hx hb dL_law_40 (by decide) (by decide) (by decide) (by decide) ?_
        exact law_c2 l hst hL0 C0 hA hAr D ks kx hnw hgk hgx ad kk am km ao ka hKm hKo n hn hN V LX Z bb Vm Lm f hV hL hKx hS hl
      by_cases hq3 : sw = 3
      · subst hq3
        refine lv_tableIn (x := 3) (off := 289) (tgt := 329) hx hb dL_law_40 (by decide) (by decide) (by decide) (by decide) ?_
        exact law_c3 l hst hL0 C0 hA hAr D ks kx hnw hgk hgx ad kk am km ao ka hKm hKo n hn hN V LX Z bb Vm Lm f hV hL hKx hS hl
      by_cases hq4 : sw = 4
      · subst hq4
        refine lv_tableIn (x := 4) (off := 326) (tgt := 366) hx hb dL_law_40 (by decide) (by decide) (by decide) (by decide) ?_
        exact law_c4 l hst hL0 C0 hA hAr D ks kx hnw hgk hgx ad kk am km ao ka hKm hKo n hn hN V LX Z bb Vm Lm f hV hL hKx hS hl
      by_cases hq5 : sw = 5
      · subst hq5
        refine lv_tableIn (x := 5) (off := 339) (tgt := 379) hx hb dL_law_40 (by decide) (by decide) (by decide) (by decide) ?_
        exact law_c5 l hst hL0 C0 hA hAr D ks kx hnw hgk hgx ad kk am km ao ka hKm hKo n hn hN V LX Z bb Vm Lm f hV hL hKx hS hl
      by_cases hq6 : sw = 6
      · subst hq6
        refine lv_tableIn (x := 6) (off := 376) (tgt := 416) hx hb dL_law_40 (by decide) (by decide) (by decide) (by decide) ?_
        exact law_c6 l hst hL0 C0 hA hAr D ks kx hnw hgk hgx ad kk am km ao ka hKm hKo n hn hN V LX Z bb Vm Lm f hV hL hKx hS hl
      by_cases hq7 : sw = 7
      · subst hq7
        refine lv_tableIn (x := 7) (off := 413) (tgt := 453) hx hb dL_law_40 (by decide) (by decide) (by decide) (by decide) ?_
        exact law_c7 l hst hL0 C0 hA hAr D ks kx hnw hgk hgx ad kk am km ao ka hKm hKo n hn hN V LX Z bb Vm Lm f hV hL hKx hS hl
      by_cases hq8 : sw = 8
      · subst hq8
        refine lv_tableIn (x := 8) (off := 453) (tgt := 493) hx hb dL_law_40 (by decide) (by decide) (by decide) (by decide) ?_
        exact law_c8 l hst hL0 C0 hA hAr D ks kx hnw hgk hgx ad kk am km ao ka hKm hKo n hn hN V LX Z bb Vm Lm f hV hL hKx hS hl
      by_cases hq9 : sw = 9
      · subst hq9
        refine lv_tableIn (x := 9) (off := 502) (tgt := 542) hx hb dL_law_40 (by decide) (by decide) (by decide) (by decide) ?_
        exact law_c9 l hst hL0 C0 hA hAr D ks kx hnw hgk hgx ad kk am km ao ka hKm hKo n hn hN V LX Z bb Vm Lm f hV hL hKx hS hl
      by_cases hq10 : sw = 10
      · subst hq10
        refine lv_tableIn (x := 10) (off := 515) (tgt := 555) hx hb dL_law_40 (by decide) (by decide) (by decide) (by decide) ?_
        exact law_c10 l hst hL0 C0 hA hAr D ks kx hnw hgk hgx ad kk am km ao ka hKm hKo n hn hN V LX Z bb Vm Lm f hV hL hKx hS hl
      by_cases hq11 : sw = 11
      · subst hq11
        refine lv_tableIn (x := 11) (off := 540) (tgt := 580) hx hb dL_law_40 (by decide) (by decide) (by decide) (by decide) ?_
        exact law_c11 l hst hL0 C0 hA hAr D ks kx hnw hgk hgx ad kk am km ao ka hKm hKo n hn hN V LX Z bb Vm Lm f hV hL hKx hS hl
      by_cases hq12 : sw = 12
      · subst hq12
        refine lv_tableIn (x := 12) (off := 577) (tgt := 617) hx hb dL_law_40 (by decide) (by decide) (by decide) (by decide) ?_
        exact law_c12 l hst hL0 C0 hA hAr D ks kx hnw hgk hgx ad kk am km ao ka hKm hKo n hn hN V LX Z bb Vm Lm f hV hL hKx hS hl
      by_cases hq13 : sw = 13
      · subst hq13
        refine lv_tableIn (x := 13) (off := 638) (tgt := 678) hx hb dL_law_40 (by decide) (by decide) (by decide) (by decide) ?_
        exact law_c13 l hst hL0 C0 hA hAr D ks kx hnw hgk hgx ad kk am km ao ka hKm hKo n hn hN V LX Z bb Vm Lm f hV hL hKx hS hl
      by_cases hq14 : sw = 14
      · subst hq14
        refine lv_tableIn (x := 14) (off := 663) (tgt := 703) hx hb dL_law_40 (by decide) (by decide) (by decide) (by decide) ?_
        exact law_c14 l hst hL0 C0 hA hAr D ks kx hnw hgk hgx ad kk am km ao ka hKm hKo n hn hN V LX Z bb Vm Lm f hV hL hKx hS hl
      by_cases hq15 : sw = 15
      · subst hq15
        refine lv_tableIn (x := 15) (off := 676) (tgt := 716) hx hb dL_law_40 (by decide) (by decide) (by decide) (by decide) ?_
        exact law_c15 l hst hL0 C0 hA hAr D ks kx hnw hgk hgx ad kk am km ao ka hKm hKo n hn hN V LX Z bb Vm Lm f hV hL hKx hS hl
      by_cases hq16 : sw = 16
      · subst hq16
        refine lv_tableIn (x := 16) (off := 701) (tgt := 741) hx hb dL_law_40 (by decide) (by decide) (by decide) (by decide) ?_
        exact law_c16 l hst hL0 C0 hA hAr D ks kx hnw hgk hgx ad kk am km ao ka hKm hKo n hn hN V LX Z bb Vm Lm f hV hL hKx hS hl
      by_cases hq17 : sw = 17
      · subst hq17
        refine lv_tableIn (x := 17) (off := 741) (tgt := 781) hx hb dL_law_40 (by decide) (by decide) (by decide) (by decide) ?_
        exact law_c17 l hst hL0 C0 hA hAr D ks kx hnw hgk hgx ad kk am km ao ka hKm hKo n hn hN V LX Z bb Vm Lm f hV hL hKx hS hl
      by_cases hq18 : sw = 18
      · subst hq18
        refine lv_tableIn (x := 18) (off := 790) (tgt := 830) hx hb dL_law_40 (by decide) (by decide) (by decide) (by decide) ?_
        exact law_c18 l hst hL0 C0 hA hAr D ks kx hnw hgk hgx ad kk am km ao ka hKm hKo n hn hN V LX Z bb Vm Lm f hV hL hKx hS hl
      by_cases hq19 : sw = 19
      · subst hq19
        refine lv_tableIn (x := 19) (off := 827) (tgt := 867) hx hb dL_law_40 (by decide) (by decide) (by decide) (by decide) ?_
        exact law_c19 l hst hL0 C0 hA hAr D ks kx hnw hgk hgx ad kk am km ao ka hKm hKo n hn hN V LX Z bb Vm Lm f hV hL hKx hS hl
      by_cases hq20 : sw = 20
      · subst hq20
        refine lv_tableIn (x := 20) (off := 864) (tgt := 904) hx hb dL_law_40 (by decide) (by decide) (by decide) (by decide) ?_
        exact law_c20 l hst hL0 C0 hA hAr D ks kx hnw hgk hgx ad kk am km ao ka hKm hKo n hn hN V LX Z bb Vm Lm f hV hL hKx hS hl
      by_cases hq21 : sw = 21
      · subst hq21
        refine lv_tableIn (x := 21) (off := 901) (tgt := 941) hx hb dL_law_40 (by decide) (by decide) (by decide) (by decide) ?_
        exact law_c21 l hst hL0 C0 hA hAr D ks kx hnw hgk hgx ad kk am km ao ka hKm hKo n hn hN V LX Z bb Vm Lm f hV hL hKx hS hl
      refine lv_tableOut (x := sw) (tgt := 966) hx hb dL_law_40 (tab_out sw 21 (by decide) (fun k hk => match k, hk with | 0, _ => hq0 | 1, _ => hq1 | 2, _ => hq2 | 3, _ => hq3 | 4, _ => hq4 | 5, _ => hq5 | 6, _ => hq6 | 7, _ => hq7 | 8, _ => hq8 | 9, _ => hq9 | 10, _ => hq10 | 11, _ => hq11 | 12, _ => hq12 | 13, _ => hq13 | 14, _ => hq14 | 15, _ => hq15 | 16, _ => hq16 | 17, _ => hq17 | 18, _ => hq18 | 19, _ => hq19 | 20, _ => hq20 | 21, _ => hq21 | k + 22, hk => absurd hk (by omega))) (by decide) ?_
      obtain ⟨v1, v2, v3, v4, v5⟩ := hV
      refine W.widen (k := 404 + (1422 - zcc Z) + (n + 1)) (n := 216048 + (1054128 - zss Z) + 6 * (n + 1)) (by omega) (by omega) ?_
      exact hN V LX Z bb Vm Lm f H locs ls ⟨v1, by omega, ⟨v3.1, v3.2.1.mono, v3.2.2⟩, v4, v5⟩ hL hKx hS hl
set_option maxHeartbeats 4000000 in
set_option maxRecDepth 100000 in
theorem law_body {p : Program} {e : Env} {s : State} {m : MethodId} {below : List Frame} {meth : Method} {c : Code} (l : Launch) (hst : l.stackTraces = false) {b L : Nat} {xs : Nat → Int32} (hL0 : L ≤ 3584) (C0 : lw_At p s m meth c b L xs) {A : Nat → Prop} (hA : ∀ q, s.heap.size ≤ q → A q) (hAr : ∀ q, A q → s.heap.size ≤ q) (D : va_G) (ks : KS) (kx : KX) (hnw : nw s) (hgk : gk ks A s s.heap) (hgx : gx kx A s s.heap) {H : Heap} {locs : List Loc} {ls : Array Slot} (hK : va_K D vwCl [] s) (hP : va_P D vwCl [] H) (hD : va_D A []) (hS : va_S A s.heap H locs) (hl : lv_has ls 7 [(0, .ref b)]) : W p l e room_1 s m #[Value.ref b] below meth c H locs (0) (0) (lw_Z below #[Value.ref b] s) (F0 m 0 ls []) := by
  obtain ⟨hx, hb, hr, hml, hown, hts, hX, hbl, hlocks, hgv⟩ := id C0
  replace hown : s.vm.findClass RL = some m.cls := hown
  have hg : ∀ w ∈ GW, w.before #[Value.ref b] s = true := fun w h => hts w (gw_tbl h)
  have hbA : ¬ A b := fun h => absurd (hAr b h) (Nat.not_le.mpr hbl)
  refine va_new (ci := 11) (fs := [.null, .null, .null, .null, .null, .null, .null, .null, .int 0, .int 0]) (C := RX11) (T := TX11) (N := 10) hx hb hg inX11 tyX11 tyX11_ok hown (hg _ w182) (hg _ w183) (hg _ w156) hK hP hD hS hA rfl nfX11 (Nat.le_of_ble_eq_true rfl) (Nat.le_of_ble_eq_true rfl) dL_law_0 (fun q1 H hP hD hS => ?_)
  replace hP : va_P D vwCl [(q1, .inr (11, [.null, .null, .null, .null, .null, .null, .null, .null, .int 0, .int 0]))] H := hP
  replace hD : va_D A [(q1, .inr (11, [.null, .null, .null, .null, .null, .null, .null, .null, .int 0, .int 0]))] := hD
  refine lv_dup hx hb dL_law_3 rfl ?_
  refine g_void (wr := []) (tr := []) (g_runI (As := []) (rest := [.ref q1]) (wc := [(q1, .inr (11, [.null, .null, .null, .null, .null, .null, .null, .null, .int 0, .int 0]))]) (tc := []) hx hb hml hown hg gw_self hP hD hK hS hA hnw hgk [0] [] (by decide) rfl rfl (c_House_init l D ks H.size q1) w184 w185 w156 w186 rfl hdS_yX11_init ⟨Nat.le_of_ble_eq_true rfl, Nat.le_of_ble_eq_true rfl⟩ rfl hl.1 rfl (Nat.le_of_ble_eq_true rfl) dL_law_4 ⟨Nat.le_of_ble_eq_true rfl, Nat.le_of_ble_eq_true rfl⟩) hP hD hK hS hA [0] [] [] rfl rfl (by decide) (by decide) rfl (fun u H locs hu hP hD hK hS => ?_)
  replace hP : va_P D vwCl ([] ++ xw (adU u) (kkU u) (V0 u) (L0 u) (Z0 u)) H := hP
  replace hD : va_D A ([] ++ xw (adU u) (kkU u) (V0 u) (L0 u) (Z0 u)) := hD
  replace hK : va_K D vwCl ([] ++ xty (kkU u) (Z0 u)) s := hK
  refine lv_astore_n (lv' := [(1, .ref q1), (0, .ref b)]) hx hb dL_law_7 rfl hl (by decide) rfl (fun ls hl => ?_)
  refine va_new (ci := 12) (fs := (.int 0 :: .null :: .int 0 :: .int 0 :: .null :: .null :: .null :: .int 0 :: .int 0 :: .null :: .null :: .int 0 :: .int 0 :: .null :: .null :: .null :: .null :: .null :: .null :: .null :: .null :: .null :: .null :: .null :: .null :: .null :: .null :: .null :: .null :: .null :: .null :: .null :: .null :: .null :: .null :: .null :: .null :: .null :: .null :: .null :: .null :: .null :: .null :: .null :: .null :: .null :: .null :: .null :: .int 0 :: .int 0 :: .int 0 :: .int 0 :: .int 0 :: .null :: .int 0 :: .int 0 :: .null :: .null :: .null :: .null :: .int 0 :: .null :: .null :: .null :: .null :: .int 0 :: .null :: .null :: .int 0 :: .int 0 :: .int 0 :: .int 0 :: .int 0 :: .int 0 :: .null :: .null :: .int 0 :: .null :: .null :: .null :: .null :: .int 0 :: .null :: .null :: .null :: .null :: .null :: .null :: .null :: .int 0 :: .int 0 :: .int 0 :: .int 0 :: .int 0 :: .null :: .int 0 :: .int 0 :: .null :: .int 0 :: .int 0 :: [])) (C := RX12) (T := TX12) (N := 100) hx hb hg inX12 tyX12 tyX12_ok hown (hg _ w1690) (hg _ w1688) (hg _ w172) hK hP hD hS hA rfl nfX12 (Nat.le_of_ble_eq_true rfl) (Nat.le_of_ble_eq_true rfl) dL_law_8 (fun q2 H hP hD hS => ?_)
  have hP : va_P D vwCl (([] ++ [(q2, .inr (12, (.int 0 :: .null :: .int 0 :: .int 0 :: .null :: .null :: .null :: .int 0 :: .int 0 :: .null :: .null :: .int 0 :: .int 0 :: .null :: .null :: .null :: .null :: .null :: .null :: .null :: .null :: .null :: .null :: .null :: .null :: .null :: .null :: .null :: .null :: .null :: .null :: .null :: .null :: .null :: .null :: .null :: .null :: .null :: .null :: .null :: .null :: .null :: .null :: .null :: .null :: .null :: .null :: .null :: .int 0 :: .int 0 :: .int 0 :: .int 0 :: .int 0 :: .null :: .int 0 :: .int 0 :: .null :: .null :: .null :: .null :: .int 0 :: .null :: .null :: .null :: .null :: .int 0 :: .null :: .null :: .int 0 :: .int 0 :: .int 0 :: .int 0 :: .int 0 :: .int 0 :: .null :: .null :: .int 0 :: .null :: .null :: .null :: .null :: .int 0 :: .null :: .null :: .null :: .null :: .null :: .null :: .null :: .int 0 :: .int 0 :: .int 0 :: .int 0 :: .int 0 :: .null :: .int 0 :: .int 0 :: .null :: .int 0 :: .int 0 :: [])))]) ++ xw (adU u) (kkU u) (V0 u) (L0 u) (Z0 u)) H := va_Prot hP
  have hD : va_D A (([] ++ [(q2, .inr (12, (.int 0 :: .null :: .int 0 :: .int 0 :: .null :: .null :: .null :: .int 0 :: .int 0 :: .null :: .null :: .int 0 :: .int 0 :: .null :: .null :: .null :: .null :: .null :: .null :: .null :: .null :: .null :: .null :: .null :: .null :: .null :: .null :: .null :: .null :: .null :: .null :: .null :: .null :: .null :: .null :: .null :: .null :: .null :: .null :: .null :: .null :: .null :: .null :: .null :: .null :: .null :: .null :: .null :: .int 0 :: .int 0 :: .int 0 :: .int 0 :: .int 0 :: .null :: .int 0 :: .int 0 :: .null :: .null :: .null :: .null :: .int 0 :: .null :: .null :: .null :: .null :: .int 0 :: .null :: .null :: .int 0 :: .int 0 :: .int 0 :: .int 0 :: .int 0 :: .int 0 :: .null :: .null :: .int 0 :: .null :: .null :: .null :: .null :: .int 0 :: .null :: .null :: .null :: .null :: .null :: .null :: .null :: .int 0 :: .int 0 :: .int 0 :: .int 0 :: .int 0 :: .null :: .int 0 :: .int 0 :: .null :: .int 0 :: .int 0 :: [])))]) ++ xw (adU u) (kkU u) (V0 u) (L0 u) (Z0 u)) := va_Drot hD
  refine lv_dup hx hb dL_law_11 rfl ?_
  refine gR_void (we := [] ++ [(q2, .inr (12, (.int 0 :: .null :: .int 0 :: .int 0 :: .null :: .null :: .null :: .int 0 :: .int 0 :: .null :: .null :: .int 0 :: .int 0 :: .null :: .null :: .null :: .null :: .null :: .null :: .null :: .null :: .null :: .null :: .null :: .null :: .null :: .null :: .null :: .null :: .null :: .null :: .null :: .null :: .null :: .null :: .null :: .null :: .null :: .null :: .null :: .null :: .null :: .null :: .null :: .null :: .null :: .null :: .null :: .int 0 :: .int 0 :: .int 0 :: .int 0 :: .int 0 :: .null :: .int 0 :: .int 0 :: .null :: .null :: .null :: .null :: .int 0 :: .null :: .null :: .null :: .null :: .int 0 :: .null :: .null :: .int 0 :: .int 0 :: .int 0 :: .int 0 :: .int 0 :: .int 0 :: .null :: .null :: .int 0 :: .null :: .null :: .null :: .null :: .int 0 :: .null :: .null :: .null :: .null :: .null :: .null :: .null :: .int 0 :: .int 0 :: .int 0 :: .int 0 :: .int 0 :: .null :: .int 0 :: .int 0 :: .null :: .int 0 :: .int 0 :: [])))]) (te := []) (wr := []) (tr := []) (g_runI (As := []) (rest := [.ref q2]) (wc := [(q2, .inr (12, (.int 0 :: .null :: .int 0 :: .int 0 :: .null :: .null :: .null :: .int 0 :: .int 0 :: .null :: .null :: .int 0 :: .int 0 :: .null :: .null :: .null :: .null :: .null :: .null :: .null :: .null :: .null :: .null :: .null :: .null :: .null :: .null :: .null :: .null :: .null :: .null :: .null :: .null :: .null :: .null :: .null :: .null :: .null :: .null :: .null :: .null :: .null :: .null :: .null :: .null :: .null :: .null :: .null :: .int 0 :: .int 0 :: .int 0 :: .int 0 :: .int 0 :: .null :: .int 0 :: .int 0 :: .null :: .null :: .null :: .null :: .int 0 :: .null :: .null :: .null :: .null :: .int 0 :: .null :: .null :: .int 0 :: .int 0 :: .int 0 :: .int 0 :: .int 0 :: .int 0 :: .null :: .null :: .int 0 :: .null :: .null :: .null :: .null :: .int 0 :: .null :: .null :: .null :: .null :: .null :: .null :: .null :: .int 0 :: .int 0 :: .int 0 :: .int 0 :: .int 0 :: .null :: .int 0 :: .int 0 :: .null :: .int 0 :: .int 0 :: [])))]) (tc := []) hx hb hml hown hg gw_self (va_Pl hP) (va_Dl hD) (va_Kl hK) hS hA hnw hgk [0] [] (by decide) rfl rfl (c_Model_init l D ks H.size q2) w1691 w1692 w172 w1693 rfl hdS_yX12_init ⟨Nat.le_of_ble_eq_true rfl, Nat.le_of_ble_eq_true rfl⟩ rfl hl.1 rfl (Nat.le_of_ble_eq_true rfl) dL_law_12 ⟨Nat.le_of_ble_eq_true rfl, Nat.le_of_ble_eq_true rfl⟩) hP hD hK hS hA [0] [] [] rfl rfl (by decide) (by decide) rfl (fun um H locs hum hP hD hK hS => ?_)
  obtain ⟨am, eam⟩ : ∃ z : Nat → Nat, z = fun k => if k = 0 then q2 else um.1 k := ⟨_, rfl⟩
  have hP : va_P D vwCl (mw am um.2.1 ks.1 Vm0 (Lm0 um.2.2) ++ xw (adU u) (kkU u) (V0 u) (L0 u) (Z0 u)) H := by rw [eam]; exact hP
  have hD : va_D A (mw am um.2.1 ks.1 Vm0 (Lm0 um.2.2) ++ xw (adU u) (kkU u) (V0 u) (L0 u) (Z0 u)) := by rw [eam]; exact hD
  replace hK : va_K D vwCl (mty um.2.1 ++ xty (kkU u) (Z0 u)) s := hK
  refine lv_astore_n (lv' := [(2, .ref q2), (1, .ref q1), (0, .ref b)]) hx hb dL_law_15 rfl hl (by decide) rfl (fun ls hl => ?_)
  refine lv_iconst (v := 1) hx hb dL_law_16 (by decide) ?_
  refine va_newa (D := D) (atype := .long) (ty := .long) (n := 1) (N' := 1) (a0 := (1, .inr (.inl (fun _ => 0)))) hx hb (hg _ w296) rfl hK hP hD hS hA (fun _ => rfl) (by decide) (by decide) (by decide) (Nat.le_of_ble_eq_true rfl) (Nat.le_of_ble_eq_true rfl) dL_law_17 (fun ao ka H hK hP hD hS => ?_)
  refine lv_astore_n (lv' := [(3, .ref ao), (2, .ref q2), (1, .ref q1), (0, .ref b)]) hx hb dL_law_19 rfl hl (by decide) rfl (fun ls hl => ?_)
  refine lv_iconst (v := 0) hx hb dL_law_20 (by decide) ?_
  refine lv_istore (lv' := [(4, .int 0), (3, .ref ao), (2, .ref q2), (1, .ref q1), (0, .ref b)]) hx hb dL_law_21 hl (by decide) rfl (fun ls hl => ?_)
  have hu1 : adU u 0 = q1 := hu.2.1
  have ha0 : am 0 = q2 := by rw [eam]; rfl
  have hl : lv_has ls 7 [(4, .int (nI (7 * 0))), (3, .ref ao), (2, .ref (am 0)), (1, .ref (adU u 0)), (0, .ref b)] := by rw [hu1, ha0]; exact hl
  replace hP : va_P D vwCl ((mw am um.2.1 ks.1 Vm0 (Lm0 um.2.2) ++ xw (adU u) (kkU u) (V0 u) (L0 u) (Z0 u)) ++ [(ao, .inl (ka, 1, .inr (.inl (fun _ => 0))))]) H := hP
  replace hD : va_D A ((mw am um.2.1 ks.1 Vm0 (Lm0 um.2.2) ++ xw (adU u) (kkU u) (V0 u) (L0 u) (Z0 u)) ++ [(ao, .inl (ka, 1, .inr (.inl (fun _ => 0))))]) := hD
  replace hK : va_K D vwCl ((mty um.2.1 ++ xty (kkU u) (Z0 u)) ++ [(ka, .long)]) s := hK
  have hL : LI D A H (xw (adU u) (kkU u) (V0 u) (L0 u) (Z0 u)) (mw am um.2.1 ks.1 Vm0 (Lm0 um.2.2)) [(ao, .inl (ka, 1, .inr (.inl (fun _ => 0))))] := ⟨⟨va_Pr (va_Pl hP), va_Pl (va_Pl hP), va_Pr hP⟩, ⟨va_Dr (va_Dl hD), va_Dl (va_Dl hD), va_Dr hD⟩, (dj_ap (va_Dl hD)).sy, (dj_r (dj_ap hD)).sy, (dj_l (dj_ap hD)).sy⟩
  have hc1 : zcc (Z0 u) = 1422 := (show 400 - 0 + (262144 - 512) / 256 = 1422 from by decide)
  have hc2 : zss (Z0 u) = 1054128 := (show 19 * (400 - 0) + 4 * (262144 - 512) = 1054128 from by decide)
  refine W.widen (k := 404 + (1422 - zcc (Z0 u)) + 0) (n := 216048 + (1054128 - zss (Z0 u)) + 6 * 0) (by rw [hc1]; decide) (by rw [hc2]; decide) ?_
  exact law_loop l hst hL0 C0 hA hAr D ks kx hnw hgk hgx (adU u) (kkU u) am um.2.1 ao ka (va_Kl (va_Kl hK)) (va_Kr hK) (L + 1) 0 (by omega) (by omega) (V0 u) (L0 u) (Z0 u) 0 Vm0 (Lm0 um.2.2) (fun _ => 0) H locs ls (LV_0 hu.2.2 hu.1 hum) hL (va_Kr (va_Kl hK)) hS hl
