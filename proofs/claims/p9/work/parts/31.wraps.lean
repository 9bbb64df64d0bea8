/-! the wraps of a method: which, how many, in which order -/
def isWb (V : Vf) (o m ph : Int32) (j : Nat) : Bool := decide (V 41 (12 * nwh V + j) = m ∧ V 43 (12 * nwh V + j) = ph ∧ (V 21 (24 * (24 * nwh V + (V 61 (Int32.toNatClampNeg o)).toInt.toNat) + (V 40 (12 * nwh V + j)).toInt.toNat)).toInt ≠ 0)
def wnum (V : Vf) (j : Nat) : Int := (V 42 (12 * nwh V + j)).toInt
def wmany (V : Vf) : Nat := (V 39 (nwh V)).toInt.toNat
def gwc (f : Nat → Bool) (g : Nat → Int) (n : Int) (w : Nat) : Nat → Nat
  | 0 => 0
  | j + 1 => gwc f g n w j + (if f j = true ∧ (g j < n ∨ (g j = n ∧ j < w)) then 1 else 0)
def wcn (f : Nat → Bool) : Nat → Nat
  | 0 => 0
  | j + 1 => wcn f j + (if f j = true then 1 else 0)
theorem gwc_s (f : Nat → Bool) (g : Nat → Int) (n : Int) (w W : Nat) : gwc f g n w (W + 1) = gwc f g n w W + (if f W = true ∧ (g W < n ∨ (g W = n ∧ W < w)) then 1 else 0) := rfl
theorem wcn_s (f : Nat → Bool) (W : Nat) : wcn f (W + 1) = wcn f W + (if f W = true then 1 else 0) := rfl
theorem ifc {P Q : Prop} [Decidable P] [Decidable Q] (h : P ↔ Q) : (if P then 1 else 0 : Nat) = if Q then 1 else 0 := by
  by_cases p : P
  · rw [if_pos p, if_pos (h.mp p)]
  · rw [if_neg p, if_neg (fun q => p (h.mpr q))]
theorem ifl {P Q : Prop} [Decidable P] [Decidable Q] (h : P → Q) : (if P then 1 else 0 : Nat) ≤ if Q then 1 else 0 := by
  by_cases p : P
  · rw [if_pos p, if_pos (h p)]
    exact Nat.le_refl _
  · rw [if_neg p]
    exact Nat.zero_le _
theorem gwc_step {f : Nat → Bool} {g : Nat → Int} {n : Int} {w : Nat} (h1 : f w = true) (h2 : g w = n) : ∀ W, (W ≤ w → gwc f g n (w + 1) W = gwc f g n w W) ∧ (w < W → gwc f g n (w + 1) W = gwc f g n w W + 1)
  | 0 => ⟨fun _ => rfl, fun h => absurd h (by omega)⟩
  | W + 1 => by
    have ih := gwc_step h1 h2 W
    rw [gwc_s, gwc_s]
    refine ⟨fun h => ?_, fun h => ?_⟩
    · rw [ih.1 (by omega), ifc (P := f W = true ∧ (g W < n ∨ (g W = n ∧ W < w + 1))) (Q := f W = true ∧ (g W < n ∨ (g W = n ∧ W < w))) (by constructor <;> (intro q; refine ⟨q.1, ?_⟩; rcases q.2 with q | q; exact Or.inl q; exact Or.inr ⟨q.1, by omega⟩))]
    · by_cases e : W = w
      · subst e
        rw [ih.1 (Nat.le_refl _), if_pos ⟨h1, Or.inr ⟨h2, by omega⟩⟩, if_neg (fun q => by rcases q.2 with q | q <;> omega)]
      · have e2 := ih.2 (by omega)
        rw [e2, ifc (P := f W = true ∧ (g W < n ∨ (g W = n ∧ W < w + 1))) (Q := f W = true ∧ (g W < n ∨ (g W = n ∧ W < w))) (by constructor <;> (intro q; refine ⟨q.1, ?_⟩; rcases q.2 with q | q; exact Or.inl q; exact Or.inr ⟨q.1, by omega⟩))]
        omega
theorem gwc_skip {f : Nat → Bool} {g : Nat → Int} {n : Int} {w : Nat} (h : ¬ (f w = true ∧ g w = n)) : ∀ W, gwc f g n (w + 1) W = gwc f g n w W
  | 0 => rfl
  | W + 1 => by
    rw [gwc_s, gwc_s, gwc_skip h W]
    rw [ifc (P := f W = true ∧ (g W < n ∨ (g W = n ∧ W < w + 1))) (Q := f W = true ∧ (g W < n ∨ (g W = n ∧ W < w)))]
    constructor
    · intro q
      refine ⟨q.1, ?_⟩
      rcases q.2 with r | r
      · exact Or.inl r
      · right
        refine ⟨r.1, ?_⟩
        by_cases e : W = w
        · subst e
          exact absurd ⟨q.1, r.1⟩ h
        · omega
    · intro q
      refine ⟨q.1, ?_⟩
      rcases q.2 with r | r
      · exact Or.inl r
      · exact Or.inr ⟨r.1, by omega⟩
theorem gwc_next {f : Nat → Bool} {g : Nat → Int} {n : Int} {w : Nat} : ∀ W, W ≤ w → gwc f g (n + 1) 0 W = gwc f g n w W
  | 0, _ => rfl
  | W + 1, h => by
    rw [gwc_s, gwc_s, gwc_next (f := f) (g := g) (n := n) (w := w) W (by omega)]
    rw [ifc (P := f W = true ∧ (g W < n + 1 ∨ (g W = n + 1 ∧ W < 0))) (Q := f W = true ∧ (g W < n ∨ (g W = n ∧ W < w)))]
    constructor
    · intro q
      exact ⟨q.1, by rcases q.2 with r | r <;> omega⟩
    · intro q
      exact ⟨q.1, by rcases q.2 with r | r <;> omega⟩
theorem gwc_zero {f : Nat → Bool} {g : Nat → Int} (h : ∀ j, 0 ≤ g j) : ∀ W, gwc f g 0 0 W = 0
  | 0 => rfl
  | W + 1 => by
    rw [gwc_s, gwc_zero h W, if_neg (fun q => by have := h W; rcases q.2 with r | r <;> omega)]
theorem gwc_full {f : Nat → Bool} {g : Nat → Int} {n : Int} (h : ∀ j, g j < n) : ∀ W, gwc f g n 0 W = wcn f W
  | 0 => rfl
  | W + 1 => by
    rw [gwc_s, wcn_s, gwc_full h W]
    rw [ifc (P := f W = true ∧ (g W < n ∨ (g W = n ∧ W < 0))) (Q := f W = true) ⟨fun q => q.1, fun q => ⟨q, Or.inl (h W)⟩⟩]
theorem gwc_le {f : Nat → Bool} {g : Nat → Int} {n : Int} {w : Nat} : ∀ W, gwc f g n w W ≤ wcn f W
  | 0 => Nat.le_refl _
  | W + 1 => by
    rw [gwc_s, wcn_s]
    have a := gwc_le (f := f) (g := g) (n := n) (w := w) W
    have b := ifl (P := f W = true ∧ (g W < n ∨ (g W = n ∧ W < w))) (Q := f W = true) (fun q => q.1)
    omega
theorem gwc_lt {f : Nat → Bool} {g : Nat → Int} {n : Int} {w W : Nat} (h1 : f w = true) (h2 : g w = n) (hw : w < W) : gwc f g n w W + 1 ≤ wcn f W := by
  have a := (gwc_step h1 h2 W).2 hw
  have b := gwc_le (f := f) (g := g) (n := n) (w := w + 1) W
  omega
theorem wcn_le {f : Nat → Bool} : ∀ W, wcn f W ≤ W
  | 0 => Nat.le_refl _
  | W + 1 => by
    rw [wcn_s]
    have a := wcn_le (f := f) W
    split <;> omega

theorem w1807 : Cond.fieldLink RX12 225 "WiringHouseModel" "pile" "[I" ∈ GW := gw_mem 1807 (by decide +kernel) rfl
theorem w2311 : Cond.code yX12_push cX12_push 2 none ∈ GW := gw_mem 2311 (by decide +kernel) rfl
theorem w2308 : Cond.methodLink RX12 554 yX12_push ∈ GW := gw_mem 2308 (by decide +kernel) rfl
theorem w2310 : Cond.instanceMethod yX12_push ∈ GW := gw_mem 2310 (by decide +kernel) rfl
theorem w145 : Cond.selects RX12 yX12_push yX12_push ∈ GW := gw_mem 145 (by decide +kernel) rfl
theorem hdV_yX12_push : yX12_push.cls = RX12 ∧ yX12_push.cls ≠ "java/lang/invoke/MethodHandle" ∧ yX12_push.cls ≠ "java/lang/invoke/VarHandle" ∧ (parseMethodDescriptor yX12_push.desc).map (fun d => d.parameters.length) = some 1 := by decide +kernel
theorem w2283 : Cond.code yX12_pop cX12_pop 1 (some .int) ∈ GW := gw_mem 2283 (by decide +kernel) rfl
theorem w2280 : Cond.methodLink RX12 551 yX12_pop ∈ GW := gw_mem 2280 (by decide +kernel) rfl
theorem w2282 : Cond.instanceMethod yX12_pop ∈ GW := gw_mem 2282 (by decide +kernel) rfl
theorem w138 : Cond.selects RX12 yX12_pop yX12_pop ∈ GW := gw_mem 138 (by decide +kernel) rfl
theorem hdV_yX12_pop : yX12_pop.cls = RX12 ∧ yX12_pop.cls ≠ "java/lang/invoke/MethodHandle" ∧ yX12_pop.cls ≠ "java/lang/invoke/VarHandle" ∧ (parseMethodDescriptor yX12_pop.desc).map (fun d => d.parameters.length) = some 0 := by decide +kernel
theorem w2254 : Cond.code yX12_fails cX12_fails 2 (some .int) ∈ GW := gw_mem 2254 (by decide +kernel) rfl
theorem w2251 : Cond.methodLink RX12 484 yX12_fails ∈ GW := gw_mem 2251 (by decide +kernel) rfl
theorem w2253 : Cond.instanceMethod yX12_fails ∈ GW := gw_mem 2253 (by decide +kernel) rfl
theorem w131 : Cond.selects RX12 yX12_fails yX12_fails ∈ GW := gw_mem 131 (by decide +kernel) rfl
theorem hdV_yX12_fails : yX12_fails.cls = RX12 ∧ yX12_fails.cls ≠ "java/lang/invoke/MethodHandle" ∧ yX12_fails.cls ≠ "java/lang/invoke/VarHandle" ∧ (parseMethodDescriptor yX12_fails.desc).map (fun d => d.parameters.length) = some 1 := by decide +kernel
theorem w2266 : Cond.code yX12_step cX12_step 1 (some .boolean) ∈ GW := gw_mem 2266 (by decide +kernel) rfl
theorem w2263 : Cond.methodLink RX12 497 yX12_step ∈ GW := gw_mem 2263 (by decide +kernel) rfl
theorem w2265 : Cond.instanceMethod yX12_step ∈ GW := gw_mem 2265 (by decide +kernel) rfl
theorem w134 : Cond.selects RX12 yX12_step yX12_step ∈ GW := gw_mem 134 (by decide +kernel) rfl
theorem hdV_yX12_step : yX12_step.cls = RX12 ∧ yX12_step.cls ≠ "java/lang/invoke/MethodHandle" ∧ yX12_step.cls ≠ "java/lang/invoke/VarHandle" ∧ (parseMethodDescriptor yX12_step.desc).map (fun d => d.parameters.length) = some 0 := by decide +kernel
theorem w2295 : Cond.code yX12_isWrap cX12_isWrap 6 (some .boolean) ∈ GW := gw_mem 2295 (by decide +kernel) rfl
theorem w2292 : Cond.methodLink RX12 516 yX12_isWrap ∈ GW := gw_mem 2292 (by decide +kernel) rfl
theorem w2294 : Cond.instanceMethod yX12_isWrap ∈ GW := gw_mem 2294 (by decide +kernel) rfl
theorem w141 : Cond.selects RX12 yX12_isWrap yX12_isWrap ∈ GW := gw_mem 141 (by decide +kernel) rfl
theorem hdV_yX12_isWrap : yX12_isWrap.cls = RX12 ∧ yX12_isWrap.cls ≠ "java/lang/invoke/MethodHandle" ∧ yX12_isWrap.cls ≠ "java/lang/invoke/VarHandle" ∧ (parseMethodDescriptor yX12_isWrap.desc).map (fun d => d.parameters.length) = some 4 := by decide +kernel
theorem dX12_push_0 : decode cX12_push 0 = .ok (.aload_n 0, 1) := by decide +kernel
theorem dX12_push_1 : decode cX12_push 1 = .ok (.getfield 225, 3) := by decide +kernel
theorem dX12_push_4 : decode cX12_push 4 = .ok (.aload_n 0, 1) := by decide +kernel
theorem dX12_push_5 : decode cX12_push 5 = .ok (.getfield 548, 3) := by decide +kernel
theorem dX12_push_8 : decode cX12_push 8 = .ok (.iload_n 1, 1) := by decide +kernel
theorem dX12_push_9 : decode cX12_push 9 = .ok (.iastore, 1) := by decide +kernel
theorem dX12_push_10 : decode cX12_push 10 = .ok (.aload_n 0, 1) := by decide +kernel
theorem dX12_push_11 : decode cX12_push 11 = .ok (.dup, 1) := by decide +kernel
theorem dX12_push_12 : decode cX12_push 12 = .ok (.getfield 548, 3) := by decide +kernel
theorem dX12_push_15 : decode cX12_push 15 = .ok (.iconst 1, 1) := by decide +kernel
theorem dX12_push_16 : decode cX12_push 16 = .ok (.iadd, 1) := by decide +kernel
theorem dX12_push_17 : decode cX12_push 17 = .ok (.putfield 548, 3) := by decide +kernel
theorem dX12_push_20 : decode cX12_push 20 = .ok (.return_, 1) := by decide +kernel
theorem dX12_pop_0 : decode cX12_pop 0 = .ok (.aload_n 0, 1) := by decide +kernel
theorem dX12_pop_1 : decode cX12_pop 1 = .ok (.dup, 1) := by decide +kernel
theorem dX12_pop_2 : decode cX12_pop 2 = .ok (.getfield 548, 3) := by decide +kernel
theorem dX12_pop_5 : decode cX12_pop 5 = .ok (.iconst 1, 1) := by decide +kernel
theorem dX12_pop_6 : decode cX12_pop 6 = .ok (.isub, 1) := by decide +kernel
theorem dX12_pop_7 : decode cX12_pop 7 = .ok (.putfield 548, 3) := by decide +kernel
theorem dX12_pop_10 : decode cX12_pop 10 = .ok (.aload_n 0, 1) := by decide +kernel
theorem dX12_pop_11 : decode cX12_pop 11 = .ok (.getfield 225, 3) := by decide +kernel
theorem dX12_pop_14 : decode cX12_pop 14 = .ok (.aload_n 0, 1) := by decide +kernel
theorem dX12_pop_15 : decode cX12_pop 15 = .ok (.getfield 548, 3) := by decide +kernel
theorem dX12_pop_18 : decode cX12_pop 18 = .ok (.iaload, 1) := by decide +kernel
theorem dX12_pop_19 : decode cX12_pop 19 = .ok (.ireturn, 1) := by decide +kernel
theorem dX12_reckons_0 : decode cX12_reckons 0 = .ok (.iload_n 1, 1) := by decide +kernel
theorem dX12_reckons_1 : decode cX12_reckons 1 = .ok (.iconst 1, 1) := by decide +kernel
theorem dX12_reckons_2 : decode cX12_reckons 2 = .ok (.if_icmp .ne 16, 3) := by decide +kernel
theorem dX12_reckons_18 : decode cX12_reckons 18 = .ok (.iload_n 1, 1) := by decide +kernel
theorem dX12_reckons_19 : decode cX12_reckons 19 = .ok (.bipush 10, 2) := by decide +kernel
theorem dX12_reckons_21 : decode cX12_reckons 21 = .ok (.if_icmp .ne 9, 3) := by decide +kernel
theorem dX12_reckons_30 : decode cX12_reckons 30 = .ok (.iload_n 1, 1) := by decide +kernel
theorem dX12_reckons_31 : decode cX12_reckons 31 = .ok (.iconst 2, 1) := by decide +kernel
theorem dX12_reckons_32 : decode cX12_reckons 32 = .ok (.if_icmp .eq 9, 3) := by decide +kernel
theorem dX12_reckons_41 : decode cX12_reckons 41 = .ok (.aload_n 0, 1) := by decide +kernel
theorem dX12_reckons_42 : decode cX12_reckons 42 = .ok (.iload_n 1, 1) := by decide +kernel
theorem dX12_reckons_43 : decode cX12_reckons 43 = .ok (.iconst 2, 1) := by decide +kernel
theorem dX12_reckons_44 : decode cX12_reckons 44 = .ok (.if_icmp .ne 7, 3) := by decide +kernel
theorem dX12_reckons_47 : decode cX12_reckons 47 = .ok (.iload_n 2, 1) := by decide +kernel
theorem dX12_reckons_48 : decode cX12_reckons 48 = .ok (.goto 17, 3) := by decide +kernel
theorem dX12_reckons_65 : decode cX12_reckons 65 = .ok (.invokevirtual 554, 3) := by decide +kernel
theorem dX12_reckons_68 : decode cX12_reckons 68 = .ok (.goto 104, 3) := by decide +kernel
theorem dX12_reckons_172 : decode cX12_reckons 172 = .ok (.iconst 0, 1) := by decide +kernel
theorem dX12_reckons_173 : decode cX12_reckons 173 = .ok (.ireturn, 1) := by decide +kernel
theorem dX12_reckons_35 : decode cX12_reckons 35 = .ok (.iload_n 1, 1) := by decide +kernel
theorem dX12_reckons_36 : decode cX12_reckons 36 = .ok (.bipush 11, 2) := by decide +kernel
theorem dX12_reckons_38 : decode cX12_reckons 38 = .ok (.if_icmp .ne 33, 3) := by decide +kernel
theorem dX12_reckons_71 : decode cX12_reckons 71 = .ok (.iload_n 1, 1) := by decide +kernel
theorem dX12_reckons_72 : decode cX12_reckons 72 = .ok (.iconst 4, 1) := by decide +kernel
theorem dX12_reckons_73 : decode cX12_reckons 73 = .ok (.if_icmp .ne 15, 3) := by decide +kernel
theorem dX12_reckons_88 : decode cX12_reckons 88 = .ok (.aload_n 0, 1) := by decide +kernel
theorem dX12_reckons_89 : decode cX12_reckons 89 = .ok (.invokevirtual 551, 3) := by decide +kernel
theorem dX12_reckons_92 : decode cX12_reckons 92 = .ok (.istore_n 3, 1) := by decide +kernel
theorem dX12_reckons_93 : decode cX12_reckons 93 = .ok (.aload_n 0, 1) := by decide +kernel
theorem dX12_reckons_94 : decode cX12_reckons 94 = .ok (.invokevirtual 551, 3) := by decide +kernel
theorem dX12_reckons_97 : decode cX12_reckons 97 = .ok (.istore 4, 2) := by decide +kernel
theorem dX12_reckons_99 : decode cX12_reckons 99 = .ok (.aload_n 0, 1) := by decide +kernel
theorem dX12_reckons_100 : decode cX12_reckons 100 = .ok (.iload_n 1, 1) := by decide +kernel
theorem dX12_reckons_101 : decode cX12_reckons 101 = .ok (.iconst 5, 1) := by decide +kernel
theorem dX12_reckons_102 : decode cX12_reckons 102 = .ok (.if_icmp .ne 10, 3) := by decide +kernel
theorem dX12_reckons_112 : decode cX12_reckons 112 = .ok (.iload_n 1, 1) := by decide +kernel
theorem dX12_reckons_113 : decode cX12_reckons 113 = .ok (.bipush 6, 2) := by decide +kernel
theorem dX12_reckons_115 : decode cX12_reckons 115 = .ok (.if_icmp .ne 10, 3) := by decide +kernel
theorem dX12_reckons_125 : decode cX12_reckons 125 = .ok (.iload_n 1, 1) := by decide +kernel
theorem dX12_reckons_126 : decode cX12_reckons 126 = .ok (.bipush 7, 2) := by decide +kernel
theorem dX12_reckons_128 : decode cX12_reckons 128 = .ok (.if_icmp .ne 10, 3) := by decide +kernel
theorem dX12_reckons_138 : decode cX12_reckons 138 = .ok (.iload_n 1, 1) := by decide +kernel
theorem dX12_reckons_139 : decode cX12_reckons 139 = .ok (.bipush 8, 2) := by decide +kernel
theorem dX12_reckons_141 : decode cX12_reckons 141 = .ok (.if_icmp .ne 17, 3) := by decide +kernel
theorem dX12_reckons_158 : decode cX12_reckons 158 = .ok (.iload 4, 2) := by decide +kernel
theorem dX12_reckons_160 : decode cX12_reckons 160 = .ok (.iload_n 3, 1) := by decide +kernel
theorem dX12_reckons_161 : decode cX12_reckons 161 = .ok (.if_icmp .ne 7, 3) := by decide +kernel
theorem dX12_reckons_168 : decode cX12_reckons 168 = .ok (.iconst 0, 1) := by decide +kernel
theorem dX12_reckons_169 : decode cX12_reckons 169 = .ok (.invokevirtual 554, 3) := by decide +kernel
theorem dX12_reckons_164 : decode cX12_reckons 164 = .ok (.iconst 1, 1) := by decide +kernel
theorem dX12_reckons_165 : decode cX12_reckons 165 = .ok (.goto 4, 3) := by decide +kernel
theorem dX12_reckons_144 : decode cX12_reckons 144 = .ok (.iload 4, 2) := by decide +kernel
theorem dX12_reckons_146 : decode cX12_reckons 146 = .ok (.iload_n 3, 1) := by decide +kernel
theorem dX12_reckons_147 : decode cX12_reckons 147 = .ok (.if_icmp .ge 7, 3) := by decide +kernel
theorem dX12_reckons_154 : decode cX12_reckons 154 = .ok (.iconst 0, 1) := by decide +kernel
theorem dX12_reckons_155 : decode cX12_reckons 155 = .ok (.goto 14, 3) := by decide +kernel
theorem dX12_reckons_150 : decode cX12_reckons 150 = .ok (.iconst 1, 1) := by decide +kernel
theorem dX12_reckons_151 : decode cX12_reckons 151 = .ok (.goto 18, 3) := by decide +kernel
theorem dX12_reckons_131 : decode cX12_reckons 131 = .ok (.iload 4, 2) := by decide +kernel
theorem dX12_reckons_133 : decode cX12_reckons 133 = .ok (.iload_n 3, 1) := by decide +kernel
theorem dX12_reckons_134 : decode cX12_reckons 134 = .ok (.isub, 1) := by decide +kernel
theorem dX12_reckons_135 : decode cX12_reckons 135 = .ok (.goto 34, 3) := by decide +kernel
theorem dX12_reckons_118 : decode cX12_reckons 118 = .ok (.iload 4, 2) := by decide +kernel
theorem dX12_reckons_120 : decode cX12_reckons 120 = .ok (.iload_n 3, 1) := by decide +kernel
theorem dX12_reckons_121 : decode cX12_reckons 121 = .ok (.iadd, 1) := by decide +kernel
theorem dX12_reckons_122 : decode cX12_reckons 122 = .ok (.goto 47, 3) := by decide +kernel
theorem dX12_reckons_105 : decode cX12_reckons 105 = .ok (.iload 4, 2) := by decide +kernel
theorem dX12_reckons_107 : decode cX12_reckons 107 = .ok (.iload_n 3, 1) := by decide +kernel
theorem dX12_reckons_108 : decode cX12_reckons 108 = .ok (.imul, 1) := by decide +kernel
theorem dX12_reckons_109 : decode cX12_reckons 109 = .ok (.goto 60, 3) := by decide +kernel
theorem dX12_reckons_76 : decode cX12_reckons 76 = .ok (.aload_n 0, 1) := by decide +kernel
theorem dX12_reckons_77 : decode cX12_reckons 77 = .ok (.aload_n 0, 1) := by decide +kernel
theorem dX12_reckons_78 : decode cX12_reckons 78 = .ok (.invokevirtual 551, 3) := by decide +kernel
theorem dX12_reckons_81 : decode cX12_reckons 81 = .ok (.ineg, 1) := by decide +kernel
theorem dX12_reckons_82 : decode cX12_reckons 82 = .ok (.invokevirtual 554, 3) := by decide +kernel
theorem dX12_reckons_85 : decode cX12_reckons 85 = .ok (.goto 87, 3) := by decide +kernel
theorem dX12_reckons_51 : decode cX12_reckons 51 = .ok (.aload_n 0, 1) := by decide +kernel
theorem dX12_reckons_52 : decode cX12_reckons 52 = .ok (.getfield 59, 3) := by decide +kernel
theorem dX12_reckons_55 : decode cX12_reckons 55 = .ok (.bipush 12, 2) := by decide +kernel
theorem dX12_reckons_57 : decode cX12_reckons 57 = .ok (.aload_n 0, 1) := by decide +kernel
theorem dX12_reckons_58 : decode cX12_reckons 58 = .ok (.getfield 286, 3) := by decide +kernel
theorem dX12_reckons_61 : decode cX12_reckons 61 = .ok (.imul, 1) := by decide +kernel
theorem dX12_reckons_62 : decode cX12_reckons 62 = .ok (.iload_n 2, 1) := by decide +kernel
theorem dX12_reckons_63 : decode cX12_reckons 63 = .ok (.iadd, 1) := by decide +kernel
theorem dX12_reckons_64 : decode cX12_reckons 64 = .ok (.iaload, 1) := by decide +kernel
theorem dX12_reckons_24 : decode cX12_reckons 24 = .ok (.aload_n 0, 1) := by decide +kernel
theorem dX12_reckons_25 : decode cX12_reckons 25 = .ok (.iload_n 2, 1) := by decide +kernel
theorem dX12_reckons_26 : decode cX12_reckons 26 = .ok (.invokevirtual 484, 3) := by decide +kernel
theorem dX12_reckons_29 : decode cX12_reckons 29 = .ok (.ireturn, 1) := by decide +kernel
theorem dX12_reckons_5 : decode cX12_reckons 5 = .ok (.aload_n 0, 1) := by decide +kernel
theorem dX12_reckons_6 : decode cX12_reckons 6 = .ok (.invokevirtual 497, 3) := by decide +kernel
theorem dX12_reckons_9 : decode cX12_reckons 9 = .ok (.ifCond .eq 7, 3) := by decide +kernel
theorem dX12_reckons_16 : decode cX12_reckons 16 = .ok (.iconst 2, 1) := by decide +kernel
theorem dX12_reckons_17 : decode cX12_reckons 17 = .ok (.ireturn, 1) := by decide +kernel
theorem dX12_reckons_12 : decode cX12_reckons 12 = .ok (.iconst 0, 1) := by decide +kernel
theorem dX12_reckons_13 : decode cX12_reckons 13 = .ok (.goto 4, 3) := by decide +kernel
theorem dX12_isWrap_0 : decode cX12_isWrap 0 = .ok (.bipush 12, 2) := by decide +kernel
theorem dX12_isWrap_2 : decode cX12_isWrap 2 = .ok (.aload_n 0, 1) := by decide +kernel
theorem dX12_isWrap_3 : decode cX12_isWrap 3 = .ok (.getfield 286, 3) := by decide +kernel
theorem dX12_isWrap_6 : decode cX12_isWrap 6 = .ok (.imul, 1) := by decide +kernel
theorem dX12_isWrap_7 : decode cX12_isWrap 7 = .ok (.iload_n 1, 1) := by decide +kernel
theorem dX12_isWrap_8 : decode cX12_isWrap 8 = .ok (.iadd, 1) := by decide +kernel
theorem dX12_isWrap_9 : decode cX12_isWrap 9 = .ok (.istore 5, 2) := by decide +kernel
theorem dX12_isWrap_11 : decode cX12_isWrap 11 = .ok (.aload_n 0, 1) := by decide +kernel
theorem dX12_isWrap_12 : decode cX12_isWrap 12 = .ok (.getfield 128, 3) := by decide +kernel
theorem dX12_isWrap_15 : decode cX12_isWrap 15 = .ok (.iload 5, 2) := by decide +kernel
theorem dX12_isWrap_17 : decode cX12_isWrap 17 = .ok (.iaload, 1) := by decide +kernel
theorem dX12_isWrap_18 : decode cX12_isWrap 18 = .ok (.iload_n 3, 1) := by decide +kernel
theorem dX12_isWrap_19 : decode cX12_isWrap 19 = .ok (.if_icmp .ne 52, 3) := by decide +kernel
theorem dX12_isWrap_71 : decode cX12_isWrap 71 = .ok (.iconst 0, 1) := by decide +kernel
theorem dX12_isWrap_72 : decode cX12_isWrap 72 = .ok (.ireturn, 1) := by decide +kernel
theorem dX12_isWrap_22 : decode cX12_isWrap 22 = .ok (.aload_n 0, 1) := by decide +kernel
theorem dX12_isWrap_23 : decode cX12_isWrap 23 = .ok (.getfield 134, 3) := by decide +kernel
theorem dX12_isWrap_26 : decode cX12_isWrap 26 = .ok (.iload 5, 2) := by decide +kernel
theorem dX12_isWrap_28 : decode cX12_isWrap 28 = .ok (.iaload, 1) := by decide +kernel
theorem dX12_isWrap_29 : decode cX12_isWrap 29 = .ok (.iload 4, 2) := by decide +kernel
theorem dX12_isWrap_31 : decode cX12_isWrap 31 = .ok (.if_icmp .ne 40, 3) := by decide +kernel
theorem dX12_isWrap_34 : decode cX12_isWrap 34 = .ok (.aload_n 0, 1) := by decide +kernel
theorem dX12_isWrap_35 : decode cX12_isWrap 35 = .ok (.getfield 68, 3) := by decide +kernel
theorem dX12_isWrap_38 : decode cX12_isWrap 38 = .ok (.bipush 24, 2) := by decide +kernel
theorem dX12_isWrap_40 : decode cX12_isWrap 40 = .ok (.bipush 24, 2) := by decide +kernel
theorem dX12_isWrap_42 : decode cX12_isWrap 42 = .ok (.aload_n 0, 1) := by decide +kernel
theorem dX12_isWrap_43 : decode cX12_isWrap 43 = .ok (.getfield 286, 3) := by decide +kernel
theorem dX12_isWrap_46 : decode cX12_isWrap 46 = .ok (.imul, 1) := by decide +kernel
theorem dX12_isWrap_47 : decode cX12_isWrap 47 = .ok (.aload_n 0, 1) := by decide +kernel
theorem dX12_isWrap_48 : decode cX12_isWrap 48 = .ok (.getfield 164, 3) := by decide +kernel
theorem dX12_isWrap_51 : decode cX12_isWrap 51 = .ok (.iload_n 2, 1) := by decide +kernel
theorem dX12_isWrap_52 : decode cX12_isWrap 52 = .ok (.iaload, 1) := by decide +kernel
theorem dX12_isWrap_53 : decode cX12_isWrap 53 = .ok (.iadd, 1) := by decide +kernel
theorem dX12_isWrap_54 : decode cX12_isWrap 54 = .ok (.imul, 1) := by decide +kernel
theorem dX12_isWrap_55 : decode cX12_isWrap 55 = .ok (.aload_n 0, 1) := by decide +kernel
theorem dX12_isWrap_56 : decode cX12_isWrap 56 = .ok (.getfield 125, 3) := by decide +kernel
theorem dX12_isWrap_59 : decode cX12_isWrap 59 = .ok (.iload 5, 2) := by decide +kernel
theorem dX12_isWrap_61 : decode cX12_isWrap 61 = .ok (.iaload, 1) := by decide +kernel
theorem dX12_isWrap_62 : decode cX12_isWrap 62 = .ok (.iadd, 1) := by decide +kernel
theorem dX12_isWrap_63 : decode cX12_isWrap 63 = .ok (.baload, 1) := by decide +kernel
theorem dX12_isWrap_64 : decode cX12_isWrap 64 = .ok (.ifCond .eq 7, 3) := by decide +kernel
theorem dX12_isWrap_67 : decode cX12_isWrap 67 = .ok (.iconst 1, 1) := by decide +kernel
theorem dX12_isWrap_68 : decode cX12_isWrap 68 = .ok (.goto 4, 3) := by decide +kernel
theorem dX12_wrapsOf_0 : decode cX12_wrapsOf 0 = .ok (.iconst 0, 1) := by decide +kernel
theorem dX12_wrapsOf_1 : decode cX12_wrapsOf 1 = .ok (.istore 4, 2) := by decide +kernel
theorem dX12_wrapsOf_3 : decode cX12_wrapsOf 3 = .ok (.iconst 0, 1) := by decide +kernel
theorem dX12_wrapsOf_4 : decode cX12_wrapsOf 4 = .ok (.istore 5, 2) := by decide +kernel
theorem dX12_wrapsOf_6 : decode cX12_wrapsOf 6 = .ok (.iload 5, 2) := by decide +kernel
theorem dX12_wrapsOf_8 : decode cX12_wrapsOf 8 = .ok (.aload_n 0, 1) := by decide +kernel
theorem dX12_wrapsOf_9 : decode cX12_wrapsOf 9 = .ok (.getfield 122, 3) := by decide +kernel
theorem dX12_wrapsOf_12 : decode cX12_wrapsOf 12 = .ok (.aload_n 0, 1) := by decide +kernel
theorem dX12_wrapsOf_13 : decode cX12_wrapsOf 13 = .ok (.getfield 286, 3) := by decide +kernel
theorem dX12_wrapsOf_16 : decode cX12_wrapsOf 16 = .ok (.iaload, 1) := by decide +kernel
theorem dX12_wrapsOf_17 : decode cX12_wrapsOf 17 = .ok (.if_icmp .ge 31, 3) := by decide +kernel
theorem dX12_wrapsOf_48 : decode cX12_wrapsOf 48 = .ok (.iload 4, 2) := by decide +kernel
theorem dX12_wrapsOf_50 : decode cX12_wrapsOf 50 = .ok (.ireturn, 1) := by decide +kernel
theorem dX12_wrapsOf_20 : decode cX12_wrapsOf 20 = .ok (.iload 4, 2) := by decide +kernel
theorem dX12_wrapsOf_22 : decode cX12_wrapsOf 22 = .ok (.aload_n 0, 1) := by decide +kernel
theorem dX12_wrapsOf_23 : decode cX12_wrapsOf 23 = .ok (.iload 5, 2) := by decide +kernel
theorem dX12_wrapsOf_25 : decode cX12_wrapsOf 25 = .ok (.iload_n 1, 1) := by decide +kernel
theorem dX12_wrapsOf_26 : decode cX12_wrapsOf 26 = .ok (.iload_n 2, 1) := by decide +kernel
theorem dX12_wrapsOf_27 : decode cX12_wrapsOf 27 = .ok (.iload_n 3, 1) := by decide +kernel
theorem dX12_wrapsOf_28 : decode cX12_wrapsOf 28 = .ok (.invokevirtual 516, 3) := by decide +kernel
theorem dX12_wrapsOf_31 : decode cX12_wrapsOf 31 = .ok (.ifCond .eq 7, 3) := by decide +kernel
theorem dX12_wrapsOf_38 : decode cX12_wrapsOf 38 = .ok (.iconst 0, 1) := by decide +kernel
theorem dX12_wrapsOf_39 : decode cX12_wrapsOf 39 = .ok (.iadd, 1) := by decide +kernel
theorem dX12_wrapsOf_40 : decode cX12_wrapsOf 40 = .ok (.istore 4, 2) := by decide +kernel
theorem dX12_wrapsOf_42 : decode cX12_wrapsOf 42 = .ok (.iinc 5 1, 3) := by decide +kernel
theorem dX12_wrapsOf_45 : decode cX12_wrapsOf 45 = .ok (.goto (-39), 3) := by decide +kernel
theorem dX12_wrapsOf_34 : decode cX12_wrapsOf 34 = .ok (.iconst 1, 1) := by decide +kernel
theorem dX12_wrapsOf_35 : decode cX12_wrapsOf 35 = .ok (.goto 4, 3) := by decide +kernel
theorem dX12_wrapAt_0 : decode cX12_wrapAt 0 = .ok (.iload_n 1, 1) := by decide +kernel
theorem dX12_wrapAt_1 : decode cX12_wrapAt 1 = .ok (.istore 5, 2) := by decide +kernel
theorem dX12_wrapAt_3 : decode cX12_wrapAt 3 = .ok (.iconst 0, 1) := by decide +kernel
theorem dX12_wrapAt_4 : decode cX12_wrapAt 4 = .ok (.istore 6, 2) := by decide +kernel
theorem dX12_wrapAt_6 : decode cX12_wrapAt 6 = .ok (.iload 6, 2) := by decide +kernel
theorem dX12_wrapAt_8 : decode cX12_wrapAt 8 = .ok (.bipush 100, 2) := by decide +kernel
theorem dX12_wrapAt_10 : decode cX12_wrapAt 10 = .ok (.if_icmp .ge 76, 3) := by decide +kernel
theorem dX12_wrapAt_86 : decode cX12_wrapAt 86 = .ok (.iconst (-1), 1) := by decide +kernel
theorem dX12_wrapAt_87 : decode cX12_wrapAt 87 = .ok (.ireturn, 1) := by decide +kernel
theorem dX12_wrapAt_13 : decode cX12_wrapAt 13 = .ok (.iconst 0, 1) := by decide +kernel
theorem dX12_wrapAt_14 : decode cX12_wrapAt 14 = .ok (.istore 7, 2) := by decide +kernel
theorem dX12_wrapAt_16 : decode cX12_wrapAt 16 = .ok (.iload 7, 2) := by decide +kernel
theorem dX12_wrapAt_18 : decode cX12_wrapAt 18 = .ok (.aload_n 0, 1) := by decide +kernel
theorem dX12_wrapAt_19 : decode cX12_wrapAt 19 = .ok (.getfield 122, 3) := by decide +kernel
theorem dX12_wrapAt_22 : decode cX12_wrapAt 22 = .ok (.aload_n 0, 1) := by decide +kernel
theorem dX12_wrapAt_23 : decode cX12_wrapAt 23 = .ok (.getfield 286, 3) := by decide +kernel
theorem dX12_wrapAt_26 : decode cX12_wrapAt 26 = .ok (.iaload, 1) := by decide +kernel
theorem dX12_wrapAt_27 : decode cX12_wrapAt 27 = .ok (.if_icmp .ge 53, 3) := by decide +kernel
theorem dX12_wrapAt_80 : decode cX12_wrapAt 80 = .ok (.iinc 6 1, 3) := by decide +kernel
theorem dX12_wrapAt_83 : decode cX12_wrapAt 83 = .ok (.goto (-77), 3) := by decide +kernel
theorem dX12_wrapAt_30 : decode cX12_wrapAt 30 = .ok (.aload_n 0, 1) := by decide +kernel
theorem dX12_wrapAt_31 : decode cX12_wrapAt 31 = .ok (.iload 7, 2) := by decide +kernel
theorem dX12_wrapAt_33 : decode cX12_wrapAt 33 = .ok (.iload_n 2, 1) := by decide +kernel
theorem dX12_wrapAt_34 : decode cX12_wrapAt 34 = .ok (.iload_n 3, 1) := by decide +kernel
theorem dX12_wrapAt_35 : decode cX12_wrapAt 35 = .ok (.iload 4, 2) := by decide +kernel
theorem dX12_wrapAt_37 : decode cX12_wrapAt 37 = .ok (.invokevirtual 516, 3) := by decide +kernel
theorem dX12_wrapAt_40 : decode cX12_wrapAt 40 = .ok (.ifCond .eq 34, 3) := by decide +kernel
theorem dX12_wrapAt_74 : decode cX12_wrapAt 74 = .ok (.iinc 7 1, 3) := by decide +kernel
theorem dX12_wrapAt_77 : decode cX12_wrapAt 77 = .ok (.goto (-61), 3) := by decide +kernel
theorem dX12_wrapAt_43 : decode cX12_wrapAt 43 = .ok (.aload_n 0, 1) := by decide +kernel
theorem dX12_wrapAt_44 : decode cX12_wrapAt 44 = .ok (.getfield 131, 3) := by decide +kernel
theorem dX12_wrapAt_47 : decode cX12_wrapAt 47 = .ok (.bipush 12, 2) := by decide +kernel
theorem dX12_wrapAt_49 : decode cX12_wrapAt 49 = .ok (.aload_n 0, 1) := by decide +kernel
theorem dX12_wrapAt_50 : decode cX12_wrapAt 50 = .ok (.getfield 286, 3) := by decide +kernel
theorem dX12_wrapAt_53 : decode cX12_wrapAt 53 = .ok (.imul, 1) := by decide +kernel
theorem dX12_wrapAt_54 : decode cX12_wrapAt 54 = .ok (.iload 7, 2) := by decide +kernel
theorem dX12_wrapAt_56 : decode cX12_wrapAt 56 = .ok (.iadd, 1) := by decide +kernel
theorem dX12_wrapAt_57 : decode cX12_wrapAt 57 = .ok (.iaload, 1) := by decide +kernel
theorem dX12_wrapAt_58 : decode cX12_wrapAt 58 = .ok (.iload 6, 2) := by decide +kernel
theorem dX12_wrapAt_60 : decode cX12_wrapAt 60 = .ok (.if_icmp .ne 14, 3) := by decide +kernel
theorem dX12_wrapAt_63 : decode cX12_wrapAt 63 = .ok (.iload 5, 2) := by decide +kernel
theorem dX12_wrapAt_65 : decode cX12_wrapAt 65 = .ok (.ifCond .ne 6, 3) := by decide +kernel
theorem dX12_wrapAt_71 : decode cX12_wrapAt 71 = .ok (.iinc 5 (-1), 3) := by decide +kernel
theorem dX12_wrapAt_68 : decode cX12_wrapAt 68 = .ok (.iload 7, 2) := by decide +kernel
theorem dX12_wrapAt_70 : decode cX12_wrapAt 70 = .ok (.ireturn, 1) := by decide +kernel
abbrev r_s_step2 : Room := { frames := 0, cells := 0, slots := 0, locals := 0 }
abbrev q_s_step2 (D : va_G) (ks : KS) (ad : Nat → Nat) (kk : Nat → ClassId) (V : Vf) (L : Lf) (A : Nat → Prop) : Array Value → State → Outcome → State → Prop := va_Qi (fun (r : Int32) (u : Vf × Lf) => rgd bM u.1 ∧ agr [(0, 68), (0, 69)] [] V u.1 ∧ u.2 = L ∧ (0 ≤ r.toInt ∧ r.toInt ≤ 1) ∧ (Imp (r.toInt = 1) ((u.1 0 69).toInt = (V 0 69).toInt + 1 ∧ (u.1 0 68).toInt = (V 0 68).toInt + 1)) ∧ (Imp (r.toInt = 0) ((u.1 0 69).toInt = (V 0 69).toInt ∧ (u.1 0 68).toInt = (V 0 68).toInt))) (fun u t => gq D A (mw ad kk ks.1 u.1 u.2) (mty kk) t) A
set_option maxHeartbeats 4000000 in
set_option maxRecDepth 100000 in
theorem s_step2 (l : Launch) (D : va_G) (ks : KS) (sz : Nat) (ad : Nat → Nat) (kk : Nat → ClassId) (V : Vf) (L : Lf)  (hMV : rgd bM V)  : Met l yX12_step (Cond.code yX12_step cX12_step 1 (some .boolean) :: GW) r_s_step2 (va_Pc [.ref (ad 0)] (gp D ks (mw ad kk ks.1 V L) (mty kk) sz)) (q_s_step2 D ks ad kk V L  (va_A (mw ad kk ks.1 V L) sz)) 0 0 (va_A (mw ad kk ks.1 V L) sz) := by
  refine g_met (q_s_step2 D ks ad kk V L) (by decide) (Nat.le_of_ble_eq_true rfl) ?_
  intro p e s m below meth c A ls H locs hx hb hr hml hown hg hlocks hin hnw hgk hP hK hD hS hA hl
  have hown : s.vm.findClass RX12 = some m.cls := hown
  have hl : lv_has ls 1 [(0, .ref (ad 0))] := hl
  have hP : va_P D vwCl (mw ad kk ks.1 V L) H := hP
  have hD : va_D A (mw ad kk ks.1 V L) := hD
  have hK : va_K D vwCl (mty kk) s := hK
  have agV : agr [(0, 68), (0, 69)] [] V V := agr.rf
  refine lv_aload_n hx hb dX12_step_0 rfl (lv_at hl 0 rfl) ?_
  refine va_get (D := D) (ci := 12) (v := .int (V 0 69)) (C := RX12) (T := TX12) (N := 100) hx hb hg inX12 hown hK hP 0 rfl rfl 69 (by decide) (hg _ w1779) (fun _ h9 => h9) rfl dX12_step_1 ?_
  have r1 : 0 ≤ ((V 0 69)).toInt ∧ ((V 0 69)).toInt ≤ 3000 := hMV 0 69
  refine lv_sipush (v := 3000) hx hb dX12_step_4 (by decide) ?_
  refine lv_icmp_eq (tgt := 20) hx hb dX12_step_7 (by decide) (fun c2 => ?_) (fun c2 => ?_)
  · skip
    have f3 : ((V 0 69)).toInt = 3000 := b_eq rfl (by decide) c2
    refine lv_iconst (v := 0) hx hb dX12_step_20 (by decide) ?_
    have r4 : 0 ≤ ((V 0 68)).toInt ∧ ((V 0 68)).toInt ≤ 60000 := hMV 0 68
    exact W.zret (v := 0) hx hb hr rfl (fun t ht hW => ⟨⟨0, (V, L), rfl, ⟨hMV, agV, rfl, (by decide), (Imp.mk (fun hp => absurd hp (by decide))), (Imp.mk (fun _ => (show (V 0 69).toInt = (V 0 69).toInt ∧ (V 0 68).toInt = (V 0 68).toInt from by omega)))⟩, by rw [ht]; exact hP, va_K.moved hW.alike hK, hD⟩, hS.F ht⟩) hS.2.2 dX12_step_21
  · skip
    have f5 : ((V 0 69)).toInt ≠ 3000 := b_neq rfl (by decide) c2
    refine lv_aload_n hx hb dX12_step_10 rfl (lv_at hl 0 rfl) ?_
    refine va_get (D := D) (ci := 12) (v := .int (V 0 68)) (C := RX12) (T := TX12) (N := 100) hx hb hg inX12 hown hK hP 0 rfl rfl 68 (by decide) (hg _ w1778) (fun _ h9 => h9) rfl dX12_step_11 ?_
    have r6 : 0 ≤ ((V 0 68)).toInt ∧ ((V 0 68)).toInt ≤ 60000 := hMV 0 68
    refine lv_ldcw (v := 60000) hx hb hown (hg _ w2267) dX12_step_14 ?_
    refine lv_icmp_ne (tgt := 22) hx hb dX12_step_17 (by decide) (fun c7 => ?_) (fun c7 => ?_)
    · skip
      have f8 : ((V 0 68)).toInt ≠ 60000 := b_neq rfl (by decide) c7
      refine lv_aload_n hx hb dX12_step_22 rfl (lv_at hl 0 rfl) ?_
      refine lv_dup hx hb dX12_step_23 rfl ?_
      refine va_get (D := D) (ci := 12) (v := .int (V 0 69)) (C := RX12) (T := TX12) (N := 100) hx hb hg inX12 hown hK hP 0 rfl rfl 69 (by decide) (hg _ w1779) (fun _ h9 => h9) rfl dX12_step_24 ?_
      refine lv_iconst (v := 1) hx hb dX12_step_27 (by decide) ?_
      refine lv_iadd hx hb dX12_step_28 ?_
      refine lv_topi (fun z9 ez9 => ?_)
      have hz9 : z9.toInt = ((V 0 69)).toInt + 1 := i_add ez9 rfl (by decide) (by omega)
      refine va_put (D := D) (ci := 12) (v := .int z9) (ty := tyX12 69) (C := RX12) (T := TX12) (N := 100) hx hb hg inX12 tyX12 tyX12_ok nmX12 hown hK hP hD hS 0 rfl rfl 69 (by decide) (hg _ w1779) (fun _ h9 => h9) rfl (tyX12_ok 69 (by decide)) rfl rfl (Nat.le_of_ble_eq_true rfl) dX12_step_29 (fun H locs hP hD hS => ?_)
      obtain ⟨V10, hV10⟩ : ∃ z, z = up2 V 0 69 z9 := ⟨_, rfl⟩
      have hP : va_P D vwCl (mw ad kk ks.1 V10 L) H := by rw [hV10]; exact hP
      have hD : va_D A (mw ad kk ks.1 V10 L) := by rw [hV10]; exact hD
      have hMV10 : rgd bM V10 := hMV.put hV10 (show 0 ≤ z9.toInt ∧ z9.toInt ≤ 3000 from by omega)
      have agV10 : agr [(0, 68), (0, 69)] [] V V10 := agV.up hV10 rfl
      refine lv_aload_n hx hb dX12_step_32 rfl (lv_at hl 0 rfl) ?_
      refine lv_dup hx hb dX12_step_33 rfl ?_
      refine va_get (D := D) (ci := 12) (v := .int (V10 0 68)) (C := RX12) (T := TX12) (N := 100) hx hb hg inX12 hown hK hP 0 rfl rfl 68 (by decide) (hg _ w1778) (fun _ h9 => h9) rfl dX12_step_34 ?_
      refine g_top (v := (V 0 68)) (up2_k hV10 (by decide)) ?_
      refine lv_iconst (v := 1) hx hb dX12_step_37 (by decide) ?_
      refine lv_iadd hx hb dX12_step_38 ?_
      refine lv_topi (fun z11 ez11 => ?_)
      have hz11 : z11.toInt = ((V 0 68)).toInt + 1 := i_add ez11 rfl (by decide) (by omega)
      refine va_put (D := D) (ci := 12) (v := .int z11) (ty := tyX12 68) (C := RX12) (T := TX12) (N := 100) hx hb hg inX12 tyX12 tyX12_ok nmX12 hown hK hP hD hS 0 rfl rfl 68 (by decide) (hg _ w1778) (fun _ h9 => h9) rfl (tyX12_ok 68 (by decide)) rfl rfl (Nat.le_of_ble_eq_true rfl) dX12_step_39 (fun H locs hP hD hS => ?_)
      obtain ⟨V12, hV12⟩ : ∃ z, z = up2 V10 0 68 z11 := ⟨_, rfl⟩
      have hP : va_P D vwCl (mw ad kk ks.1 V12 L) H := by rw [hV12]; exact hP
      have hD : va_D A (mw ad kk ks.1 V12 L) := by rw [hV12]; exact hD
      have hMV12 : rgd bM V12 := hMV10.put hV12 (show 0 ≤ z11.toInt ∧ z11.toInt ≤ 60000 from by omega)
      have agV12 : agr [(0, 68), (0, 69)] [] V V12 := agV10.up hV12 rfl
      refine lv_iconst (v := 1) hx hb dX12_step_42 (by decide) ?_
      have pq13 : (V12 0 69).toInt = z9.toInt := congrArg Int32.toInt ((up2_k hV12 (by decide)).trans (up2_s hV10))
      have pq14 : (V12 0 68).toInt = z11.toInt := congrArg Int32.toInt (up2_s hV12)
      exact W.zret (v := 1) hx hb hr rfl (fun t ht hW => ⟨⟨1, (V12, L), rfl, ⟨hMV12, agV12, rfl, (by decide), (Imp.mk (fun _ => (show (V12 0 69).toInt = (V 0 69).toInt + 1 ∧ (V12 0 68).toInt = (V 0 68).toInt + 1 from by omega))), (Imp.mk (fun hp => absurd hp (by decide)))⟩, by rw [ht]; exact hP, va_K.moved hW.alike hK, hD⟩, hS.F ht⟩) hS.2.2 dX12_step_43
    · skip
      have f15 : ((V 0 68)).toInt = 60000 := b_eq rfl (by decide) c7
      refine lv_iconst (v := 0) hx hb dX12_step_20 (by decide) ?_
      exact W.zret (v := 0) hx hb hr rfl (fun t ht hW => ⟨⟨0, (V, L), rfl, ⟨hMV, agV, rfl, (by decide), (Imp.mk (fun hp => absurd hp (by decide))), (Imp.mk (fun _ => (show (V 0 69).toInt = (V 0 69).toInt ∧ (V 0 68).toInt = (V 0 68).toInt from by omega)))⟩, by rw [ht]; exact hP, va_K.moved hW.alike hK, hD⟩, hS.F ht⟩) hS.2.2 dX12_step_21
abbrev r_s_fails2 : Room := { frames := 0, cells := 0, slots := 0, locals := 0 }
abbrev q_s_fails2 (D : va_G) (ks : KS) (ad : Nat → Nat) (kk : Nat → ClassId) (V : Vf) (L : Lf) (p0 : Int32) (A : Nat → Prop) : Array Value → State → Outcome → State → Prop := va_Qi (fun (r : Int32) (u : Vf × Lf) => rgd bM u.1 ∧ agr [(0, 90), (0, 91)] [] V u.1 ∧ u.2 = L ∧ (1 ≤ r.toInt ∧ r.toInt ≤ 1)) (fun u t => gq D A (mw ad kk ks.1 u.1 u.2) (mty kk) t) A
set_option maxHeartbeats 4000000 in
set_option maxRecDepth 100000 in
theorem s_fails2 (l : Launch) (D : va_G) (ks : KS) (sz : Nat) (ad : Nat → Nat) (kk : Nat → ClassId) (V : Vf) (L : Lf) (p0 : Int32) (hMV : rgd bM V)  : Met l yX12_fails (Cond.code yX12_fails cX12_fails 2 (some .int) :: GW) r_s_fails2 (va_Pc [.ref (ad 0), .int p0] (gp D ks (mw ad kk ks.1 V L) (mty kk) sz)) (q_s_fails2 D ks ad kk V L p0 (va_A (mw ad kk ks.1 V L) sz)) 0 0 (va_A (mw ad kk ks.1 V L) sz) := by
  refine g_met (q_s_fails2 D ks ad kk V L p0) (by decide) (Nat.le_of_ble_eq_true rfl) ?_
  intro p e s m below meth c A ls H locs hx hb hr hml hown hg hlocks hin hnw hgk hP hK hD hS hA hl
  have hown : s.vm.findClass RX12 = some m.cls := hown
  have hl : lv_has ls 2 [(0, .ref (ad 0)), (1, .int p0)] := hl
  have hP : va_P D vwCl (mw ad kk ks.1 V L) H := hP
  have hD : va_D A (mw ad kk ks.1 V L) := hD
  have hK : va_K D vwCl (mty kk) s := hK
  have agV : agr [(0, 90), (0, 91)] [] V V := agr.rf
  refine lv_aload_n hx hb dX12_fails_0 rfl (lv_at hl 0 rfl) ?_
  refine lv_iconst (v := 0) hx hb dX12_fails_1 (by decide) ?_
  refine va_put (D := D) (ci := 12) (v := .int 0) (ty := tyX12 90) (C := RX12) (T := TX12) (N := 100) hx hb hg inX12 tyX12 tyX12_ok nmX12 hown hK hP hD hS 0 rfl rfl 90 (by decide) (hg _ w1800) (fun _ h9 => h9) rfl (tyX12_ok 90 (by decide)) rfl rfl (Nat.le_of_ble_eq_true rfl) dX12_fails_2 (fun H locs hP hD hS => ?_)
  obtain ⟨V1, hV1⟩ : ∃ z, z = up2 V 0 90 0 := ⟨_, rfl⟩
  have hP : va_P D vwCl (mw ad kk ks.1 V1 L) H := by rw [hV1]; exact hP
  have hD : va_D A (mw ad kk ks.1 V1 L) := by rw [hV1]; exact hD
  have hMV1 : rgd bM V1 := hMV.put hV1 (i_full _)
  have agV1 : agr [(0, 90), (0, 91)] [] V V1 := agV.up hV1 rfl
  refine lv_aload_n hx hb dX12_fails_5 rfl (lv_at hl 0 rfl) ?_
  refine lv_iload_n hx hb dX12_fails_6 rfl (lv_at hl 1 rfl) ?_
  refine va_put (D := D) (ci := 12) (v := .int p0) (ty := tyX12 91) (C := RX12) (T := TX12) (N := 100) hx hb hg inX12 tyX12 tyX12_ok nmX12 hown hK hP hD hS 0 rfl rfl 91 (by decide) (hg _ w1801) (fun _ h9 => h9) rfl (tyX12_ok 91 (by decide)) rfl rfl (Nat.le_of_ble_eq_true rfl) dX12_fails_7 (fun H locs hP hD hS => ?_)
  obtain ⟨V2, hV2⟩ : ∃ z, z = up2 V1 0 91 p0 := ⟨_, rfl⟩
  have hP : va_P D vwCl (mw ad kk ks.1 V2 L) H := by rw [hV2]; exact hP
  have hD : va_D A (mw ad kk ks.1 V2 L) := by rw [hV2]; exact hD
  have hMV2 : rgd bM V2 := hMV1.put hV2 (i_full _)
  have agV2 : agr [(0, 90), (0, 91)] [] V V2 := agV1.up hV2 rfl
  refine lv_iconst (v := 1) hx hb dX12_fails_10 (by decide) ?_
  exact W.iret (v := 1) hx hb hr (fun t ht hW => ⟨⟨1, (V2, L), rfl, ⟨hMV2, agV2, rfl, (by decide)⟩, by rw [ht]; exact hP, va_K.moved hW.alike hK, hD⟩, hS.F ht⟩) hS.2.2 dX12_fails_11
abbrev r_s_push2 : Room := { frames := 0, cells := 0, slots := 0, locals := 0 }
abbrev q_s_push2 (D : va_G) (ks : KS) (ad : Nat → Nat) (kk : Nat → ClassId) (V : Vf) (L : Lf) (p0 : Int32) (A : Nat → Prop) : Array Value → State → Outcome → State → Prop := va_Qv (fun (u : Vf × Lf) => rgd bM u.1 ∧ agr [(0, 98)] [97] V u.1 ∧ u.2 = L ∧ ((u.1 0 98).toInt = (V 0 98).toInt + 1)) (fun u t => gq D A (mw ad kk ks.1 u.1 u.2) (mty kk) t) A
set_option maxHeartbeats 4000000 in
set_option maxRecDepth 100000 in
theorem s_push2 (l : Launch) (D : va_G) (ks : KS) (sz : Nat) (ad : Nat → Nat) (kk : Nat → ClassId) (V : Vf) (L : Lf) (p0 : Int32) (hMV : rgd bM V) (y1 : (V 0 98).toInt ≤ 19999)  : Met l yX12_push (Cond.code yX12_push cX12_push 2 none :: GW) r_s_push2 (va_Pc [.ref (ad 0), .int p0] (gp D ks (mw ad kk ks.1 V L) (mty kk) sz)) (q_s_push2 D ks ad kk V L p0 (va_A (mw ad kk ks.1 V L) sz)) 0 0 (va_A (mw ad kk ks.1 V L) sz) := by
  refine g_met (q_s_push2 D ks ad kk V L p0) (by decide) (Nat.le_of_ble_eq_true rfl) ?_
  intro p e s m below meth c A ls H locs hx hb hr hml hown hg hlocks hin hnw hgk hP hK hD hS hA hl
  have hown : s.vm.findClass RX12 = some m.cls := hown
  have hl : lv_has ls 2 [(0, .ref (ad 0)), (1, .int p0)] := hl
  have hP : va_P D vwCl (mw ad kk ks.1 V L) H := hP
  have hD : va_D A (mw ad kk ks.1 V L) := hD
  have hK : va_K D vwCl (mty kk) s := hK
  have agV : agr [(0, 98)] [97] V V := agr.rf
  have r1 : 0 ≤ ((V 0 98)).toInt ∧ ((V 0 98)).toInt ≤ 20000 := hMV 0 98
  refine lv_aload_n hx hb dX12_push_0 rfl (lv_at hl 0 rfl) ?_
  refine va_get (D := D) (ci := 12) (v := .ref (ad 97)) (C := RX12) (T := TX12) (N := 100) hx hb hg inX12 hown hK hP 0 rfl rfl 97 (by decide) (hg _ w1807) (fun _ h9 => h9) rfl dX12_push_1 ?_
  refine lv_aload_n hx hb dX12_push_4 rfl (lv_at hl 0 rfl) ?_
  refine va_get (D := D) (ci := 12) (v := .int (V 0 98)) (C := RX12) (T := TX12) (N := 100) hx hb hg inX12 hown hK hP 0 rfl rfl 98 (by decide) (hg _ w1808) (fun _ h9 => h9) rfl dX12_push_5 ?_
  refine lv_iload_n hx hb dX12_push_8 rfl (lv_at hl 1 rfl) ?_
  refine va_iast (D := D) (i := (V 0 98)) (x := p0) hx hb hK hP hD hS 66 65 rfl rfl (i_in (a := ((V 0 98)).toInt) rfl (by omega)) dX12_push_9 (fun H locs hP hD hS => ?_)
  obtain ⟨V2, hV2⟩ : ∃ z, z = up2 V 97 (Int32.toNatClampNeg (V 0 98)) p0 := ⟨_, rfl⟩
  have hP : va_P D vwCl (mw ad kk ks.1 V2 L) H := by rw [hV2]; exact hP
  have hD : va_D A (mw ad kk ks.1 V2 L) := by rw [hV2]; exact hD
  have hMV2 : rgd bM V2 := hMV.put hV2 (i_full _)
  have agV2 : agr [(0, 98)] [97] V V2 := agV.up hV2 rfl
  refine lv_aload_n hx hb dX12_push_10 rfl (lv_at hl 0 rfl) ?_
  refine lv_dup hx hb dX12_push_11 rfl ?_
  refine va_get (D := D) (ci := 12) (v := .int (V2 0 98)) (C := RX12) (T := TX12) (N := 100) hx hb hg inX12 hown hK hP 0 rfl rfl 98 (by decide) (hg _ w1808) (fun _ h9 => h9) rfl dX12_push_12 ?_
  refine g_top (v := (V 0 98)) (up2_o hV2 (by decide)) ?_
  refine lv_iconst (v := 1) hx hb dX12_push_15 (by decide) ?_
  refine lv_iadd hx hb dX12_push_16 ?_
  refine lv_topi (fun z3 ez3 => ?_)
  have hz3 : z3.toInt = ((V 0 98)).toInt + 1 := i_add ez3 rfl (by decide) (by omega)
  refine va_put (D := D) (ci := 12) (v := .int z3) (ty := tyX12 98) (C := RX12) (T := TX12) (N := 100) hx hb hg inX12 tyX12 tyX12_ok nmX12 hown hK hP hD hS 0 rfl rfl 98 (by decide) (hg _ w1808) (fun _ h9 => h9) rfl (tyX12_ok 98 (by decide)) rfl rfl (Nat.le_of_ble_eq_true rfl) dX12_push_17 (fun H locs hP hD hS => ?_)
  obtain ⟨V4, hV4⟩ : ∃ z, z = up2 V2 0 98 z3 := ⟨_, rfl⟩
  have hP : va_P D vwCl (mw ad kk ks.1 V4 L) H := by rw [hV4]; exact hP
  have hD : va_D A (mw ad kk ks.1 V4 L) := by rw [hV4]; exact hD
  have hMV4 : rgd bM V4 := hMV2.put hV4 (show 0 ≤ z3.toInt ∧ z3.toInt ≤ 20000 from by omega)
  have agV4 : agr [(0, 98)] [97] V V4 := agV2.up hV4 rfl
  have pq5 : (V4 0 98).toInt = z3.toInt := congrArg Int32.toInt (up2_s hV4)
  exact W.vret hx hb hr (fun t ht hW => ⟨⟨(V4, L), rfl, ⟨hMV4, agV4, rfl, (show (V4 0 98).toInt = (V 0 98).toInt + 1 from by omega)⟩, by rw [ht]; exact hP, va_K.moved hW.alike hK, hD⟩, hS.F ht⟩) hS.2.2 dX12_push_20
abbrev r_s_pop2 : Room := { frames := 0, cells := 0, slots := 0, locals := 0 }
abbrev q_s_pop2 (D : va_G) (ks : KS) (ad : Nat → Nat) (kk : Nat → ClassId) (V : Vf) (L : Lf) (A : Nat → Prop) : Array Value → State → Outcome → State → Prop := va_Qi (fun (r : Int32) (u : Vf × Lf) => rgd bM u.1 ∧ agr [(0, 98)] [] V u.1 ∧ u.2 = L ∧ ((u.1 0 98).toInt = (V 0 98).toInt - 1)) (fun u t => gq D A (mw ad kk ks.1 u.1 u.2) (mty kk) t) A
set_option maxHeartbeats 4000000 in
set_option maxRecDepth 100000 in
theorem s_pop2 (l : Launch) (D : va_G) (ks : KS) (sz : Nat) (ad : Nat → Nat) (kk : Nat → ClassId) (V : Vf) (L : Lf)  (hMV : rgd bM V) (y1 : 1 ≤ (V 0 98).toInt)  : Met l yX12_pop (Cond.code yX12_pop cX12_pop 1 (some .int) :: GW) r_s_pop2 (va_Pc [.ref (ad 0)] (gp D ks (mw ad kk ks.1 V L) (mty kk) sz)) (q_s_pop2 D ks ad kk V L  (va_A (mw ad kk ks.1 V L) sz)) 0 0 (va_A (mw ad kk ks.1 V L) sz) := by
  refine g_met (q_s_pop2 D ks ad kk V L) (by decide) (Nat.le_of_ble_eq_true rfl) ?_
  intro p e s m below meth c A ls H locs hx hb hr hml hown hg hlocks hin hnw hgk hP hK hD hS hA hl
  have hown : s.vm.findClass RX12 = some m.cls := hown
  have hl : lv_has ls 1 [(0, .ref (ad 0))] := hl
  have hP : va_P D vwCl (mw ad kk ks.1 V L) H := hP
  have hD : va_D A (mw ad kk ks.1 V L) := hD
  have hK : va_K D vwCl (mty kk) s := hK
  have agV : agr [(0, 98)] [] V V := agr.rf
  have r1 : 0 ≤ ((V 0 98)).toInt ∧ ((V 0 98)).toInt ≤ 20000 := hMV 0 98
  refine lv_aload_n hx hb dX12_pop_0 rfl (lv_at hl 0 rfl) ?_
  refine lv_dup hx hb dX12_pop_1 rfl ?_
  refine va_get (D := D) (ci := 12) (v := .int (V 0 98)) (C := RX12) (T := TX12) (N := 100) hx hb hg inX12 hown hK hP 0 rfl rfl 98 (by decide) (hg _ w1808) (fun _ h9 => h9) rfl dX12_pop_2 ?_
  refine lv_iconst (v := 1) hx hb dX12_pop_5 (by decide) ?_
  refine lv_isub hx hb dX12_pop_6 ?_
  refine lv_topi (fun z2 ez2 => ?_)
  have hz2 : z2.toInt = ((V 0 98)).toInt - 1 := i_sub ez2 rfl (by decide) (by omega)
  refine va_put (D := D) (ci := 12) (v := .int z2) (ty := tyX12 98) (C := RX12) (T := TX12) (N := 100) hx hb hg inX12 tyX12 tyX12_ok nmX12 hown hK hP hD hS 0 rfl rfl 98 (by decide) (hg _ w1808) (fun _ h9 => h9) rfl (tyX12_ok 98 (by decide)) rfl rfl (Nat.le_of_ble_eq_true rfl) dX12_pop_7 (fun H locs hP hD hS => ?_)
  obtain ⟨V3, hV3⟩ : ∃ z, z = up2 V 0 98 z2 := ⟨_, rfl⟩
  have hP : va_P D vwCl (mw ad kk ks.1 V3 L) H := by rw [hV3]; exact hP
  have hD : va_D A (mw ad kk ks.1 V3 L) := by rw [hV3]; exact hD
  have hMV3 : rgd bM V3 := hMV.put hV3 (show 0 ≤ z2.toInt ∧ z2.toInt ≤ 20000 from by omega)
  have agV3 : agr [(0, 98)] [] V V3 := agV.up hV3 rfl
  refine lv_aload_n hx hb dX12_pop_10 rfl (lv_at hl 0 rfl) ?_
  refine va_get (D := D) (ci := 12) (v := .ref (ad 97)) (C := RX12) (T := TX12) (N := 100) hx hb hg inX12 hown hK hP 0 rfl rfl 97 (by decide) (hg _ w1807) (fun _ h9 => h9) rfl dX12_pop_11 ?_
  refine lv_aload_n hx hb dX12_pop_14 rfl (lv_at hl 0 rfl) ?_
  refine va_get (D := D) (ci := 12) (v := .int (V3 0 98)) (C := RX12) (T := TX12) (N := 100) hx hb hg inX12 hown hK hP 0 rfl rfl 98 (by decide) (hg _ w1808) (fun _ h9 => h9) rfl dX12_pop_15 ?_
  refine g_top (v := z2) (up2_s hV3) ?_
  refine va_iald (D := D) (i := z2) hx hb hK hP 66 65 rfl rfl (i_in (a := z2.toInt) rfl (by omega)) dX12_pop_18 ?_
  refine g_top (v := (V 97 (Int32.toNatClampNeg z2))) (up2_o hV3 (by decide)) ?_
  have pq4 : (V3 0 98).toInt = z2.toInt := congrArg Int32.toInt (up2_s hV3)
  exact W.iret (v := (V 97 (Int32.toNatClampNeg z2))) hx hb hr (fun t ht hW => ⟨⟨(V 97 (Int32.toNatClampNeg z2)), (V3, L), rfl, ⟨hMV3, agV3, rfl, (show (V3 0 98).toInt = (V 0 98).toInt - 1 from by omega)⟩, by rw [ht]; exact hP, va_K.moved hW.alike hK, hD⟩, hS.F ht⟩) hS.2.2 dX12_pop_19
abbrev r_s_notes2 : Room := { frames := 0, cells := 0, slots := 0, locals := 0 }
abbrev q_s_notes2 (D : va_G) (ks : KS) (ad : Nat → Nat) (kk : Nat → ClassId) (V : Vf) (L : Lf) (p0 : Int32) (p1 : Int32) (p2 : Int32) (A : Nat → Prop) : Array Value → State → Outcome → State → Prop := va_Qv (fun (u : Vf × Lf) => rgd bM u.1 ∧ agr [(0, 76)] [77, 78, 79] V u.1 ∧ u.2 = L ∧ ((u.1 0 76).toInt = (V 0 76).toInt + 1)) (fun u t => gq D A (mw ad kk ks.1 u.1 u.2) (mty kk) t) A
set_option maxHeartbeats 4000000 in
set_option maxRecDepth 100000 in
theorem s_notes2 (l : Launch) (D : va_G) (ks : KS) (sz : Nat) (ad : Nat → Nat) (kk : Nat → ClassId) (V : Vf) (L : Lf) (p0 : Int32) (p1 : Int32) (p2 : Int32) (hMV : rgd bM V) (y1 : (V 0 76).toInt ≤ 1999999999)  : Met l yX12_notes (Cond.code yX12_notes cX12_notes 4 none :: GW) r_s_notes2 (va_Pc [.ref (ad 0), .int p0, .int p1, .int p2] (gp D ks (mw ad kk ks.1 V L) (mty kk) sz)) (q_s_notes2 D ks ad kk V L p0 p1 p2 (va_A (mw ad kk ks.1 V L) sz)) 0 0 (va_A (mw ad kk ks.1 V L) sz) := by
  refine g_met (q_s_notes2 D ks ad kk V L p0 p1 p2) (by decide) (Nat.le_of_ble_eq_true rfl) ?_
  intro p e s m below meth c A ls H locs hx hb hr hml hown hg hlocks hin hnw hgk hP hK hD hS hA hl
  have hown : s.vm.findClass RX12 = some m.cls := hown
  have hl : lv_has ls 4 [(0, .ref (ad 0)), (1, .int p0), (2, .int p1), (3, .int p2)] := hl
  have hP : va_P D vwCl (mw ad kk ks.1 V L) H := hP
  have hD : va_D A (mw ad kk ks.1 V L) := hD
  have hK : va_K D vwCl (mty kk) s := hK
  have agV : agr [(0, 76)] [77, 78, 79] V V := agr.rf
  have r1 : 0 ≤ ((V 0 76)).toInt ∧ ((V 0 76)).toInt ≤ 2000000000 := hMV 0 76
  refine lv_aload_n hx hb dX12_notes_0 rfl (lv_at hl 0 rfl) ?_
  refine va_get (D := D) (ci := 12) (v := .int (V 0 76)) (C := RX12) (T := TX12) (N := 100) hx hb hg inX12 hown hK hP 0 rfl rfl 76 (by decide) (hg _ w1786) (fun _ h9 => h9) rfl dX12_notes_1 ?_
  refine lv_bipush (v := 100) hx hb dX12_notes_4 (by decide) ?_
  have J2 : ∀ (V3 : Vf) (H : Heap) (locs : List Loc) (ls : Array Slot), agr [] [77, 78, 79] V V3 → rgd bM V3 → va_P D vwCl (mw ad kk ks.1 V3 L) H → va_D A (mw ad kk ks.1 V3 L) → va_S A s.heap H locs → lv_has ls 4 [(0, .ref (ad 0)), (1, .int p0), (2, .int p1), (3, .int p2)] → W p l e r_s_notes2 s m ([.ref (ad 0), .int p0, .int p1, .int p2] : List Value).toArray below meth c H locs 0 0 (MQ below (q_s_notes2 D ks ad kk V L p0 p1 p2 A) ([.ref (ad 0), .int p0, .int p1, .int p2] : List Value).toArray s 0 0 A) (F0 m 39 ls []) := by
    intro V3 H locs ls ajV3 hMV3 hP hD hS hl
    have agV3 : agr [(0, 76)] [77, 78, 79] V V3 := agV.tr ajV3 (by decide) (by decide)
    refine lv_aload_n hx hb dX12_notes_39 rfl (lv_at hl 0 rfl) ?_
    refine lv_dup hx hb dX12_notes_40 rfl ?_
    refine va_get (D := D) (ci := 12) (v := .int (V3 0 76)) (C := RX12) (T := TX12) (N := 100) hx hb hg inX12 hown hK hP 0 rfl rfl 76 (by decide) (hg _ w1786) (fun _ h9 => h9) rfl dX12_notes_41 ?_
    refine g_top (v := (V 0 76)) (ajV3 0 76 rfl) ?_
    refine lv_iconst (v := 1) hx hb dX12_notes_44 (by decide) ?_
    refine lv_iadd hx hb dX12_notes_45 ?_
    refine lv_topi (fun z4 ez4 => ?_)
    have hz4 : z4.toInt = ((V 0 76)).toInt + 1 := i_add ez4 rfl (by decide) (by omega)
    refine va_put (D := D) (ci := 12) (v := .int z4) (ty := tyX12 76) (C := RX12) (T := TX12) (N := 100) hx hb hg inX12 tyX12 tyX12_ok nmX12 hown hK hP hD hS 0 rfl rfl 76 (by decide) (hg _ w1786) (fun _ h9 => h9) rfl (tyX12_ok 76 (by decide)) rfl rfl (Nat.le_of_ble_eq_true rfl) dX12_notes_46 (fun H locs hP hD hS => ?_)
    obtain ⟨V5, hV5⟩ : ∃ z, z = up2 V3 0 76 z4 := ⟨_, rfl⟩
    have hP : va_P D vwCl (mw ad kk ks.1 V5 L) H := by rw [hV5]; exact hP
    have hD : va_D A (mw ad kk ks.1 V5 L) := by rw [hV5]; exact hD
    have hMV5 : rgd bM V5 := hMV3.put hV5 (show 0 ≤ z4.toInt ∧ z4.toInt ≤ 2000000000 from by omega)
    have agV5 : agr [(0, 76)] [77, 78, 79] V V5 := agV3.up hV5 rfl
    have pq6 : (V5 0 76).toInt = z4.toInt := congrArg Int32.toInt (up2_s hV5)
    exact W.vret hx hb hr (fun t ht hW => ⟨⟨(V5, L), rfl, ⟨hMV5, agV5, rfl, (show (V5 0 76).toInt = (V 0 76).toInt + 1 from by omega)⟩, by rw [ht]; exact hP, va_K.moved hW.alike hK, hD⟩, hS.F ht⟩) hS.2.2 dX12_notes_49
  refine lv_icmp_ge (tgt := 39) hx hb dX12_notes_6 (by decide) (fun c7 => ?_) (fun c7 => ?_)
  · skip
    have f8 : 100 ≤ ((V 0 76)).toInt := b_le (by decide) rfl c7
    exact J2 V H locs ls agr.rf hMV hP hD hS (lv_sub hl [0, 1, 2, 3] rfl)
  · skip
    have f9 : ((V 0 76)).toInt < 100 := b_nle (by decide) rfl c7
    refine lv_aload_n hx hb dX12_notes_9 rfl (lv_at hl 0 rfl) ?_
    refine va_get (D := D) (ci := 12) (v := .ref (ad 77)) (C := RX12) (T := TX12) (N := 100) hx hb hg inX12 hown hK hP 0 rfl rfl 77 (by decide) (hg _ w1787) (fun _ h9 => h9) rfl dX12_notes_10 ?_
    refine lv_aload_n hx hb dX12_notes_13 rfl (lv_at hl 0 rfl) ?_
    refine va_get (D := D) (ci := 12) (v := .int (V 0 76)) (C := RX12) (T := TX12) (N := 100) hx hb hg inX12 hown hK hP 0 rfl rfl 76 (by decide) (hg _ w1786) (fun _ h9 => h9) rfl dX12_notes_14 ?_
    refine lv_iload_n hx hb dX12_notes_17 rfl (lv_at hl 1 rfl) ?_
    refine va_iast (D := D) (i := (V 0 76)) (x := p0) hx hb hK hP hD hS 54 53 rfl rfl (i_in (a := ((V 0 76)).toInt) rfl (by omega)) dX12_notes_18 (fun H locs hP hD hS => ?_)
    obtain ⟨V10, hV10⟩ : ∃ z, z = up2 V 77 (Int32.toNatClampNeg (V 0 76)) p0 := ⟨_, rfl⟩
    have hP : va_P D vwCl (mw ad kk ks.1 V10 L) H := by rw [hV10]; exact hP
    have hD : va_D A (mw ad kk ks.1 V10 L) := by rw [hV10]; exact hD
    have hMV10 : rgd bM V10 := hMV.put hV10 (i_full _)
    have agV10 : agr [(0, 76)] [77, 78, 79] V V10 := agV.up hV10 rfl
    refine lv_aload_n hx hb dX12_notes_19 rfl (lv_at hl 0 rfl) ?_
    refine va_get (D := D) (ci := 12) (v := .ref (ad 78)) (C := RX12) (T := TX12) (N := 100) hx hb hg inX12 hown hK hP 0 rfl rfl 78 (by decide) (hg _ w1788) (fun _ h9 => h9) rfl dX12_notes_20 ?_
    refine lv_aload_n hx hb dX12_notes_23 rfl (lv_at hl 0 rfl) ?_
    refine va_get (D := D) (ci := 12) (v := .int (V10 0 76)) (C := RX12) (T := TX12) (N := 100) hx hb hg inX12 hown hK hP 0 rfl rfl 76 (by decide) (hg _ w1786) (fun _ h9 => h9) rfl dX12_notes_24 ?_
    refine g_top (v := (V 0 76)) (up2_o hV10 (by decide)) ?_
    refine lv_iload_n hx hb dX12_notes_27 rfl (lv_at hl 2 rfl) ?_
    refine va_iast (D := D) (i := (V 0 76)) (x := p1) hx hb hK hP hD hS 55 54 rfl rfl (i_in (a := ((V 0 76)).toInt) rfl (by omega)) dX12_notes_28 (fun H locs hP hD hS => ?_)
    obtain ⟨V11, hV11⟩ : ∃ z, z = up2 V10 78 (Int32.toNatClampNeg (V 0 76)) p1 := ⟨_, rfl⟩
    have hP : va_P D vwCl (mw ad kk ks.1 V11 L) H := by rw [hV11]; exact hP
    have hD : va_D A (mw ad kk ks.1 V11 L) := by rw [hV11]; exact hD
    have hMV11 : rgd bM V11 := hMV10.put hV11 (i_full _)
    have agV11 : agr [(0, 76)] [77, 78, 79] V V11 := agV10.up hV11 rfl
    refine lv_aload_n hx hb dX12_notes_29 rfl (lv_at hl 0 rfl) ?_
    refine va_get (D := D) (ci := 12) (v := .ref (ad 79)) (C := RX12) (T := TX12) (N := 100) hx hb hg inX12 hown hK hP 0 rfl rfl 79 (by decide) (hg _ w1789) (fun _ h9 => h9) rfl dX12_notes_30 ?_
    refine lv_aload_n hx hb dX12_notes_33 rfl (lv_at hl 0 rfl) ?_
    refine va_get (D := D) (ci := 12) (v := .int (V11 0 76)) (C := RX12) (T := TX12) (N := 100) hx hb hg inX12 hown hK hP 0 rfl rfl 76 (by decide) (hg _ w1786) (fun _ h9 => h9) rfl dX12_notes_34 ?_
    refine g_top (v := (V 0 76)) ((up2_o hV11 (by decide)).trans (up2_o hV10 (by decide))) ?_
    refine lv_iload_n hx hb dX12_notes_37 rfl (lv_at hl 3 rfl) ?_
    refine va_iast (D := D) (i := (V 0 76)) (x := p2) hx hb hK hP hD hS 56 55 rfl rfl (i_in (a := ((V 0 76)).toInt) rfl (by omega)) dX12_notes_38 (fun H locs hP hD hS => ?_)
    obtain ⟨V12, hV12⟩ : ∃ z, z = up2 V11 79 (Int32.toNatClampNeg (V 0 76)) p2 := ⟨_, rfl⟩
    have hP : va_P D vwCl (mw ad kk ks.1 V12 L) H := by rw [hV12]; exact hP
    have hD : va_D A (mw ad kk ks.1 V12 L) := by rw [hV12]; exact hD
    have hMV12 : rgd bM V12 := hMV11.put hV12 (i_full _)
    have agV12 : agr [(0, 76)] [77, 78, 79] V V12 := agV11.up hV12 rfl
    exact J2 V12 H locs ls (agr.up (agr.up (agr.up agr.rf hV10 rfl) hV11 rfl) hV12 rfl) hMV12 hP hD hS (lv_sub hl [0, 1, 2, 3] rfl)
abbrev r_s_reckons2 : Room := { frames := 1, cells := 0, slots := 0, locals := 21 }
abbrev q_s_reckons2 (D : va_G) (ks : KS) (ad : Nat → Nat) (kk : Nat → ClassId) (V : Vf) (L : Lf) (p0 : Int32) (p1 : Int32) (A : Nat → Prop) : Array Value → State → Outcome → State → Prop := va_Qi (fun (r : Int32) (u : Vf × Lf) => rgd bM u.1 ∧ agr [(0, 68), (0, 69), (0, 90), (0, 91), (0, 98)] [97] V u.1 ∧ u.2 = L ∧ (0 ≤ r.toInt ∧ r.toInt ≤ 2) ∧ (Imp (p0.toInt = 1) ((u.1 0 98).toInt = (V 0 98).toInt ∧ ((r.toInt = 0 ∧ (u.1 0 69).toInt = (V 0 69).toInt + 1 ∧ (u.1 0 68).toInt = (V 0 68).toInt + 1) ∨ (r.toInt = 2 ∧ (u.1 0 69).toInt = (V 0 69).toInt ∧ (u.1 0 68).toInt = (V 0 68).toInt)))) ∧ (Imp (p0.toInt = 10) (r.toInt = 1 ∧ (u.1 0 98).toInt = (V 0 98).toInt)) ∧ (Imp (p0.toInt = 2 ∨ p0.toInt = 11) (r.toInt = 0 ∧ (u.1 0 98).toInt = (V 0 98).toInt + 1)) ∧ (Imp (p0.toInt = 4) (r.toInt = 0 ∧ (u.1 0 98).toInt = (V 0 98).toInt)) ∧ (Imp (5 ≤ p0.toInt ∧ p0.toInt ≤ 9) (r.toInt = 0 ∧ (u.1 0 98).toInt = (V 0 98).toInt - 1)) ∧ (Imp (p0.toInt ≠ 1) ((u.1 0 69).toInt = (V 0 69).toInt ∧ (u.1 0 68).toInt = (V 0 68).toInt))) (fun u t => gq D A (mw ad kk ks.1 u.1 u.2) (mty kk) t) A
set_option maxHeartbeats 4000000 in
set_option maxRecDepth 100000 in
theorem s_reckons2 (l : Launch) (D : va_G) (ks : KS) (sz : Nat) (ad : Nat → Nat) (kk : Nat → ClassId) (V : Vf) (L : Lf) (p0 : Int32) (p1 : Int32) (hMV : rgd bM V) (rg_p0 : 1 ≤ p0.toInt ∧ p0.toInt ≤ 11) (y1 : Imp (p0.toInt = 11) (0 ≤ p1.toInt ∧ p1.toInt ≤ 11)) (y2 : Imp (p0.toInt = 2 ∨ p0.toInt = 11) ((V 0 98).toInt ≤ 19999)) (y3 : Imp (p0.toInt = 4) (1 ≤ (V 0 98).toInt)) (y4 : Imp (5 ≤ p0.toInt ∧ p0.toInt ≤ 9) (2 ≤ (V 0 98).toInt)) (y5 : p0.toInt ≠ 3)  : Met l yX12_reckons (Cond.code yX12_reckons cX12_reckons 5 (some .int) :: GW) r_s_reckons2 (va_Pc [.ref (ad 0), .int p0, .int p1] (gp D ks (mw ad kk ks.1 V L) (mty kk) sz)) (q_s_reckons2 D ks ad kk V L p0 p1 (va_A (mw ad kk ks.1 V L) sz)) 0 0 (va_A (mw ad kk ks.1 V L) sz) := by
  refine g_met (q_s_reckons2 D ks ad kk V L p0 p1) (by decide) (Nat.le_of_ble_eq_true rfl) ?_
  intro p e s m below meth c A ls H locs hx hb hr hml hown hg hlocks hin hnw hgk hP hK hD hS hA hl
  have hown : s.vm.findClass RX12 = some m.cls := hown
  have hl : lv_has ls 5 [(0, .ref (ad 0)), (1, .int p0), (2, .int p1)] := hl
  have hP : va_P D vwCl (mw ad kk ks.1 V L) H := hP
  have hD : va_D A (mw ad kk ks.1 V L) := hD
  have hK : va_K D vwCl (mty kk) s := hK
  have agV : agr [(0, 68), (0, 69), (0, 90), (0, 91), (0, 98)] [97] V V := agr.rf
  have r1 : 0 ≤ ((V 0 98)).toInt ∧ ((V 0 98)).toInt ≤ 20000 := hMV 0 98
  refine lv_iload_n hx hb dX12_reckons_0 rfl (lv_at hl 1 rfl) ?_
  refine lv_iconst (v := 1) hx hb dX12_reckons_1 (by decide) ?_
  refine lv_icmp_ne (tgt := 18) hx hb dX12_reckons_2 (by decide) (fun c2 => ?_) (fun c2 => ?_)
  · skip
    have f3 : p0.toInt ≠ 1 := b_neq rfl (by decide) c2
    refine lv_iload_n hx hb dX12_reckons_18 rfl (lv_at hl 1 rfl) ?_
    refine lv_bipush (v := 10) hx hb dX12_reckons_19 (by decide) ?_
    refine lv_icmp_ne (tgt := 30) hx hb dX12_reckons_21 (by decide) (fun c4 => ?_) (fun c4 => ?_)
    · skip
      have f5 : p0.toInt ≠ 10 := b_neq rfl (by decide) c4
      refine lv_iload_n hx hb dX12_reckons_30 rfl (lv_at hl 1 rfl) ?_
      refine lv_iconst (v := 2) hx hb dX12_reckons_31 (by decide) ?_
      refine lv_icmp_eq (tgt := 41) hx hb dX12_reckons_32 (by decide) (fun c6 => ?_) (fun c6 => ?_)
      · skip
        have f7 : p0.toInt = 2 := b_eq rfl (by decide) c6
        refine lv_aload_n hx hb dX12_reckons_41 rfl (lv_at hl 0 rfl) ?_
        refine lv_iload_n hx hb dX12_reckons_42 rfl (lv_at hl 1 rfl) ?_
        refine lv_iconst (v := 2) hx hb dX12_reckons_43 (by decide) ?_
        refine lv_icmp_ne (tgt := 51) hx hb dX12_reckons_44 (by decide) (fun c8 => ?_) (fun c8 => ?_)
        · skip
          have f9 : p0.toInt ≠ 2 := b_neq rfl (by decide) c8
          exfalso; first | omega | ((try (have i_y4 := Imp.go y4 (by omega))); (try (have i_y3 := Imp.go y3 (by omega))); (try (have i_y2 := Imp.go y2 (by omega))); (try (have i_y1 := Imp.go y1 (by omega))); (try (have i_y1 := Imp.go y1 (by omega))); (try (have i_y2 := Imp.go y2 (by omega))); (try (have i_y3 := Imp.go y3 (by omega))); (try (have i_y4 := Imp.go y4 (by omega))); omega)
        · skip
          have f10 : p0.toInt = 2 := b_eq rfl (by decide) c8
          refine lv_iload_n hx hb dX12_reckons_47 rfl (lv_at hl 2 rfl) ?_
          refine lv_goto (tgt := 65) hx hb dX12_reckons_48 (by decide) ?_
          refine gA_void (gA_runV (As := [.int p1]) (rest := []) (ci := 12) (q0 := 0) hx hb hml hown hg hP hD hK hS hA hnw hgk (s_push2 l D ks H.size ad kk V L p1 hMV (show (V 0 98).toInt ≤ 19999 from by first | omega | ((try (have i_y4 := Imp.go y4 (by omega))); (try (have i_y3 := Imp.go y3 (by omega))); (try (have i_y2 := Imp.go y2 (by omega))); (try (have i_y1 := Imp.go y1 (by omega))); (try (have i_y1 := Imp.go y1 (by omega))); (try (have i_y2 := Imp.go y2 (by omega))); (try (have i_y3 := Imp.go y3 (by omega))); (try (have i_y4 := Imp.go y4 (by omega))); omega))) w2308 w2310 w145 w172 w2311 rfl rfl hdV_yX12_push ⟨Nat.le_of_ble_eq_true rfl, Nat.le_of_ble_eq_true rfl⟩ rfl hl.1 rfl (Nat.le_of_ble_eq_true rfl) dX12_reckons_65 ⟨Nat.le_of_ble_eq_true rfl, Nat.le_of_ble_eq_true rfl⟩) hP hD hK hS hA (fun u12 H locs w13 hP hD hK hS => ?_)
          obtain ⟨V15, L16⟩ := u12
          obtain ⟨hMV15, ajV15, axL16, t14⟩ := w13
          have axL16 : L = L16 := Eq.symm axL16
          subst axL16
          have hP : va_P D vwCl (mw ad kk ks.1 V15 L) H := hP
          have hD : va_D A (mw ad kk ks.1 V15 L) := hD
          have hMV15 : rgd bM V15 := hMV15
          have ajV15 : agr [(0, 98)] [97] V V15 := ajV15
          have agV15 : agr [(0, 68), (0, 69), (0, 90), (0, 91), (0, 98)] [97] V V15 := agV.tr ajV15 (by decide) (by decide)
          have t14 : (V15 0 98).toInt = (V 0 98).toInt + 1 := t14
          have r17 : 0 ≤ ((V15 0 98)).toInt ∧ ((V15 0 98)).toInt ≤ 20000 := hMV15 0 98
          refine lv_goto (tgt := 172) hx hb dX12_reckons_68 (by decide) ?_
          refine lv_iconst (v := 0) hx hb dX12_reckons_172 (by decide) ?_
          have pq18 : (V15 0 69).toInt = ((V 0 69)).toInt := congrArg Int32.toInt (ajV15 0 69 rfl)
          have r19 : 0 ≤ ((V 0 69)).toInt ∧ ((V 0 69)).toInt ≤ 3000 := hMV 0 69
          have pq20 : (V15 0 68).toInt = ((V 0 68)).toInt := congrArg Int32.toInt (ajV15 0 68 rfl)
          have r21 : 0 ≤ ((V 0 68)).toInt ∧ ((V 0 68)).toInt ≤ 60000 := hMV 0 68
          exact W.iret (v := 0) hx hb hr (fun t ht hW => ⟨⟨0, (V15, L), rfl, ⟨hMV15, agV15, rfl, (by decide), (Imp.mk (fun hp => have hp : p0.toInt = 1 := hp; (show (V15 0 98).toInt = (V 0 98).toInt ∧ ((0 = 0 ∧ (V15 0 69).toInt = (V 0 69).toInt + 1 ∧ (V15 0 68).toInt = (V 0 68).toInt + 1) ∨ (0 = 2 ∧ (V15 0 69).toInt = (V 0 69).toInt ∧ (V15 0 68).toInt = (V 0 68).toInt)) from by first | omega | ((try (have i_y4 := Imp.go y4 (by omega))); (try (have i_y3 := Imp.go y3 (by omega))); (try (have i_y2 := Imp.go y2 (by omega))); (try (have i_y1 := Imp.go y1 (by omega))); (try (have i_y1 := Imp.go y1 (by omega))); (try (have i_y2 := Imp.go y2 (by omega))); (try (have i_y3 := Imp.go y3 (by omega))); (try (have i_y4 := Imp.go y4 (by omega))); omega)))), (Imp.mk (fun hp => have hp : p0.toInt = 10 := hp; (show 0 = 1 ∧ (V15 0 98).toInt = (V 0 98).toInt from by first | omega | ((try (have i_y4 := Imp.go y4 (by omega))); (try (have i_y3 := Imp.go y3 (by omega))); (try (have i_y2 := Imp.go y2 (by omega))); (try (have i_y1 := Imp.go y1 (by omega))); (try (have i_y1 := Imp.go y1 (by omega))); (try (have i_y2 := Imp.go y2 (by omega))); (try (have i_y3 := Imp.go y3 (by omega))); (try (have i_y4 := Imp.go y4 (by omega))); omega)))), (Imp.mk (fun hp => have hp : p0.toInt = 2 ∨ p0.toInt = 11 := hp; (show 0 = 0 ∧ (V15 0 98).toInt = (V 0 98).toInt + 1 from by first | omega | ((try (have i_y4 := Imp.go y4 (by omega))); (try (have i_y3 := Imp.go y3 (by omega))); (try (have i_y2 := Imp.go y2 (by omega))); (try (have i_y1 := Imp.go y1 (by omega))); (try (have i_y1 := Imp.go y1 (by omega))); (try (have i_y2 := Imp.go y2 (by omega))); (try (have i_y3 := Imp.go y3 (by omega))); (try (have i_y4 := Imp.go y4 (by omega))); omega)))), (Imp.mk (fun hp => have hp : p0.toInt = 4 := hp; (show 0 = 0 ∧ (V15 0 98).toInt = (V 0 98).toInt from by first | omega | ((try (have i_y4 := Imp.go y4 (by omega))); (try (have i_y3 := Imp.go y3 (by omega))); (try (have i_y2 := Imp.go y2 (by omega))); (try (have i_y1 := Imp.go y1 (by omega))); (try (have i_y1 := Imp.go y1 (by omega))); (try (have i_y2 := Imp.go y2 (by omega))); (try (have i_y3 := Imp.go y3 (by omega))); (try (have i_y4 := Imp.go y4 (by omega))); omega)))), (Imp.mk (fun hp => have hp : 5 ≤ p0.toInt ∧ p0.toInt ≤ 9 := hp; (show 0 = 0 ∧ (V15 0 98).toInt = (V 0 98).toInt - 1 from by first | omega | ((try (have i_y4 := Imp.go y4 (by omega))); (try (have i_y3 := Imp.go y3 (by omega))); (try (have i_y2 := Imp.go y2 (by omega))); (try (have i_y1 := Imp.go y1 (by omega))); (try (have i_y1 := Imp.go y1 (by omega))); (try (have i_y2 := Imp.go y2 (by omega))); (try (have i_y3 := Imp.go y3 (by omega))); (try (have i_y4 := Imp.go y4 (by omega))); omega)))), (Imp.mk (fun hp => have hp : p0.toInt ≠ 1 := hp; (show (V15 0 69).toInt = (V 0 69).toInt ∧ (V15 0 68).toInt = (V 0 68).toInt from by first | omega | ((try (have i_y4 := Imp.go y4 (by omega))); (try (have i_y3 := Imp.go y3 (by omega))); (try (have i_y2 := Imp.go y2 (by omega))); (try (have i_y1 := Imp.go y1 (by omega))); (try (have i_y1 := Imp.go y1 (by omega))); (try (have i_y2 := Imp.go y2 (by omega))); (try (have i_y3 := Imp.go y3 (by omega))); (try (have i_y4 := Imp.go y4 (by omega))); omega))))⟩, by rw [ht]; exact hP, va_K.moved hW.alike hK, hD⟩, hS.F ht⟩) hS.2.2 dX12_reckons_173
      · skip
        have f22 : p0.toInt ≠ 2 := b_neq rfl (by decide) c6
        refine lv_iload_n hx hb dX12_reckons_35 rfl (lv_at hl 1 rfl) ?_
        refine lv_bipush (v := 11) hx hb dX12_reckons_36 (by decide) ?_
        refine lv_icmp_ne (tgt := 71) hx hb dX12_reckons_38 (by decide) (fun c23 => ?_) (fun c23 => ?_)
        · skip
          have f24 : p0.toInt ≠ 11 := b_neq rfl (by decide) c23
          refine lv_iload_n hx hb dX12_reckons_71 rfl (lv_at hl 1 rfl) ?_
          refine lv_iconst (v := 4) hx hb dX12_reckons_72 (by decide) ?_
          refine lv_icmp_ne (tgt := 88) hx hb dX12_reckons_73 (by decide) (fun c25 => ?_) (fun c25 => ?_)
          · skip
            have f26 : p0.toInt ≠ 4 := b_neq rfl (by decide) c25
            refine lv_aload_n hx hb dX12_reckons_88 rfl (lv_at hl 0 rfl) ?_
            refine gA_int (gA_runV (As := []) (rest := []) (ci := 12) (q0 := 0) hx hb hml hown hg hP hD hK hS hA hnw hgk (s_pop2 l D ks H.size ad kk V L  hMV (show 1 ≤ (V 0 98).toInt from by first | omega | ((try (have i_y4 := Imp.go y4 (by omega))); (try (have i_y3 := Imp.go y3 (by omega))); (try (have i_y2 := Imp.go y2 (by omega))); (try (have i_y1 := Imp.go y1 (by omega))); (try (have i_y1 := Imp.go y1 (by omega))); (try (have i_y2 := Imp.go y2 (by omega))); (try (have i_y3 := Imp.go y3 (by omega))); (try (have i_y4 := Imp.go y4 (by omega))); omega))) w2280 w2282 w138 w172 w2283 rfl rfl hdV_yX12_pop ⟨Nat.le_of_ble_eq_true rfl, Nat.le_of_ble_eq_true rfl⟩ rfl hl.1 rfl (Nat.le_of_ble_eq_true rfl) dX12_reckons_89 ⟨Nat.le_of_ble_eq_true rfl, Nat.le_of_ble_eq_true rfl⟩) hP hD hK hS hA (fun z27 u28 H locs w29 hP hD hK hS => ?_)
            obtain ⟨V31, L32⟩ := u28
            obtain ⟨hMV31, ajV31, axL32, t30⟩ := w29
            have axL32 : L = L32 := Eq.symm axL32
            subst axL32
            have hP : va_P D vwCl (mw ad kk ks.1 V31 L) H := hP
            have hD : va_D A (mw ad kk ks.1 V31 L) := hD
            have hMV31 : rgd bM V31 := hMV31
            have ajV31 : agr [(0, 98)] [] V V31 := ajV31
            have agV31 : agr [(0, 68), (0, 69), (0, 90), (0, 91), (0, 98)] [97] V V31 := agV.tr ajV31 (by decide) (by decide)
            have t30 : (V31 0 98).toInt = (V 0 98).toInt - 1 := t30
            have r33 : 0 ≤ ((V31 0 98)).toInt ∧ ((V31 0 98)).toInt ≤ 20000 := hMV31 0 98
            refine lv_istore_n (lv' := [(3, .int z27), (0, .ref (ad 0)), (1, .int p0), (2, .int p1)]) hx hb dX12_reckons_92 rfl hl (by decide) rfl (fun ls hl => ?_)
            refine lv_aload_n hx hb dX12_reckons_93 rfl (lv_at hl 1 rfl) ?_
            refine gA_int (gA_runV (As := []) (rest := []) (ci := 12) (q0 := 0) hx hb hml hown hg hP hD hK hS hA hnw hgk (s_pop2 l D ks H.size ad kk V31 L  hMV31 (show 1 ≤ (V31 0 98).toInt from by first | omega | ((try (have i_y4 := Imp.go y4 (by omega))); (try (have i_y3 := Imp.go y3 (by omega))); (try (have i_y2 := Imp.go y2 (by omega))); (try (have i_y1 := Imp.go y1 (by omega))); (try (have i_y1 := Imp.go y1 (by omega))); (try (have i_y2 := Imp.go y2 (by omega))); (try (have i_y3 := Imp.go y3 (by omega))); (try (have i_y4 := Imp.go y4 (by omega))); omega))) w2280 w2282 w138 w172 w2283 rfl rfl hdV_yX12_pop ⟨Nat.le_of_ble_eq_true rfl, Nat.le_of_ble_eq_true rfl⟩ rfl hl.1 rfl (Nat.le_of_ble_eq_true rfl) dX12_reckons_94 ⟨Nat.le_of_ble_eq_true rfl, Nat.le_of_ble_eq_true rfl⟩) hP hD hK hS hA (fun z34 u35 H locs w36 hP hD hK hS => ?_)
            obtain ⟨V38, L39⟩ := u35
            obtain ⟨hMV38, ajV38, axL39, t37⟩ := w36
            have axL39 : L = L39 := Eq.symm axL39
            subst axL39
            have hP : va_P D vwCl (mw ad kk ks.1 V38 L) H := hP
            have hD : va_D A (mw ad kk ks.1 V38 L) := hD
            have hMV38 : rgd bM V38 := hMV38
            have ajV38 : agr [(0, 98)] [] V31 V38 := ajV38
            have agV38 : agr [(0, 68), (0, 69), (0, 90), (0, 91), (0, 98)] [97] V V38 := agV31.tr ajV38 (by decide) (by decide)
            have t37 : (V38 0 98).toInt = (V31 0 98).toInt - 1 := t37
            have r40 : 0 ≤ ((V38 0 98)).toInt ∧ ((V38 0 98)).toInt ≤ 20000 := hMV38 0 98
            refine lv_istore (lv' := [(4, .int z34), (3, .int z27), (0, .ref (ad 0)), (1, .int p0), (2, .int p1)]) hx hb dX12_reckons_97 hl (by decide) rfl (fun ls hl => ?_)
            refine lv_aload_n hx hb dX12_reckons_99 rfl (lv_at hl 2 rfl) ?_
            refine lv_iload_n hx hb dX12_reckons_100 rfl (lv_at hl 3 rfl) ?_
            refine lv_iconst (v := 5) hx hb dX12_reckons_101 (by decide) ?_
            refine lv_icmp_ne (tgt := 112) hx hb dX12_reckons_102 (by decide) (fun c41 => ?_) (fun c41 => ?_)
            · skip
              have f42 : p0.toInt ≠ 5 := b_neq rfl (by decide) c41
              refine lv_iload_n hx hb dX12_reckons_112 rfl (lv_at hl 3 rfl) ?_
              refine lv_bipush (v := 6) hx hb dX12_reckons_113 (by decide) ?_
              refine lv_icmp_ne (tgt := 125) hx hb dX12_reckons_115 (by decide) (fun c43 => ?_) (fun c43 => ?_)
              · skip
                have f44 : p0.toInt ≠ 6 := b_neq rfl (by decide) c43
                refine lv_iload_n hx hb dX12_reckons_125 rfl (lv_at hl 3 rfl) ?_
                refine lv_bipush (v := 7) hx hb dX12_reckons_126 (by decide) ?_
                refine lv_icmp_ne (tgt := 138) hx hb dX12_reckons_128 (by decide) (fun c45 => ?_) (fun c45 => ?_)
                · skip
                  have f46 : p0.toInt ≠ 7 := b_neq rfl (by decide) c45
                  refine lv_iload_n hx hb dX12_reckons_138 rfl (lv_at hl 3 rfl) ?_
                  refine lv_bipush (v := 8) hx hb dX12_reckons_139 (by decide) ?_
                  refine lv_icmp_ne (tgt := 158) hx hb dX12_reckons_141 (by decide) (fun c47 => ?_) (fun c47 => ?_)
                  · skip
                    have f48 : p0.toInt ≠ 8 := b_neq rfl (by decide) c47
                    refine lv_iload hx hb dX12_reckons_158 (lv_at hl 0 rfl) ?_
                    refine lv_iload_n hx hb dX12_reckons_160 rfl (lv_at hl 1 rfl) ?_
                    refine lv_icmp_ne (tgt := 168) hx hb dX12_reckons_161 (by decide) (fun c49 => ?_) (fun c49 => ?_)
                    · skip
                      have f50 : z34.toInt ≠ z27.toInt := b_neq rfl rfl c49
                      refine lv_iconst (v := 0) hx hb dX12_reckons_168 (by decide) ?_
                      have r51 : Int32.toInt 0 = 0 := by decide
                      refine gA_void (gA_runV (As := [.int 0]) (rest := []) (ci := 12) (q0 := 0) hx hb hml hown hg hP hD hK hS hA hnw hgk (s_push2 l D ks H.size ad kk V38 L 0 hMV38 (show (V38 0 98).toInt ≤ 19999 from by first | omega | ((try (have i_y4 := Imp.go y4 (by omega))); (try (have i_y3 := Imp.go y3 (by omega))); (try (have i_y2 := Imp.go y2 (by omega))); (try (have i_y1 := Imp.go y1 (by omega))); (try (have i_y1 := Imp.go y1 (by omega))); (try (have i_y2 := Imp.go y2 (by omega))); (try (have i_y3 := Imp.go y3 (by omega))); (try (have i_y4 := Imp.go y4 (by omega))); omega))) w2308 w2310 w145 w172 w2311 rfl rfl hdV_yX12_push ⟨Nat.le_of_ble_eq_true rfl, Nat.le_of_ble_eq_true rfl⟩ rfl hl.1 rfl (Nat.le_of_ble_eq_true rfl) dX12_reckons_169 ⟨Nat.le_of_ble_eq_true rfl, Nat.le_of_ble_eq_true rfl⟩) hP hD hK hS hA (fun u53 H locs w54 hP hD hK hS => ?_)
                      obtain ⟨V56, L57⟩ := u53
                      obtain ⟨hMV56, ajV56, axL57, t55⟩ := w54
                      have axL57 : L = L57 := Eq.symm axL57
                      subst axL57
                      have hP : va_P D vwCl (mw ad kk ks.1 V56 L) H := hP
                      have hD : va_D A (mw ad kk ks.1 V56 L) := hD
                      have hMV56 : rgd bM V56 := hMV56
                      have ajV56 : agr [(0, 98)] [97] V38 V56 := ajV56
                      have agV56 : agr [(0, 68), (0, 69), (0, 90), (0, 91), (0, 98)] [97] V V56 := agV38.tr ajV56 (by decide) (by decide)
                      have t55 : (V56 0 98).toInt = (V38 0 98).toInt + 1 := t55
                      have r58 : 0 ≤ ((V56 0 98)).toInt ∧ ((V56 0 98)).toInt ≤ 20000 := hMV56 0 98
                      refine lv_iconst (v := 0) hx hb dX12_reckons_172 (by decide) ?_
                      have pq59 : (V56 0 69).toInt = ((V 0 69)).toInt := congrArg Int32.toInt ((ajV56 0 69 rfl).trans ((ajV38 0 69 rfl).trans (ajV31 0 69 rfl)))
                      have r60 : 0 ≤ ((V 0 69)).toInt ∧ ((V 0 69)).toInt ≤ 3000 := hMV 0 69
                      have pq61 : (V56 0 68).toInt = ((V 0 68)).toInt := congrArg Int32.toInt ((ajV56 0 68 rfl).trans ((ajV38 0 68 rfl).trans (ajV31 0 68 rfl)))
                      have r62 : 0 ≤ ((V 0 68)).toInt ∧ ((V 0 68)).toInt ≤ 60000 := hMV 0 68
                      exact W.iret (v := 0) hx hb hr (fun t ht hW => ⟨⟨0, (V56, L), rfl, ⟨hMV56, agV56, rfl, (by decide), (Imp.mk (fun hp => have hp : p0.toInt = 1 := hp; (show (V56 0 98).toInt = (V 0 98).toInt ∧ ((0 = 0 ∧ (V56 0 69).toInt = (V 0 69).toInt + 1 ∧ (V56 0 68).toInt = (V 0 68).toInt + 1) ∨ (0 = 2 ∧ (V56 0 69).toInt = (V 0 69).toInt ∧ (V56 0 68).toInt = (V 0 68).toInt)) from by first | omega | ((try (have i_y4 := Imp.go y4 (by omega))); (try (have i_y3 := Imp.go y3 (by omega))); (try (have i_y2 := Imp.go y2 (by omega))); (try (have i_y1 := Imp.go y1 (by omega))); (try (have i_y1 := Imp.go y1 (by omega))); (try (have i_y2 := Imp.go y2 (by omega))); (try (have i_y3 := Imp.go y3 (by omega))); (try (have i_y4 := Imp.go y4 (by omega))); omega)))), (Imp.mk (fun hp => have hp : p0.toInt = 10 := hp; (show 0 = 1 ∧ (V56 0 98).toInt = (V 0 98).toInt from by first | omega | ((try (have i_y4 := Imp.go y4 (by omega))); (try (have i_y3 := Imp.go y3 (by omega))); (try (have i_y2 := Imp.go y2 (by omega))); (try (have i_y1 := Imp.go y1 (by omega))); (try (have i_y1 := Imp.go y1 (by omega))); (try (have i_y2 := Imp.go y2 (by omega))); (try (have i_y3 := Imp.go y3 (by omega))); (try (have i_y4 := Imp.go y4 (by omega))); omega)))), (Imp.mk (fun hp => have hp : p0.toInt = 2 ∨ p0.toInt = 11 := hp; (show 0 = 0 ∧ (V56 0 98).toInt = (V 0 98).toInt + 1 from by first | omega | ((try (have i_y4 := Imp.go y4 (by omega))); (try (have i_y3 := Imp.go y3 (by omega))); (try (have i_y2 := Imp.go y2 (by omega))); (try (have i_y1 := Imp.go y1 (by omega))); (try (have i_y1 := Imp.go y1 (by omega))); (try (have i_y2 := Imp.go y2 (by omega))); (try (have i_y3 := Imp.go y3 (by omega))); (try (have i_y4 := Imp.go y4 (by omega))); omega)))), (Imp.mk (fun hp => have hp : p0.toInt = 4 := hp; (show 0 = 0 ∧ (V56 0 98).toInt = (V 0 98).toInt from by first | omega | ((try (have i_y4 := Imp.go y4 (by omega))); (try (have i_y3 := Imp.go y3 (by omega))); (try (have i_y2 := Imp.go y2 (by omega))); (try (have i_y1 := Imp.go y1 (by omega))); (try (have i_y1 := Imp.go y1 (by omega))); (try (have i_y2 := Imp.go y2 (by omega))); (try (have i_y3 := Imp.go y3 (by omega))); (try (have i_y4 := Imp.go y4 (by omega))); omega)))), (Imp.mk (fun hp => have hp : 5 ≤ p0.toInt ∧ p0.toInt ≤ 9 := hp; (show 0 = 0 ∧ (V56 0 98).toInt = (V 0 98).toInt - 1 from by first | omega | ((try (have i_y4 := Imp.go y4 (by omega))); (try (have i_y3 := Imp.go y3 (by omega))); (try (have i_y2 := Imp.go y2 (by omega))); (try (have i_y1 := Imp.go y1 (by omega))); (try (have i_y1 := Imp.go y1 (by omega))); (try (have i_y2 := Imp.go y2 (by omega))); (try (have i_y3 := Imp.go y3 (by omega))); (try (have i_y4 := Imp.go y4 (by omega))); omega)))), (Imp.mk (fun hp => have hp : p0.toInt ≠ 1 := hp; (show (V56 0 69).toInt = (V 0 69).toInt ∧ (V56 0 68).toInt = (V 0 68).toInt from by first | omega | ((try (have i_y4 := Imp.go y4 (by omega))); (try (have i_y3 := Imp.go y3 (by omega))); (try (have i_y2 := Imp.go y2 (by omega))); (try (have i_y1 := Imp.go y1 (by omega))); (try (have i_y1 := Imp.go y1 (by omega))); (try (have i_y2 := Imp.go y2 (by omega))); (try (have i_y3 := Imp.go y3 (by omega))); (try (have i_y4 := Imp.go y4 (by omega))); omega))))⟩, by rw [ht]; exact hP, va_K.moved hW.alike hK, hD⟩, hS.F ht⟩) hS.2.2 dX12_reckons_173
                    · skip
                      have f63 : z34.toInt = z27.toInt := b_eq rfl rfl c49
                      refine lv_iconst (v := 1) hx hb dX12_reckons_164 (by decide) ?_
                      refine lv_goto (tgt := 169) hx hb dX12_reckons_165 (by decide) ?_
                      have r64 : Int32.toInt 1 = 1 := by decide
                      refine gA_void (gA_runV (As := [.int 1]) (rest := []) (ci := 12) (q0 := 0) hx hb hml hown hg hP hD hK hS hA hnw hgk (s_push2 l D ks H.size ad kk V38 L 1 hMV38 (show (V38 0 98).toInt ≤ 19999 from by first | omega | ((try (have i_y4 := Imp.go y4 (by omega))); (try (have i_y3 := Imp.go y3 (by omega))); (try (have i_y2 := Imp.go y2 (by omega))); (try (have i_y1 := Imp.go y1 (by omega))); (try (have i_y1 := Imp.go y1 (by omega))); (try (have i_y2 := Imp.go y2 (by omega))); (try (have i_y3 := Imp.go y3 (by omega))); (try (have i_y4 := Imp.go y4 (by omega))); omega))) w2308 w2310 w145 w172 w2311 rfl rfl hdV_yX12_push ⟨Nat.le_of_ble_eq_true rfl, Nat.le_of_ble_eq_true rfl⟩ rfl hl.1 rfl (Nat.le_of_ble_eq_true rfl) dX12_reckons_169 ⟨Nat.le_of_ble_eq_true rfl, Nat.le_of_ble_eq_true rfl⟩) hP hD hK hS hA (fun u66 H locs w67 hP hD hK hS => ?_)
                      obtain ⟨V69, L70⟩ := u66
                      obtain ⟨hMV69, ajV69, axL70, t68⟩ := w67
                      have axL70 : L = L70 := Eq.symm axL70
                      subst axL70
                      have hP : va_P D vwCl (mw ad kk ks.1 V69 L) H := hP
                      have hD : va_D A (mw ad kk ks.1 V69 L) := hD
                      have hMV69 : rgd bM V69 := hMV69
                      have ajV69 : agr [(0, 98)] [97] V38 V69 := ajV69
                      have agV69 : agr [(0, 68), (0, 69), (0, 90), (0, 91), (0, 98)] [97] V V69 := agV38.tr ajV69 (by decide) (by decide)
                      have t68 : (V69 0 98).toInt = (V38 0 98).toInt + 1 := t68
                      have r71 : 0 ≤ ((V69 0 98)).toInt ∧ ((V69 0 98)).toInt ≤ 20000 := hMV69 0 98
                      refine lv_iconst (v := 0) hx hb dX12_reckons_172 (by decide) ?_
                      have pq72 : (V69 0 69).toInt = ((V 0 69)).toInt := congrArg Int32.toInt ((ajV69 0 69 rfl).trans ((ajV38 0 69 rfl).trans (ajV31 0 69 rfl)))
                      have r73 : 0 ≤ ((V 0 69)).toInt ∧ ((V 0 69)).toInt ≤ 3000 := hMV 0 69
                      have pq74 : (V69 0 68).toInt = ((V 0 68)).toInt := congrArg Int32.toInt ((ajV69 0 68 rfl).trans ((ajV38 0 68 rfl).trans (ajV31 0 68 rfl)))
                      have r75 : 0 ≤ ((V 0 68)).toInt ∧ ((V 0 68)).toInt ≤ 60000 := hMV 0 68
                      exact W.iret (v := 0) hx hb hr (fun t ht hW => ⟨⟨0, (V69, L), rfl, ⟨hMV69, agV69, rfl, (by decide), (Imp.mk (fun hp => have hp : p0.toInt = 1 := hp; (show (V69 0 98).toInt = (V 0 98).toInt ∧ ((0 = 0 ∧ (V69 0 69).toInt = (V 0 69).toInt + 1 ∧ (V69 0 68).toInt = (V 0 68).toInt + 1) ∨ (0 = 2 ∧ (V69 0 69).toInt = (V 0 69).toInt ∧ (V69 0 68).toInt = (V 0 68).toInt)) from by first | omega | ((try (have i_y4 := Imp.go y4 (by omega))); (try (have i_y3 := Imp.go y3 (by omega))); (try (have i_y2 := Imp.go y2 (by omega))); (try (have i_y1 := Imp.go y1 (by omega))); (try (have i_y1 := Imp.go y1 (by omega))); (try (have i_y2 := Imp.go y2 (by omega))); (try (have i_y3 := Imp.go y3 (by omega))); (try (have i_y4 := Imp.go y4 (by omega))); omega)))), (Imp.mk (fun hp => have hp : p0.toInt = 10 := hp; (show 0 = 1 ∧ (V69 0 98).toInt = (V 0 98).toInt from by first | omega | ((try (have i_y4 := Imp.go y4 (by omega))); (try (have i_y3 := Imp.go y3 (by omega))); (try (have i_y2 := Imp.go y2 (by omega))); (try (have i_y1 := Imp.go y1 (by omega))); (try (have i_y1 := Imp.go y1 (by omega))); (try (have i_y2 := Imp.go y2 (by omega))); (try (have i_y3 := Imp.go y3 (by omega))); (try (have i_y4 := Imp.go y4 (by omega))); omega)))), (Imp.mk (fun hp => have hp : p0.toInt = 2 ∨ p0.toInt = 11 := hp; (show 0 = 0 ∧ (V69 0 98).toInt = (V 0 98).toInt + 1 from by first | omega | ((try (have i_y4 := Imp.go y4 (by omega))); (try (have i_y3 := Imp.go y3 (by omega))); (try (have i_y2 := Imp.go y2 (by omega))); (try (have i_y1 := Imp.go y1 (by omega))); (try (have i_y1 := Imp.go y1 (by omega))); (try (have i_y2 := Imp.go y2 (by omega))); (try (have i_y3 := Imp.go y3 (by omega))); (try (have i_y4 := Imp.go y4 (by omega))); omega)))), (Imp.mk (fun hp => have hp : p0.toInt = 4 := hp; (show 0 = 0 ∧ (V69 0 98).toInt = (V 0 98).toInt from by first | omega | ((try (have i_y4 := Imp.go y4 (by omega))); (try (have i_y3 := Imp.go y3 (by omega))); (try (have i_y2 := Imp.go y2 (by omega))); (try (have i_y1 := Imp.go y1 (by omega))); (try (have i_y1 := Imp.go y1 (by omega))); (try (have i_y2 := Imp.go y2 (by omega))); (try (have i_y3 := Imp.go y3 (by omega))); (try (have i_y4 := Imp.go y4 (by omega))); omega)))), (Imp.mk (fun hp => have hp : 5 ≤ p0.toInt ∧ p0.toInt ≤ 9 := hp; (show 0 = 0 ∧ (V69 0 98).toInt = (V 0 98).toInt - 1 from by first | omega | ((try (have i_y4 := Imp.go y4 (by omega))); (try (have i_y3 := Imp.go y3 (by omega))); (try (have i_y2 := Imp.go y2 (by omega))); (try (have i_y1 := Imp.go y1 (by omega))); (try (have i_y1 := Imp.go y1 (by omega))); (try (have i_y2 := Imp.go y2 (by omega))); (try (have i_y3 := Imp.go y3 (by omega))); (try (have i_y4 := Imp.go y4 (by omega))); omega)))), (Imp.mk (fun hp => have hp : p0.toInt ≠ 1 := hp; (show (V69 0 69).toInt = (V 0 69).toInt ∧ (V69 0 68).toInt = (V 0 68).toInt from by first | omega | ((try (have i_y4 := Imp.go y4 (by omega))); (try (have i_y3 := Imp.go y3 (by omega))); (try (have i_y2 := Imp.go y2 (by omega))); (try (have i_y1 := Imp.go y1 (by omega))); (try (have i_y1 := Imp.go y1 (by omega))); (try (have i_y2 := Imp.go y2 (by omega))); (try (have i_y3 := Imp.go y3 (by omega))); (try (have i_y4 := Imp.go y4 (by omega))); omega))))⟩, by rw [ht]; exact hP, va_K.moved hW.alike hK, hD⟩, hS.F ht⟩) hS.2.2 dX12_reckons_173
                  · skip
                    have f76 : p0.toInt = 8 := b_eq rfl (by decide) c47
                    refine lv_iload hx hb dX12_reckons_144 (lv_at hl 0 rfl) ?_
                    refine lv_iload_n hx hb dX12_reckons_146 rfl (lv_at hl 1 rfl) ?_
                    refine lv_icmp_ge (tgt := 154) hx hb dX12_reckons_147 (by decide) (fun c77 => ?_) (fun c77 => ?_)
                    · skip
                      have f78 : z27.toInt ≤ z34.toInt := b_le rfl rfl c77
                      refine lv_iconst (v := 0) hx hb dX12_reckons_154 (by decide) ?_
                      refine lv_goto (tgt := 169) hx hb dX12_reckons_155 (by decide) ?_
                      have r79 : Int32.toInt 0 = 0 := by decide
                      refine gA_void (gA_runV (As := [.int 0]) (rest := []) (ci := 12) (q0 := 0) hx hb hml hown hg hP hD hK hS hA hnw hgk (s_push2 l D ks H.size ad kk V38 L 0 hMV38 (show (V38 0 98).toInt ≤ 19999 from by first | omega | ((try (have i_y4 := Imp.go y4 (by omega))); (try (have i_y3 := Imp.go y3 (by omega))); (try (have i_y2 := Imp.go y2 (by omega))); (try (have i_y1 := Imp.go y1 (by omega))); (try (have i_y1 := Imp.go y1 (by omega))); (try (have i_y2 := Imp.go y2 (by omega))); (try (have i_y3 := Imp.go y3 (by omega))); (try (have i_y4 := Imp.go y4 (by omega))); omega))) w2308 w2310 w145 w172 w2311 rfl rfl hdV_yX12_push ⟨Nat.le_of_ble_eq_true rfl, Nat.le_of_ble_eq_true rfl⟩ rfl hl.1 rfl (Nat.le_of_ble_eq_true rfl) dX12_reckons_169 ⟨Nat.le_of_ble_eq_true rfl, Nat.le_of_ble_eq_true rfl⟩) hP hD hK hS hA (fun u81 H locs w82 hP hD hK hS => ?_)
                      obtain ⟨V84, L85⟩ := u81
                      obtain ⟨hMV84, ajV84, axL85, t83⟩ := w82
                      have axL85 : L = L85 := Eq.symm axL85
                      subst axL85
                      have hP : va_P D vwCl (mw ad kk ks.1 V84 L) H := hP
                      have hD : va_D A (mw ad kk ks.1 V84 L) := hD
                      have hMV84 : rgd bM V84 := hMV84
                      have ajV84 : agr [(0, 98)] [97] V38 V84 := ajV84
                      have agV84 : agr [(0, 68), (0, 69), (0, 90), (0, 91), (0, 98)] [97] V V84 := agV38.tr ajV84 (by decide) (by decide)
                      have t83 : (V84 0 98).toInt = (V38 0 98).toInt + 1 := t83
                      have r86 : 0 ≤ ((V84 0 98)).toInt ∧ ((V84 0 98)).toInt ≤ 20000 := hMV84 0 98
                      refine lv_iconst (v := 0) hx hb dX12_reckons_172 (by decide) ?_
                      have pq87 : (V84 0 69).toInt = ((V 0 69)).toInt := congrArg Int32.toInt ((ajV84 0 69 rfl).trans ((ajV38 0 69 rfl).trans (ajV31 0 69 rfl)))
                      have r88 : 0 ≤ ((V 0 69)).toInt ∧ ((V 0 69)).toInt ≤ 3000 := hMV 0 69
                      have pq89 : (V84 0 68).toInt = ((V 0 68)).toInt := congrArg Int32.toInt ((ajV84 0 68 rfl).trans ((ajV38 0 68 rfl).trans (ajV31 0 68 rfl)))
                      have r90 : 0 ≤ ((V 0 68)).toInt ∧ ((V 0 68)).toInt ≤ 60000 := hMV 0 68
                      exact W.iret (v := 0) hx hb hr (fun t ht hW => ⟨⟨0, (V84, L), rfl, ⟨hMV84, agV84, rfl, (by decide), (Imp.mk (fun hp => have hp : p0.toInt = 1 := hp; (show (V84 0 98).toInt = (V 0 98).toInt ∧ ((0 = 0 ∧ (V84 0 69).toInt = (V 0 69).toInt + 1 ∧ (V84 0 68).toInt = (V 0 68).toInt + 1) ∨ (0 = 2 ∧ (V84 0 69).toInt = (V 0 69).toInt ∧ (V84 0 68).toInt = (V 0 68).toInt)) from by first | omega | ((try (have i_y4 := Imp.go y4 (by omega))); (try (have i_y3 := Imp.go y3 (by omega))); (try (have i_y2 := Imp.go y2 (by omega))); (try (have i_y1 := Imp.go y1 (by omega))); (try (have i_y1 := Imp.go y1 (by omega))); (try (have i_y2 := Imp.go y2 (by omega))); (try (have i_y3 := Imp.go y3 (by omega))); (try (have i_y4 := Imp.go y4 (by omega))); omega)))), (Imp.mk (fun hp => have hp : p0.toInt = 10 := hp; (show 0 = 1 ∧ (V84 0 98).toInt = (V 0 98).toInt from by first | omega | ((try (have i_y4 := Imp.go y4 (by omega))); (try (have i_y3 := Imp.go y3 (by omega))); (try (have i_y2 := Imp.go y2 (by omega))); (try (have i_y1 := Imp.go y1 (by omega))); (try (have i_y1 := Imp.go y1 (by omega))); (try (have i_y2 := Imp.go y2 (by omega))); (try (have i_y3 := Imp.go y3 (by omega))); (try (have i_y4 := Imp.go y4 (by omega))); omega)))), (Imp.mk (fun hp => have hp : p0.toInt = 2 ∨ p0.toInt = 11 := hp; (show 0 = 0 ∧ (V84 0 98).toInt = (V 0 98).toInt + 1 from by first | omega | ((try (have i_y4 := Imp.go y4 (by omega))); (try (have i_y3 := Imp.go y3 (by omega))); (try (have i_y2 := Imp.go y2 (by omega))); (try (have i_y1 := Imp.go y1 (by omega))); (try (have i_y1 := Imp.go y1 (by omega))); (try (have i_y2 := Imp.go y2 (by omega))); (try (have i_y3 := Imp.go y3 (by omega))); (try (have i_y4 := Imp.go y4 (by omega))); omega)))), (Imp.mk (fun hp => have hp : p0.toInt = 4 := hp; (show 0 = 0 ∧ (V84 0 98).toInt = (V 0 98).toInt from by first | omega | ((try (have i_y4 := Imp.go y4 (by omega))); (try (have i_y3 := Imp.go y3 (by omega))); (try (have i_y2 := Imp.go y2 (by omega))); (try (have i_y1 := Imp.go y1 (by omega))); (try (have i_y1 := Imp.go y1 (by omega))); (try (have i_y2 := Imp.go y2 (by omega))); (try (have i_y3 := Imp.go y3 (by omega))); (try (have i_y4 := Imp.go y4 (by omega))); omega)))), (Imp.mk (fun hp => have hp : 5 ≤ p0.toInt ∧ p0.toInt ≤ 9 := hp; (show 0 = 0 ∧ (V84 0 98).toInt = (V 0 98).toInt - 1 from by first | omega | ((try (have i_y4 := Imp.go y4 (by omega))); (try (have i_y3 := Imp.go y3 (by omega))); (try (have i_y2 := Imp.go y2 (by omega))); (try (have i_y1 := Imp.go y1 (by omega))); (try (have i_y1 := Imp.go y1 (by omega))); (try (have i_y2 := Imp.go y2 (by omega))); (try (have i_y3 := Imp.go y3 (by omega))); (try (have i_y4 := Imp.go y4 (by omega))); omega)))), (Imp.mk (fun hp => have hp : p0.toInt ≠ 1 := hp; (show (V84 0 69).toInt = (V 0 69).toInt ∧ (V84 0 68).toInt = (V 0 68).toInt from by first | omega | ((try (have i_y4 := Imp.go y4 (by omega))); (try (have i_y3 := Imp.go y3 (by omega))); (try (have i_y2 := Imp.go y2 (by omega))); (try (have i_y1 := Imp.go y1 (by omega))); (try (have i_y1 := Imp.go y1 (by omega))); (try (have i_y2 := Imp.go y2 (by omega))); (try (have i_y3 := Imp.go y3 (by omega))); (try (have i_y4 := Imp.go y4 (by omega))); omega))))⟩, by rw [ht]; exact hP, va_K.moved hW.alike hK, hD⟩, hS.F ht⟩) hS.2.2 dX12_reckons_173
                    · skip
                      have f91 : z34.toInt < z27.toInt := b_nle rfl rfl c77
                      refine lv_iconst (v := 1) hx hb dX12_reckons_150 (by decide) ?_
                      refine lv_goto (tgt := 169) hx hb dX12_reckons_151 (by decide) ?_
                      have r92 : Int32.toInt 1 = 1 := by decide
                      refine gA_void (gA_runV (As := [.int 1]) (rest := []) (ci := 12) (q0 := 0) hx hb hml hown hg hP hD hK hS hA hnw hgk (s_push2 l D ks H.size ad kk V38 L 1 hMV38 (show (V38 0 98).toInt ≤ 19999 from by first | omega | ((try (have i_y4 := Imp.go y4 (by omega))); (try (have i_y3 := Imp.go y3 (by omega))); (try (have i_y2 := Imp.go y2 (by omega))); (try (have i_y1 := Imp.go y1 (by omega))); (try (have i_y1 := Imp.go y1 (by omega))); (try (have i_y2 := Imp.go y2 (by omega))); (try (have i_y3 := Imp.go y3 (by omega))); (try (have i_y4 := Imp.go y4 (by omega))); omega))) w2308 w2310 w145 w172 w2311 rfl rfl hdV_yX12_push ⟨Nat.le_of_ble_eq_true rfl, Nat.le_of_ble_eq_true rfl⟩ rfl hl.1 rfl (Nat.le_of_ble_eq_true rfl) dX12_reckons_169 ⟨Nat.le_of_ble_eq_true rfl, Nat.le_of_ble_eq_true rfl⟩) hP hD hK hS hA (fun u94 H locs w95 hP hD hK hS => ?_)
                      obtain ⟨V97, L98⟩ := u94
                      obtain ⟨hMV97, ajV97, axL98, t96⟩ := w95
                      have axL98 : L = L98 := Eq.symm axL98
                      subst axL98
                      have hP : va_P D vwCl (mw ad kk ks.1 V97 L) H := hP
                      have hD : va_D A (mw ad kk ks.1 V97 L) := hD
                      have hMV97 : rgd bM V97 := hMV97
                      have ajV97 : agr [(0, 98)] [97] V38 V97 := ajV97
                      have agV97 : agr [(0, 68), (0, 69), (0, 90), (0, 91), (0, 98)] [97] V V97 := agV38.tr ajV97 (by decide) (by decide)
                      have t96 : (V97 0 98).toInt = (V38 0 98).toInt + 1 := t96
                      have r99 : 0 ≤ ((V97 0 98)).toInt ∧ ((V97 0 98)).toInt ≤ 20000 := hMV97 0 98
                      refine lv_iconst (v := 0) hx hb dX12_reckons_172 (by decide) ?_
                      have pq100 : (V97 0 69).toInt = ((V 0 69)).toInt := congrArg Int32.toInt ((ajV97 0 69 rfl).trans ((ajV38 0 69 rfl).trans (ajV31 0 69 rfl)))
                      have r101 : 0 ≤ ((V 0 69)).toInt ∧ ((V 0 69)).toInt ≤ 3000 := hMV 0 69
                      have pq102 : (V97 0 68).toInt = ((V 0 68)).toInt := congrArg Int32.toInt ((ajV97 0 68 rfl).trans ((ajV38 0 68 rfl).trans (ajV31 0 68 rfl)))
                      have r103 : 0 ≤ ((V 0 68)).toInt ∧ ((V 0 68)).toInt ≤ 60000 := hMV 0 68
                      exact W.iret (v := 0) hx hb hr (fun t ht hW => ⟨⟨0, (V97, L), rfl, ⟨hMV97, agV97, rfl, (by decide), (Imp.mk (fun hp => have hp : p0.toInt = 1 := hp; (show (V97 0 98).toInt = (V 0 98).toInt ∧ ((0 = 0 ∧ (V97 0 69).toInt = (V 0 69).toInt + 1 ∧ (V97 0 68).toInt = (V 0 68).toInt + 1) ∨ (0 = 2 ∧ (V97 0 69).toInt = (V 0 69).toInt ∧ (V97 0 68).toInt = (V 0 68).toInt)) from by first | omega | ((try (have i_y4 := Imp.go y4 (by omega))); (try (have i_y3 := Imp.go y3 (by omega))); (try (have i_y2 := Imp.go y2 (by omega))); (try (have i_y1 := Imp.go y1 (by omega))); (try (have i_y1 := Imp.go y1 (by omega))); (try (have i_y2 := Imp.go y2 (by omega))); (try (have i_y3 := Imp.go y3 (by omega))); (try (have i_y4 := Imp.go y4 (by omega))); omega)))), (Imp.mk (fun hp => have hp : p0.toInt = 10 := hp; (show 0 = 1 ∧ (V97 0 98).toInt = (V 0 98).toInt from by first | omega | ((try (have i_y4 := Imp.go y4 (by omega))); (try (have i_y3 := Imp.go y3 (by omega))); (try (have i_y2 := Imp.go y2 (by omega))); (try (have i_y1 := Imp.go y1 (by omega))); (try (have i_y1 := Imp.go y1 (by omega))); (try (have i_y2 := Imp.go y2 (by omega))); (try (have i_y3 := Imp.go y3 (by omega))); (try (have i_y4 := Imp.go y4 (by omega))); omega)))), (Imp.mk (fun hp => have hp : p0.toInt = 2 ∨ p0.toInt = 11 := hp; (show 0 = 0 ∧ (V97 0 98).toInt = (V 0 98).toInt + 1 from by first | omega | ((try (have i_y4 := Imp.go y4 (by omega))); (try (have i_y3 := Imp.go y3 (by omega))); (try (have i_y2 := Imp.go y2 (by omega))); (try (have i_y1 := Imp.go y1 (by omega))); (try (have i_y1 := Imp.go y1 (by omega))); (try (have i_y2 := Imp.go y2 (by omega))); (try (have i_y3 := Imp.go y3 (by omega))); (try (have i_y4 := Imp.go y4 (by omega))); omega)))), (Imp.mk (fun hp => have hp : p0.toInt = 4 := hp; (show 0 = 0 ∧ (V97 0 98).toInt = (V 0 98).toInt from by first | omega | ((try (have i_y4 := Imp.go y4 (by omega))); (try (have i_y3 := Imp.go y3 (by omega))); (try (have i_y2 := Imp.go y2 (by omega))); (try (have i_y1 := Imp.go y1 (by omega))); (try (have i_y1 := Imp.go y1 (by omega))); (try (have i_y2 := Imp.go y2 (by omega))); (try (have i_y3 := Imp.go y3 (by omega))); (try (have i_y4 := Imp.go y4 (by omega))); omega)))), (Imp.mk (fun hp => have hp : 5 ≤ p0.toInt ∧ p0.toInt ≤ 9 := hp; (show 0 = 0 ∧ (V97 0 98).toInt = (V 0 98).toInt - 1 from by first | omega | ((try (have i_y4 := Imp.go y4 (by omega))); (try (have i_y3 := Imp.go y3 (by omega))); (try (have i_y2 := Imp.go y2 (by omega))); (try (have i_y1 := Imp.go y1 (by omega))); (try (have i_y1 := Imp.go y1 (by omega))); (try (have i_y2 := Imp.go y2 (by omega))); (try (have i_y3 := Imp.go y3 (by omega))); (try (have i_y4 := Imp.go y4 (by omega))); omega)))), (Imp.mk (fun hp => have hp : p0.toInt ≠ 1 := hp; (show (V97 0 69).toInt = (V 0 69).toInt ∧ (V97 0 68).toInt = (V 0 68).toInt from by first | omega | ((try (have i_y4 := Imp.go y4 (by omega))); (try (have i_y3 := Imp.go y3 (by omega))); (try (have i_y2 := Imp.go y2 (by omega))); (try (have i_y1 := Imp.go y1 (by omega))); (try (have i_y1 := Imp.go y1 (by omega))); (try (have i_y2 := Imp.go y2 (by omega))); (try (have i_y3 := Imp.go y3 (by omega))); (try (have i_y4 := Imp.go y4 (by omega))); omega))))⟩, by rw [ht]; exact hP, va_K.moved hW.alike hK, hD⟩, hS.F ht⟩) hS.2.2 dX12_reckons_173
                · skip
                  have f104 : p0.toInt = 7 := b_eq rfl (by decide) c45
                  refine lv_iload hx hb dX12_reckons_131 (lv_at hl 0 rfl) ?_
                  refine lv_iload_n hx hb dX12_reckons_133 rfl (lv_at hl 1 rfl) ?_
                  refine lv_isub hx hb dX12_reckons_134 ?_
                  have r105 := i_full z34
                  have r106 := i_full z27
                  refine lv_topi (fun z107 ez107 => ?_)
                  have hz107 : Imp (-2147483648 ≤ z34.toInt - z27.toInt ∧ z34.toInt - z27.toInt ≤ 2147483647) (z107.toInt = z34.toInt - z27.toInt) := Imp.mk (fun hp => i_sub ez107 rfl rfl hp)
                  refine lv_goto (tgt := 169) hx hb dX12_reckons_135 (by decide) ?_
                  refine gA_void (gA_runV (As := [.int z107]) (rest := []) (ci := 12) (q0 := 0) hx hb hml hown hg hP hD hK hS hA hnw hgk (s_push2 l D ks H.size ad kk V38 L z107 hMV38 (show (V38 0 98).toInt ≤ 19999 from by first | omega | ((try (have i_hz107 := Imp.go hz107 (by omega))); (try (have i_y4 := Imp.go y4 (by omega))); (try (have i_y3 := Imp.go y3 (by omega))); (try (have i_y2 := Imp.go y2 (by omega))); (try (have i_y1 := Imp.go y1 (by omega))); (try (have i_y1 := Imp.go y1 (by omega))); (try (have i_y2 := Imp.go y2 (by omega))); (try (have i_y3 := Imp.go y3 (by omega))); (try (have i_y4 := Imp.go y4 (by omega))); (try (have i_hz107 := Imp.go hz107 (by omega))); omega))) w2308 w2310 w145 w172 w2311 rfl rfl hdV_yX12_push ⟨Nat.le_of_ble_eq_true rfl, Nat.le_of_ble_eq_true rfl⟩ rfl hl.1 rfl (Nat.le_of_ble_eq_true rfl) dX12_reckons_169 ⟨Nat.le_of_ble_eq_true rfl, Nat.le_of_ble_eq_true rfl⟩) hP hD hK hS hA (fun u109 H locs w110 hP hD hK hS => ?_)
                  obtain ⟨V112, L113⟩ := u109
                  obtain ⟨hMV112, ajV112, axL113, t111⟩ := w110
                  have axL113 : L = L113 := Eq.symm axL113
                  subst axL113
                  have hP : va_P D vwCl (mw ad kk ks.1 V112 L) H := hP
                  have hD : va_D A (mw ad kk ks.1 V112 L) := hD
                  have hMV112 : rgd bM V112 := hMV112
                  have ajV112 : agr [(0, 98)] [97] V38 V112 := ajV112
                  have agV112 : agr [(0, 68), (0, 69), (0, 90), (0, 91), (0, 98)] [97] V V112 := agV38.tr ajV112 (by decide) (by decide)
                  have t111 : (V112 0 98).toInt = (V38 0 98).toInt + 1 := t111
                  have r114 : 0 ≤ ((V112 0 98)).toInt ∧ ((V112 0 98)).toInt ≤ 20000 := hMV112 0 98
                  refine lv_iconst (v := 0) hx hb dX12_reckons_172 (by decide) ?_
                  have pq115 : (V112 0 69).toInt = ((V 0 69)).toInt := congrArg Int32.toInt ((ajV112 0 69 rfl).trans ((ajV38 0 69 rfl).trans (ajV31 0 69 rfl)))
                  have r116 : 0 ≤ ((V 0 69)).toInt ∧ ((V 0 69)).toInt ≤ 3000 := hMV 0 69
                  have pq117 : (V112 0 68).toInt = ((V 0 68)).toInt := congrArg Int32.toInt ((ajV112 0 68 rfl).trans ((ajV38 0 68 rfl).trans (ajV31 0 68 rfl)))
                  have r118 : 0 ≤ ((V 0 68)).toInt ∧ ((V 0 68)).toInt ≤ 60000 := hMV 0 68
                  exact W.iret (v := 0) hx hb hr (fun t ht hW => ⟨⟨0, (V112, L), rfl, ⟨hMV112, agV112, rfl, (by decide), (Imp.mk (fun hp => have hp : p0.toInt = 1 := hp; (show (V112 0 98).toInt = (V 0 98).toInt ∧ ((0 = 0 ∧ (V112 0 69).toInt = (V 0 69).toInt + 1 ∧ (V112 0 68).toInt = (V 0 68).toInt + 1) ∨ (0 = 2 ∧ (V112 0 69).toInt = (V 0 69).toInt ∧ (V112 0 68).toInt = (V 0 68).toInt)) from by first | omega | ((try (have i_hz107 := Imp.go hz107 (by omega))); (try (have i_y4 := Imp.go y4 (by omega))); (try (have i_y3 := Imp.go y3 (by omega))); (try (have i_y2 := Imp.go y2 (by omega))); (try (have i_y1 := Imp.go y1 (by omega))); (try (have i_y1 := Imp.go y1 (by omega))); (try (have i_y2 := Imp.go y2 (by omega))); (try (have i_y3 := Imp.go y3 (by omega))); (try (have i_y4 := Imp.go y4 (by omega))); (try (have i_hz107 := Imp.go hz107 (by omega))); omega)))), (Imp.mk (fun hp => have hp : p0.toInt = 10 := hp; (show 0 = 1 ∧ (V112 0 98).toInt = (V 0 98).toInt from by first | omega | ((try (have i_hz107 := Imp.go hz107 (by omega))); (try (have i_y4 := Imp.go y4 (by omega))); (try (have i_y3 := Imp.go y3 (by omega))); (try (have i_y2 := Imp.go y2 (by omega))); (try (have i_y1 := Imp.go y1 (by omega))); (try (have i_y1 := Imp.go y1 (by omega))); (try (have i_y2 := Imp.go y2 (by omega))); (try (have i_y3 := Imp.go y3 (by omega))); (try (have i_y4 := Imp.go y4 (by omega))); (try (have i_hz107 := Imp.go hz107 (by omega))); omega)))), (Imp.mk (fun hp => have hp : p0.toInt = 2 ∨ p0.toInt = 11 := hp; (show 0 = 0 ∧ (V112 0 98).toInt = (V 0 98).toInt + 1 from by first | omega | ((try (have i_hz107 := Imp.go hz107 (by omega))); (try (have i_y4 := Imp.go y4 (by omega))); (try (have i_y3 := Imp.go y3 (by omega))); (try (have i_y2 := Imp.go y2 (by omega))); (try (have i_y1 := Imp.go y1 (by omega))); (try (have i_y1 := Imp.go y1 (by omega))); (try (have i_y2 := Imp.go y2 (by omega))); (try (have i_y3 := Imp.go y3 (by omega))); (try (have i_y4 := Imp.go y4 (by omega))); (try (have i_hz107 := Imp.go hz107 (by omega))); omega)))), (Imp.mk (fun hp => have hp : p0.toInt = 4 := hp; (show 0 = 0 ∧ (V112 0 98).toInt = (V 0 98).toInt from by first | omega | ((try (have i_hz107 := Imp.go hz107 (by omega))); (try (have i_y4 := Imp.go y4 (by omega))); (try (have i_y3 := Imp.go y3 (by omega))); (try (have i_y2 := Imp.go y2 (by omega))); (try (have i_y1 := Imp.go y1 (by omega))); (try (have i_y1 := Imp.go y1 (by omega))); (try (have i_y2 := Imp.go y2 (by omega))); (try (have i_y3 := Imp.go y3 (by omega))); (try (have i_y4 := Imp.go y4 (by omega))); (try (have i_hz107 := Imp.go hz107 (by omega))); omega)))), (Imp.mk (fun hp => have hp : 5 ≤ p0.toInt ∧ p0.toInt ≤ 9 := hp; (show 0 = 0 ∧ (V112 0 98).toInt = (V 0 98).toInt - 1 from by first | omega | ((try (have i_hz107 := Imp.go hz107 (by omega))); (try (have i_y4 := Imp.go y4 (by omega))); (try (have i_y3 := Imp.go y3 (by omega))); (try (have i_y2 := Imp.go y2 (by omega))); (try (have i_y1 := Imp.go y1 (by omega))); (try (have i_y1 := Imp.go y1 (by omega))); (try (have i_y2 := Imp.go y2 (by omega))); (try (have i_y3 := Imp.go y3 (by omega))); (try (have i_y4 := Imp.go y4 (by omega))); (try (have i_hz107 := Imp.go hz107 (by omega))); omega)))), (Imp.mk (fun hp => have hp : p0.toInt ≠ 1 := hp; (show (V112 0 69).toInt = (V 0 69).toInt ∧ (V112 0 68).toInt = (V 0 68).toInt from by first | omega | ((try (have i_hz107 := Imp.go hz107 (by omega))); (try (have i_y4 := Imp.go y4 (by omega))); (try (have i_y3 := Imp.go y3 (by omega))); (try (have i_y2 := Imp.go y2 (by omega))); (try (have i_y1 := Imp.go y1 (by omega))); (try (have i_y1 := Imp.go y1 (by omega))); (try (have i_y2 := Imp.go y2 (by omega))); (try (have i_y3 := Imp.go y3 (by omega))); (try (have i_y4 := Imp.go y4 (by omega))); (try (have i_hz107 := Imp.go hz107 (by omega))); omega))))⟩, by rw [ht]; exact hP, va_K.moved hW.alike hK, hD⟩, hS.F ht⟩) hS.2.2 dX12_reckons_173
              · skip
                have f119 : p0.toInt = 6 := b_eq rfl (by decide) c43
                refine lv_iload hx hb dX12_reckons_118 (lv_at hl 0 rfl) ?_
                refine lv_iload_n hx hb dX12_reckons_120 rfl (lv_at hl 1 rfl) ?_
                refine lv_iadd hx hb dX12_reckons_121 ?_
                have r120 := i_full z34
                have r121 := i_full z27
                refine lv_topi (fun z122 ez122 => ?_)
                have hz122 : Imp (-2147483648 ≤ z34.toInt + z27.toInt ∧ z34.toInt + z27.toInt ≤ 2147483647) (z122.toInt = z34.toInt + z27.toInt) := Imp.mk (fun hp => i_add ez122 rfl rfl hp)
                refine lv_goto (tgt := 169) hx hb dX12_reckons_122 (by decide) ?_
                refine gA_void (gA_runV (As := [.int z122]) (rest := []) (ci := 12) (q0 := 0) hx hb hml hown hg hP hD hK hS hA hnw hgk (s_push2 l D ks H.size ad kk V38 L z122 hMV38 (show (V38 0 98).toInt ≤ 19999 from by first | omega | ((try (have i_hz122 := Imp.go hz122 (by omega))); (try (have i_y4 := Imp.go y4 (by omega))); (try (have i_y3 := Imp.go y3 (by omega))); (try (have i_y2 := Imp.go y2 (by omega))); (try (have i_y1 := Imp.go y1 (by omega))); (try (have i_y1 := Imp.go y1 (by omega))); (try (have i_y2 := Imp.go y2 (by omega))); (try (have i_y3 := Imp.go y3 (by omega))); (try (have i_y4 := Imp.go y4 (by omega))); (try (have i_hz122 := Imp.go hz122 (by omega))); omega))) w2308 w2310 w145 w172 w2311 rfl rfl hdV_yX12_push ⟨Nat.le_of_ble_eq_true rfl, Nat.le_of_ble_eq_true rfl⟩ rfl hl.1 rfl (Nat.le_of_ble_eq_true rfl) dX12_reckons_169 ⟨Nat.le_of_ble_eq_true rfl, Nat.le_of_ble_eq_true rfl⟩) hP hD hK hS hA (fun u124 H locs w125 hP hD hK hS => ?_)
                obtain ⟨V127, L128⟩ := u124
                obtain ⟨hMV127, ajV127, axL128, t126⟩ := w125
                have axL128 : L = L128 := Eq.symm axL128
                subst axL128
                have hP : va_P D vwCl (mw ad kk ks.1 V127 L) H := hP
                have hD : va_D A (mw ad kk ks.1 V127 L) := hD
                have hMV127 : rgd bM V127 := hMV127
                have ajV127 : agr [(0, 98)] [97] V38 V127 := ajV127
                have agV127 : agr [(0, 68), (0, 69), (0, 90), (0, 91), (0, 98)] [97] V V127 := agV38.tr ajV127 (by decide) (by decide)
                have t126 : (V127 0 98).toInt = (V38 0 98).toInt + 1 := t126
                have r129 : 0 ≤ ((V127 0 98)).toInt ∧ ((V127 0 98)).toInt ≤ 20000 := hMV127 0 98
                refine lv_iconst (v := 0) hx hb dX12_reckons_172 (by decide) ?_
                have pq130 : (V127 0 69).toInt = ((V 0 69)).toInt := congrArg Int32.toInt ((ajV127 0 69 rfl).trans ((ajV38 0 69 rfl).trans (ajV31 0 69 rfl)))
                have r131 : 0 ≤ ((V 0 69)).toInt ∧ ((V 0 69)).toInt ≤ 3000 := hMV 0 69
                have pq132 : (V127 0 68).toInt = ((V 0 68)).toInt := congrArg Int32.toInt ((ajV127 0 68 rfl).trans ((ajV38 0 68 rfl).trans (ajV31 0 68 rfl)))
                have r133 : 0 ≤ ((V 0 68)).toInt ∧ ((V 0 68)).toInt ≤ 60000 := hMV 0 68
                exact W.iret (v := 0) hx hb hr (fun t ht hW => ⟨⟨0, (V127, L), rfl, ⟨hMV127, agV127, rfl, (by decide), (Imp.mk (fun hp => have hp : p0.toInt = 1 := hp; (show (V127 0 98).toInt = (V 0 98).toInt ∧ ((0 = 0 ∧ (V127 0 69).toInt = (V 0 69).toInt + 1 ∧ (V127 0 68).toInt = (V 0 68).toInt + 1) ∨ (0 = 2 ∧ (V127 0 69).toInt = (V 0 69).toInt ∧ (V127 0 68).toInt = (V 0 68).toInt)) from by first | omega | ((try (have i_hz122 := Imp.go hz122 (by omega))); (try (have i_y4 := Imp.go y4 (by omega))); (try (have i_y3 := Imp.go y3 (by omega))); (try (have i_y2 := Imp.go y2 (by omega))); (try (have i_y1 := Imp.go y1 (by omega))); (try (have i_y1 := Imp.go y1 (by omega))); (try (have i_y2 := Imp.go y2 (by omega))); (try (have i_y3 := Imp.go y3 (by omega))); (try (have i_y4 := Imp.go y4 (by omega))); (try (have i_hz122 := Imp.go hz122 (by omega))); omega)))), (Imp.mk (fun hp => have hp : p0.toInt = 10 := hp; (show 0 = 1 ∧ (V127 0 98).toInt = (V 0 98).toInt from by first | omega | ((try (have i_hz122 := Imp.go hz122 (by omega))); (try (have i_y4 := Imp.go y4 (by omega))); (try (have i_y3 := Imp.go y3 (by omega))); (try (have i_y2 := Imp.go y2 (by omega))); (try (have i_y1 := Imp.go y1 (by omega))); (try (have i_y1 := Imp.go y1 (by omega))); (try (have i_y2 := Imp.go y2 (by omega))); (try (have i_y3 := Imp.go y3 (by omega))); (try (have i_y4 := Imp.go y4 (by omega))); (try (have i_hz122 := Imp.go hz122 (by omega))); omega)))), (Imp.mk (fun hp => have hp : p0.toInt = 2 ∨ p0.toInt = 11 := hp; (show 0 = 0 ∧ (V127 0 98).toInt = (V 0 98).toInt + 1 from by first | omega | ((try (have i_hz122 := Imp.go hz122 (by omega))); (try (have i_y4 := Imp.go y4 (by omega))); (try (have i_y3 := Imp.go y3 (by omega))); (try (have i_y2 := Imp.go y2 (by omega))); (try (have i_y1 := Imp.go y1 (by omega))); (try (have i_y1 := Imp.go y1 (by omega))); (try (have i_y2 := Imp.go y2 (by omega))); (try (have i_y3 := Imp.go y3 (by omega))); (try (have i_y4 := Imp.go y4 (by omega))); (try (have i_hz122 := Imp.go hz122 (by omega))); omega)))), (Imp.mk (fun hp => have hp : p0.toInt = 4 := hp; (show 0 = 0 ∧ (V127 0 98).toInt = (V 0 98).toInt from by first | omega | ((try (have i_hz122 := Imp.go hz122 (by omega))); (try (have i_y4 := Imp.go y4 (by omega))); (try (have i_y3 := Imp.go y3 (by omega))); (try (have i_y2 := Imp.go y2 (by omega))); (try (have i_y1 := Imp.go y1 (by omega))); (try (have i_y1 := Imp.go y1 (by omega))); (try (have i_y2 := Imp.go y2 (by omega))); (try (have i_y3 := Imp.go y3 (by omega))); (try (have i_y4 := Imp.go y4 (by omega))); (try (have i_hz122 := Imp.go hz122 (by omega))); omega)))), (Imp.mk (fun hp => have hp : 5 ≤ p0.toInt ∧ p0.toInt ≤ 9 := hp; (show 0 = 0 ∧ (V127 0 98).toInt = (V 0 98).toInt - 1 from by first | omega | ((try (have i_hz122 := Imp.go hz122 (by omega))); (try (have i_y4 := Imp.go y4 (by omega))); (try (have i_y3 := Imp.go y3 (by omega))); (try (have i_y2 := Imp.go y2 (by omega))); (try (have i_y1 := Imp.go y1 (by omega))); (try (have i_y1 := Imp.go y1 (by omega))); (try (have i_y2 := Imp.go y2 (by omega))); (try (have i_y3 := Imp.go y3 (by omega))); (try (have i_y4 := Imp.go y4 (by omega))); (try (have i_hz122 := Imp.go hz122 (by omega))); omega)))), (Imp.mk (fun hp => have hp : p0.toInt ≠ 1 := hp; (show (V127 0 69).toInt = (V 0 69).toInt ∧ (V127 0 68).toInt = (V 0 68).toInt from by first | omega | ((try (have i_hz122 := Imp.go hz122 (by omega))); (try (have i_y4 := Imp.go y4 (by omega))); (try (have i_y3 := Imp.go y3 (by omega))); (try (have i_y2 := Imp.go y2 (by omega))); (try (have i_y1 := Imp.go y1 (by omega))); (try (have i_y1 := Imp.go y1 (by omega))); (try (have i_y2 := Imp.go y2 (by omega))); (try (have i_y3 := Imp.go y3 (by omega))); (try (have i_y4 := Imp.go y4 (by omega))); (try (have i_hz122 := Imp.go hz122 (by omega))); omega))))⟩, by rw [ht]; exact hP, va_K.moved hW.alike hK, hD⟩, hS.F ht⟩) hS.2.2 dX12_reckons_173
            · skip
              have f134 : p0.toInt = 5 := b_eq rfl (by decide) c41
              refine lv_iload hx hb dX12_reckons_105 (lv_at hl 0 rfl) ?_
              refine lv_iload_n hx hb dX12_reckons_107 rfl (lv_at hl 1 rfl) ?_
              refine lv_imul hx hb dX12_reckons_108 ?_
              have r135 := i_full z34
              have r136 := i_full z27
              refine lv_topi (fun z137 ez137 => ?_)
              refine lv_goto (tgt := 169) hx hb dX12_reckons_109 (by decide) ?_
              refine gA_void (gA_runV (As := [.int z137]) (rest := []) (ci := 12) (q0 := 0) hx hb hml hown hg hP hD hK hS hA hnw hgk (s_push2 l D ks H.size ad kk V38 L z137 hMV38 (show (V38 0 98).toInt ≤ 19999 from by first | omega | ((try (have i_y4 := Imp.go y4 (by omega))); (try (have i_y3 := Imp.go y3 (by omega))); (try (have i_y2 := Imp.go y2 (by omega))); (try (have i_y1 := Imp.go y1 (by omega))); (try (have i_y1 := Imp.go y1 (by omega))); (try (have i_y2 := Imp.go y2 (by omega))); (try (have i_y3 := Imp.go y3 (by omega))); (try (have i_y4 := Imp.go y4 (by omega))); omega))) w2308 w2310 w145 w172 w2311 rfl rfl hdV_yX12_push ⟨Nat.le_of_ble_eq_true rfl, Nat.le_of_ble_eq_true rfl⟩ rfl hl.1 rfl (Nat.le_of_ble_eq_true rfl) dX12_reckons_169 ⟨Nat.le_of_ble_eq_true rfl, Nat.le_of_ble_eq_true rfl⟩) hP hD hK hS hA (fun u139 H locs w140 hP hD hK hS => ?_)
              obtain ⟨V142, L143⟩ := u139
              obtain ⟨hMV142, ajV142, axL143, t141⟩ := w140
              have axL143 : L = L143 := Eq.symm axL143
              subst axL143
              have hP : va_P D vwCl (mw ad kk ks.1 V142 L) H := hP
              have hD : va_D A (mw ad kk ks.1 V142 L) := hD
              have hMV142 : rgd bM V142 := hMV142
              have ajV142 : agr [(0, 98)] [97] V38 V142 := ajV142
              have agV142 : agr [(0, 68), (0, 69), (0, 90), (0, 91), (0, 98)] [97] V V142 := agV38.tr ajV142 (by decide) (by decide)
              have t141 : (V142 0 98).toInt = (V38 0 98).toInt + 1 := t141
              have r144 : 0 ≤ ((V142 0 98)).toInt ∧ ((V142 0 98)).toInt ≤ 20000 := hMV142 0 98
              refine lv_iconst (v := 0) hx hb dX12_reckons_172 (by decide) ?_
              have pq145 : (V142 0 69).toInt = ((V 0 69)).toInt := congrArg Int32.toInt ((ajV142 0 69 rfl).trans ((ajV38 0 69 rfl).trans (ajV31 0 69 rfl)))
              have r146 : 0 ≤ ((V 0 69)).toInt ∧ ((V 0 69)).toInt ≤ 3000 := hMV 0 69
              have pq147 : (V142 0 68).toInt = ((V 0 68)).toInt := congrArg Int32.toInt ((ajV142 0 68 rfl).trans ((ajV38 0 68 rfl).trans (ajV31 0 68 rfl)))
              have r148 : 0 ≤ ((V 0 68)).toInt ∧ ((V 0 68)).toInt ≤ 60000 := hMV 0 68
              exact W.iret (v := 0) hx hb hr (fun t ht hW => ⟨⟨0, (V142, L), rfl, ⟨hMV142, agV142, rfl, (by decide), (Imp.mk (fun hp => have hp : p0.toInt = 1 := hp; (show (V142 0 98).toInt = (V 0 98).toInt ∧ ((0 = 0 ∧ (V142 0 69).toInt = (V 0 69).toInt + 1 ∧ (V142 0 68).toInt = (V 0 68).toInt + 1) ∨ (0 = 2 ∧ (V142 0 69).toInt = (V 0 69).toInt ∧ (V142 0 68).toInt = (V 0 68).toInt)) from by first | omega | ((try (have i_y4 := Imp.go y4 (by omega))); (try (have i_y3 := Imp.go y3 (by omega))); (try (have i_y2 := Imp.go y2 (by omega))); (try (have i_y1 := Imp.go y1 (by omega))); (try (have i_y1 := Imp.go y1 (by omega))); (try (have i_y2 := Imp.go y2 (by omega))); (try (have i_y3 := Imp.go y3 (by omega))); (try (have i_y4 := Imp.go y4 (by omega))); omega)))), (Imp.mk (fun hp => have hp : p0.toInt = 10 := hp; (show 0 = 1 ∧ (V142 0 98).toInt = (V 0 98).toInt from by first | omega | ((try (have i_y4 := Imp.go y4 (by omega))); (try (have i_y3 := Imp.go y3 (by omega))); (try (have i_y2 := Imp.go y2 (by omega))); (try (have i_y1 := Imp.go y1 (by omega))); (try (have i_y1 := Imp.go y1 (by omega))); (try (have i_y2 := Imp.go y2 (by omega))); (try (have i_y3 := Imp.go y3 (by omega))); (try (have i_y4 := Imp.go y4 (by omega))); omega)))), (Imp.mk (fun hp => have hp : p0.toInt = 2 ∨ p0.toInt = 11 := hp; (show 0 = 0 ∧ (V142 0 98).toInt = (V 0 98).toInt + 1 from by first | omega | ((try (have i_y4 := Imp.go y4 (by omega))); (try (have i_y3 := Imp.go y3 (by omega))); (try (have i_y2 := Imp.go y2 (by omega))); (try (have i_y1 := Imp.go y1 (by omega))); (try (have i_y1 := Imp.go y1 (by omega))); (try (have i_y2 := Imp.go y2 (by omega))); (try (have i_y3 := Imp.go y3 (by omega))); (try (have i_y4 := Imp.go y4 (by omega))); omega)))), (Imp.mk (fun hp => have hp : p0.toInt = 4 := hp; (show 0 = 0 ∧ (V142 0 98).toInt = (V 0 98).toInt from by first | omega | ((try (have i_y4 := Imp.go y4 (by omega))); (try (have i_y3 := Imp.go y3 (by omega))); (try (have i_y2 := Imp.go y2 (by omega))); (try (have i_y1 := Imp.go y1 (by omega))); (try (have i_y1 := Imp.go y1 (by omega))); (try (have i_y2 := Imp.go y2 (by omega))); (try (have i_y3 := Imp.go y3 (by omega))); (try (have i_y4 := Imp.go y4 (by omega))); omega)))), (Imp.mk (fun hp => have hp : 5 ≤ p0.toInt ∧ p0.toInt ≤ 9 := hp; (show 0 = 0 ∧ (V142 0 98).toInt = (V 0 98).toInt - 1 from by first | omega | ((try (have i_y4 := Imp.go y4 (by omega))); (try (have i_y3 := Imp.go y3 (by omega))); (try (have i_y2 := Imp.go y2 (by omega))); (try (have i_y1 := Imp.go y1 (by omega))); (try (have i_y1 := Imp.go y1 (by omega))); (try (have i_y2 := Imp.go y2 (by omega))); (try (have i_y3 := Imp.go y3 (by omega))); (try (have i_y4 := Imp.go y4 (by omega))); omega)))), (Imp.mk (fun hp => have hp : p0.toInt ≠ 1 := hp; (show (V142 0 69).toInt = (V 0 69).toInt ∧ (V142 0 68).toInt = (V 0 68).toInt from by first | omega | ((try (have i_y4 := Imp.go y4 (by omega))); (try (have i_y3 := Imp.go y3 (by omega))); (try (have i_y2 := Imp.go y2 (by omega))); (try (have i_y1 := Imp.go y1 (by omega))); (try (have i_y1 := Imp.go y1 (by omega))); (try (have i_y2 := Imp.go y2 (by omega))); (try (have i_y3 := Imp.go y3 (by omega))); (try (have i_y4 := Imp.go y4 (by omega))); omega))))⟩, by rw [ht]; exact hP, va_K.moved hW.alike hK, hD⟩, hS.F ht⟩) hS.2.2 dX12_reckons_173
          · skip
            have f149 : p0.toInt = 4 := b_eq rfl (by decide) c25
            refine lv_aload_n hx hb dX12_reckons_76 rfl (lv_at hl 0 rfl) ?_
            refine lv_aload_n hx hb dX12_reckons_77 rfl (lv_at hl 0 rfl) ?_
            refine gA_int (gA_runV (As := []) (rest := [.ref (ad 0)]) (ci := 12) (q0 := 0) hx hb hml hown hg hP hD hK hS hA hnw hgk (s_pop2 l D ks H.size ad kk V L  hMV (show 1 ≤ (V 0 98).toInt from by first | omega | ((try (have i_y4 := Imp.go y4 (by omega))); (try (have i_y3 := Imp.go y3 (by omega))); (try (have i_y2 := Imp.go y2 (by omega))); (try (have i_y1 := Imp.go y1 (by omega))); (try (have i_y1 := Imp.go y1 (by omega))); (try (have i_y2 := Imp.go y2 (by omega))); (try (have i_y3 := Imp.go y3 (by omega))); (try (have i_y4 := Imp.go y4 (by omega))); omega))) w2280 w2282 w138 w172 w2283 rfl rfl hdV_yX12_pop ⟨Nat.le_of_ble_eq_true rfl, Nat.le_of_ble_eq_true rfl⟩ rfl hl.1 rfl (Nat.le_of_ble_eq_true rfl) dX12_reckons_78 ⟨Nat.le_of_ble_eq_true rfl, Nat.le_of_ble_eq_true rfl⟩) hP hD hK hS hA (fun z150 u151 H locs w152 hP hD hK hS => ?_)
            obtain ⟨V154, L155⟩ := u151
            obtain ⟨hMV154, ajV154, axL155, t153⟩ := w152
            have axL155 : L = L155 := Eq.symm axL155
            subst axL155
            have hP : va_P D vwCl (mw ad kk ks.1 V154 L) H := hP
            have hD : va_D A (mw ad kk ks.1 V154 L) := hD
            have hMV154 : rgd bM V154 := hMV154
            have ajV154 : agr [(0, 98)] [] V V154 := ajV154
            have agV154 : agr [(0, 68), (0, 69), (0, 90), (0, 91), (0, 98)] [97] V V154 := agV.tr ajV154 (by decide) (by decide)
            have t153 : (V154 0 98).toInt = (V 0 98).toInt - 1 := t153
            have r156 : 0 ≤ ((V154 0 98)).toInt ∧ ((V154 0 98)).toInt ≤ 20000 := hMV154 0 98
            refine lv_ineg hx hb dX12_reckons_81 ?_
            refine lv_topi (fun z157 ez157 => ?_)
            refine gA_void (gA_runV (As := [.int z157]) (rest := []) (ci := 12) (q0 := 0) hx hb hml hown hg hP hD hK hS hA hnw hgk (s_push2 l D ks H.size ad kk V154 L z157 hMV154 (show (V154 0 98).toInt ≤ 19999 from by first | omega | ((try (have i_y4 := Imp.go y4 (by omega))); (try (have i_y3 := Imp.go y3 (by omega))); (try (have i_y2 := Imp.go y2 (by omega))); (try (have i_y1 := Imp.go y1 (by omega))); (try (have i_y1 := Imp.go y1 (by omega))); (try (have i_y2 := Imp.go y2 (by omega))); (try (have i_y3 := Imp.go y3 (by omega))); (try (have i_y4 := Imp.go y4 (by omega))); omega))) w2308 w2310 w145 w172 w2311 rfl rfl hdV_yX12_push ⟨Nat.le_of_ble_eq_true rfl, Nat.le_of_ble_eq_true rfl⟩ rfl hl.1 rfl (Nat.le_of_ble_eq_true rfl) dX12_reckons_82 ⟨Nat.le_of_ble_eq_true rfl, Nat.le_of_ble_eq_true rfl⟩) hP hD hK hS hA (fun u159 H locs w160 hP hD hK hS => ?_)
            obtain ⟨V162, L163⟩ := u159
            obtain ⟨hMV162, ajV162, axL163, t161⟩ := w160
            have axL163 : L = L163 := Eq.symm axL163
            subst axL163
            have hP : va_P D vwCl (mw ad kk ks.1 V162 L) H := hP
            have hD : va_D A (mw ad kk ks.1 V162 L) := hD
            have hMV162 : rgd bM V162 := hMV162
            have ajV162 : agr [(0, 98)] [97] V154 V162 := ajV162
            have agV162 : agr [(0, 68), (0, 69), (0, 90), (0, 91), (0, 98)] [97] V V162 := agV154.tr ajV162 (by decide) (by decide)
            have t161 : (V162 0 98).toInt = (V154 0 98).toInt + 1 := t161
            have r164 : 0 ≤ ((V162 0 98)).toInt ∧ ((V162 0 98)).toInt ≤ 20000 := hMV162 0 98
            refine lv_goto (tgt := 172) hx hb dX12_reckons_85 (by decide) ?_
            refine lv_iconst (v := 0) hx hb dX12_reckons_172 (by decide) ?_
            have pq165 : (V162 0 69).toInt = ((V 0 69)).toInt := congrArg Int32.toInt ((ajV162 0 69 rfl).trans (ajV154 0 69 rfl))
            have r166 : 0 ≤ ((V 0 69)).toInt ∧ ((V 0 69)).toInt ≤ 3000 := hMV 0 69
            have pq167 : (V162 0 68).toInt = ((V 0 68)).toInt := congrArg Int32.toInt ((ajV162 0 68 rfl).trans (ajV154 0 68 rfl))
            have r168 : 0 ≤ ((V 0 68)).toInt ∧ ((V 0 68)).toInt ≤ 60000 := hMV 0 68
            exact W.iret (v := 0) hx hb hr (fun t ht hW => ⟨⟨0, (V162, L), rfl, ⟨hMV162, agV162, rfl, (by decide), (Imp.mk (fun hp => have hp : p0.toInt = 1 := hp; (show (V162 0 98).toInt = (V 0 98).toInt ∧ ((0 = 0 ∧ (V162 0 69).toInt = (V 0 69).toInt + 1 ∧ (V162 0 68).toInt = (V 0 68).toInt + 1) ∨ (0 = 2 ∧ (V162 0 69).toInt = (V 0 69).toInt ∧ (V162 0 68).toInt = (V 0 68).toInt)) from by first | omega | ((try (have i_y4 := Imp.go y4 (by omega))); (try (have i_y3 := Imp.go y3 (by omega))); (try (have i_y2 := Imp.go y2 (by omega))); (try (have i_y1 := Imp.go y1 (by omega))); (try (have i_y1 := Imp.go y1 (by omega))); (try (have i_y2 := Imp.go y2 (by omega))); (try (have i_y3 := Imp.go y3 (by omega))); (try (have i_y4 := Imp.go y4 (by omega))); omega)))), (Imp.mk (fun hp => have hp : p0.toInt = 10 := hp; (show 0 = 1 ∧ (V162 0 98).toInt = (V 0 98).toInt from by first | omega | ((try (have i_y4 := Imp.go y4 (by omega))); (try (have i_y3 := Imp.go y3 (by omega))); (try (have i_y2 := Imp.go y2 (by omega))); (try (have i_y1 := Imp.go y1 (by omega))); (try (have i_y1 := Imp.go y1 (by omega))); (try (have i_y2 := Imp.go y2 (by omega))); (try (have i_y3 := Imp.go y3 (by omega))); (try (have i_y4 := Imp.go y4 (by omega))); omega)))), (Imp.mk (fun hp => have hp : p0.toInt = 2 ∨ p0.toInt = 11 := hp; (show 0 = 0 ∧ (V162 0 98).toInt = (V 0 98).toInt + 1 from by first | omega | ((try (have i_y4 := Imp.go y4 (by omega))); (try (have i_y3 := Imp.go y3 (by omega))); (try (have i_y2 := Imp.go y2 (by omega))); (try (have i_y1 := Imp.go y1 (by omega))); (try (have i_y1 := Imp.go y1 (by omega))); (try (have i_y2 := Imp.go y2 (by omega))); (try (have i_y3 := Imp.go y3 (by omega))); (try (have i_y4 := Imp.go y4 (by omega))); omega)))), (Imp.mk (fun hp => have hp : p0.toInt = 4 := hp; (show 0 = 0 ∧ (V162 0 98).toInt = (V 0 98).toInt from by first | omega | ((try (have i_y4 := Imp.go y4 (by omega))); (try (have i_y3 := Imp.go y3 (by omega))); (try (have i_y2 := Imp.go y2 (by omega))); (try (have i_y1 := Imp.go y1 (by omega))); (try (have i_y1 := Imp.go y1 (by omega))); (try (have i_y2 := Imp.go y2 (by omega))); (try (have i_y3 := Imp.go y3 (by omega))); (try (have i_y4 := Imp.go y4 (by omega))); omega)))), (Imp.mk (fun hp => have hp : 5 ≤ p0.toInt ∧ p0.toInt ≤ 9 := hp; (show 0 = 0 ∧ (V162 0 98).toInt = (V 0 98).toInt - 1 from by first | omega | ((try (have i_y4 := Imp.go y4 (by omega))); (try (have i_y3 := Imp.go y3 (by omega))); (try (have i_y2 := Imp.go y2 (by omega))); (try (have i_y1 := Imp.go y1 (by omega))); (try (have i_y1 := Imp.go y1 (by omega))); (try (have i_y2 := Imp.go y2 (by omega))); (try (have i_y3 := Imp.go y3 (by omega))); (try (have i_y4 := Imp.go y4 (by omega))); omega)))), (Imp.mk (fun hp => have hp : p0.toInt ≠ 1 := hp; (show (V162 0 69).toInt = (V 0 69).toInt ∧ (V162 0 68).toInt = (V 0 68).toInt from by first | omega | ((try (have i_y4 := Imp.go y4 (by omega))); (try (have i_y3 := Imp.go y3 (by omega))); (try (have i_y2 := Imp.go y2 (by omega))); (try (have i_y1 := Imp.go y1 (by omega))); (try (have i_y1 := Imp.go y1 (by omega))); (try (have i_y2 := Imp.go y2 (by omega))); (try (have i_y3 := Imp.go y3 (by omega))); (try (have i_y4 := Imp.go y4 (by omega))); omega))))⟩, by rw [ht]; exact hP, va_K.moved hW.alike hK, hD⟩, hS.F ht⟩) hS.2.2 dX12_reckons_173
        · skip
          have f169 : p0.toInt = 11 := b_eq rfl (by decide) c23
          refine lv_aload_n hx hb dX12_reckons_41 rfl (lv_at hl 0 rfl) ?_
          refine lv_iload_n hx hb dX12_reckons_42 rfl (lv_at hl 1 rfl) ?_
          refine lv_iconst (v := 2) hx hb dX12_reckons_43 (by decide) ?_
          refine lv_icmp_ne (tgt := 51) hx hb dX12_reckons_44 (by decide) (fun c170 => ?_) (fun c170 => ?_)
          · skip
            have f171 : p0.toInt ≠ 2 := b_neq rfl (by decide) c170
            refine lv_aload_n hx hb dX12_reckons_51 rfl (lv_at hl 0 rfl) ?_
            refine va_get (D := D) (ci := 12) (v := .ref (ad 18)) (C := RX12) (T := TX12) (N := 100) hx hb hg inX12 hown hK hP 0 rfl rfl 18 (by decide) (hg _ w1728) (fun _ h9 => h9) rfl dX12_reckons_52 ?_
            refine lv_bipush (v := 12) hx hb dX12_reckons_55 (by decide) ?_
            refine lv_aload_n hx hb dX12_reckons_57 rfl (lv_at hl 0 rfl) ?_
            refine va_get (D := D) (ci := 12) (v := .int (V 0 11)) (C := RX12) (T := TX12) (N := 100) hx hb hg inX12 hown hK hP 0 rfl rfl 11 (by decide) (hg _ w1721) (fun _ h9 => h9) rfl dX12_reckons_58 ?_
            have r172 : 0 ≤ ((V 0 11)).toInt ∧ ((V 0 11)).toInt ≤ 1 := hMV 0 11
            refine lv_imul hx hb dX12_reckons_61 ?_
            refine lv_topi (fun z173 ez173 => ?_)
            have hz173 : z173.toInt = 12 * ((V 0 11)).toInt := i_mul ez173 (by decide) rfl (by omega)
            refine lv_iload_n hx hb dX12_reckons_62 rfl (lv_at hl 2 rfl) ?_
            refine lv_iadd hx hb dX12_reckons_63 ?_
            have r174 := i_full p1
            refine lv_topi (fun z175 ez175 => ?_)
            have hz175 : Imp (-2147483648 ≤ z173.toInt + p1.toInt ∧ z173.toInt + p1.toInt ≤ 2147483647) (z175.toInt = z173.toInt + p1.toInt) := Imp.mk (fun hp => i_add ez175 rfl rfl hp)
            refine va_iald (D := D) (i := z175) hx hb hK hP 11 10 rfl rfl (i_in (a := z175.toInt) rfl (by first | omega | ((try (have i_hz175 := Imp.go hz175 (by omega))); (try (have i_y4 := Imp.go y4 (by omega))); (try (have i_y3 := Imp.go y3 (by omega))); (try (have i_y2 := Imp.go y2 (by omega))); (try (have i_y1 := Imp.go y1 (by omega))); (try (have i_y1 := Imp.go y1 (by omega))); (try (have i_y2 := Imp.go y2 (by omega))); (try (have i_y3 := Imp.go y3 (by omega))); (try (have i_y4 := Imp.go y4 (by omega))); (try (have i_hz175 := Imp.go hz175 (by omega))); omega))) dX12_reckons_64 ?_
            refine gA_void (gA_runV (As := [.int (V 18 (Int32.toNatClampNeg z175))]) (rest := []) (ci := 12) (q0 := 0) hx hb hml hown hg hP hD hK hS hA hnw hgk (s_push2 l D ks H.size ad kk V L (V 18 (Int32.toNatClampNeg z175)) hMV (show (V 0 98).toInt ≤ 19999 from by first | omega | ((try (have i_hz175 := Imp.go hz175 (by omega))); (try (have i_y4 := Imp.go y4 (by omega))); (try (have i_y3 := Imp.go y3 (by omega))); (try (have i_y2 := Imp.go y2 (by omega))); (try (have i_y1 := Imp.go y1 (by omega))); (try (have i_y1 := Imp.go y1 (by omega))); (try (have i_y2 := Imp.go y2 (by omega))); (try (have i_y3 := Imp.go y3 (by omega))); (try (have i_y4 := Imp.go y4 (by omega))); (try (have i_hz175 := Imp.go hz175 (by omega))); omega))) w2308 w2310 w145 w172 w2311 rfl rfl hdV_yX12_push ⟨Nat.le_of_ble_eq_true rfl, Nat.le_of_ble_eq_true rfl⟩ rfl hl.1 rfl (Nat.le_of_ble_eq_true rfl) dX12_reckons_65 ⟨Nat.le_of_ble_eq_true rfl, Nat.le_of_ble_eq_true rfl⟩) hP hD hK hS hA (fun u177 H locs w178 hP hD hK hS => ?_)
            obtain ⟨V180, L181⟩ := u177
            obtain ⟨hMV180, ajV180, axL181, t179⟩ := w178
            have axL181 : L = L181 := Eq.symm axL181
            subst axL181
            have hP : va_P D vwCl (mw ad kk ks.1 V180 L) H := hP
            have hD : va_D A (mw ad kk ks.1 V180 L) := hD
            have hMV180 : rgd bM V180 := hMV180
            have ajV180 : agr [(0, 98)] [97] V V180 := ajV180
            have agV180 : agr [(0, 68), (0, 69), (0, 90), (0, 91), (0, 98)] [97] V V180 := agV.tr ajV180 (by decide) (by decide)
            have t179 : (V180 0 98).toInt = (V 0 98).toInt + 1 := t179
            have r182 : 0 ≤ ((V180 0 98)).toInt ∧ ((V180 0 98)).toInt ≤ 20000 := hMV180 0 98
            refine lv_goto (tgt := 172) hx hb dX12_reckons_68 (by decide) ?_
            refine lv_iconst (v := 0) hx hb dX12_reckons_172 (by decide) ?_
            have pq183 : (V180 0 69).toInt = ((V 0 69)).toInt := congrArg Int32.toInt (ajV180 0 69 rfl)
            have r184 : 0 ≤ ((V 0 69)).toInt ∧ ((V 0 69)).toInt ≤ 3000 := hMV 0 69
            have pq185 : (V180 0 68).toInt = ((V 0 68)).toInt := congrArg Int32.toInt (ajV180 0 68 rfl)
            have r186 : 0 ≤ ((V 0 68)).toInt ∧ ((V 0 68)).toInt ≤ 60000 := hMV 0 68
            exact W.iret (v := 0) hx hb hr (fun t ht hW => ⟨⟨0, (V180, L), rfl, ⟨hMV180, agV180, rfl, (by decide), (Imp.mk (fun hp => have hp : p0.toInt = 1 := hp; (show (V180 0 98).toInt = (V 0 98).toInt ∧ ((0 = 0 ∧ (V180 0 69).toInt = (V 0 69).toInt + 1 ∧ (V180 0 68).toInt = (V 0 68).toInt + 1) ∨ (0 = 2 ∧ (V180 0 69).toInt = (V 0 69).toInt ∧ (V180 0 68).toInt = (V 0 68).toInt)) from by first | omega | ((try (have i_hz175 := Imp.go hz175 (by omega))); (try (have i_y4 := Imp.go y4 (by omega))); (try (have i_y3 := Imp.go y3 (by omega))); (try (have i_y2 := Imp.go y2 (by omega))); (try (have i_y1 := Imp.go y1 (by omega))); (try (have i_y1 := Imp.go y1 (by omega))); (try (have i_y2 := Imp.go y2 (by omega))); (try (have i_y3 := Imp.go y3 (by omega))); (try (have i_y4 := Imp.go y4 (by omega))); (try (have i_hz175 := Imp.go hz175 (by omega))); omega)))), (Imp.mk (fun hp => have hp : p0.toInt = 10 := hp; (show 0 = 1 ∧ (V180 0 98).toInt = (V 0 98).toInt from by first | omega | ((try (have i_hz175 := Imp.go hz175 (by omega))); (try (have i_y4 := Imp.go y4 (by omega))); (try (have i_y3 := Imp.go y3 (by omega))); (try (have i_y2 := Imp.go y2 (by omega))); (try (have i_y1 := Imp.go y1 (by omega))); (try (have i_y1 := Imp.go y1 (by omega))); (try (have i_y2 := Imp.go y2 (by omega))); (try (have i_y3 := Imp.go y3 (by omega))); (try (have i_y4 := Imp.go y4 (by omega))); (try (have i_hz175 := Imp.go hz175 (by omega))); omega)))), (Imp.mk (fun hp => have hp : p0.toInt = 2 ∨ p0.toInt = 11 := hp; (show 0 = 0 ∧ (V180 0 98).toInt = (V 0 98).toInt + 1 from by first | omega | ((try (have i_hz175 := Imp.go hz175 (by omega))); (try (have i_y4 := Imp.go y4 (by omega))); (try (have i_y3 := Imp.go y3 (by omega))); (try (have i_y2 := Imp.go y2 (by omega))); (try (have i_y1 := Imp.go y1 (by omega))); (try (have i_y1 := Imp.go y1 (by omega))); (try (have i_y2 := Imp.go y2 (by omega))); (try (have i_y3 := Imp.go y3 (by omega))); (try (have i_y4 := Imp.go y4 (by omega))); (try (have i_hz175 := Imp.go hz175 (by omega))); omega)))), (Imp.mk (fun hp => have hp : p0.toInt = 4 := hp; (show 0 = 0 ∧ (V180 0 98).toInt = (V 0 98).toInt from by first | omega | ((try (have i_hz175 := Imp.go hz175 (by omega))); (try (have i_y4 := Imp.go y4 (by omega))); (try (have i_y3 := Imp.go y3 (by omega))); (try (have i_y2 := Imp.go y2 (by omega))); (try (have i_y1 := Imp.go y1 (by omega))); (try (have i_y1 := Imp.go y1 (by omega))); (try (have i_y2 := Imp.go y2 (by omega))); (try (have i_y3 := Imp.go y3 (by omega))); (try (have i_y4 := Imp.go y4 (by omega))); (try (have i_hz175 := Imp.go hz175 (by omega))); omega)))), (Imp.mk (fun hp => have hp : 5 ≤ p0.toInt ∧ p0.toInt ≤ 9 := hp; (show 0 = 0 ∧ (V180 0 98).toInt = (V 0 98).toInt - 1 from by first | omega | ((try (have i_hz175 := Imp.go hz175 (by omega))); (try (have i_y4 := Imp.go y4 (by omega))); (try (have i_y3 := Imp.go y3 (by omega))); (try (have i_y2 := Imp.go y2 (by omega))); (try (have i_y1 := Imp.go y1 (by omega))); (try (have i_y1 := Imp.go y1 (by omega))); (try (have i_y2 := Imp.go y2 (by omega))); (try (have i_y3 := Imp.go y3 (by omega))); (try (have i_y4 := Imp.go y4 (by omega))); (try (have i_hz175 := Imp.go hz175 (by omega))); omega)))), (Imp.mk (fun hp => have hp : p0.toInt ≠ 1 := hp; (show (V180 0 69).toInt = (V 0 69).toInt ∧ (V180 0 68).toInt = (V 0 68).toInt from by first | omega | ((try (have i_hz175 := Imp.go hz175 (by omega))); (try (have i_y4 := Imp.go y4 (by omega))); (try (have i_y3 := Imp.go y3 (by omega))); (try (have i_y2 := Imp.go y2 (by omega))); (try (have i_y1 := Imp.go y1 (by omega))); (try (have i_y1 := Imp.go y1 (by omega))); (try (have i_y2 := Imp.go y2 (by omega))); (try (have i_y3 := Imp.go y3 (by omega))); (try (have i_y4 := Imp.go y4 (by omega))); (try (have i_hz175 := Imp.go hz175 (by omega))); omega))))⟩, by rw [ht]; exact hP, va_K.moved hW.alike hK, hD⟩, hS.F ht⟩) hS.2.2 dX12_reckons_173
          · skip
            have f187 : p0.toInt = 2 := b_eq rfl (by decide) c170
            exfalso; first | omega | ((try (have i_y4 := Imp.go y4 (by omega))); (try (have i_y3 := Imp.go y3 (by omega))); (try (have i_y2 := Imp.go y2 (by omega))); (try (have i_y1 := Imp.go y1 (by omega))); (try (have i_y1 := Imp.go y1 (by omega))); (try (have i_y2 := Imp.go y2 (by omega))); (try (have i_y3 := Imp.go y3 (by omega))); (try (have i_y4 := Imp.go y4 (by omega))); omega)
    · skip
      have f188 : p0.toInt = 10 := b_eq rfl (by decide) c4
      refine lv_aload_n hx hb dX12_reckons_24 rfl (lv_at hl 0 rfl) ?_
      refine lv_iload_n hx hb dX12_reckons_25 rfl (lv_at hl 2 rfl) ?_
      refine gA_int (gA_runV (As := [.int p1]) (rest := []) (ci := 12) (q0 := 0) hx hb hml hown hg hP hD hK hS hA hnw hgk (s_fails2 l D ks H.size ad kk V L p1 hMV ) w2251 w2253 w131 w172 w2254 rfl rfl hdV_yX12_fails ⟨Nat.le_of_ble_eq_true rfl, Nat.le_of_ble_eq_true rfl⟩ rfl hl.1 rfl (Nat.le_of_ble_eq_true rfl) dX12_reckons_26 ⟨Nat.le_of_ble_eq_true rfl, Nat.le_of_ble_eq_true rfl⟩) hP hD hK hS hA (fun z189 u190 H locs w191 hP hD hK hS => ?_)
      obtain ⟨V192, L193⟩ := u190
      obtain ⟨hMV192, ajV192, axL193, rgz189⟩ := w191
      have axL193 : L = L193 := Eq.symm axL193
      subst axL193
      have hP : va_P D vwCl (mw ad kk ks.1 V192 L) H := hP
      have hD : va_D A (mw ad kk ks.1 V192 L) := hD
      have hMV192 : rgd bM V192 := hMV192
      have ajV192 : agr [(0, 90), (0, 91)] [] V V192 := ajV192
      have agV192 : agr [(0, 68), (0, 69), (0, 90), (0, 91), (0, 98)] [97] V V192 := agV.tr ajV192 (by decide) (by decide)
      have rgz189 : 1 ≤ z189.toInt ∧ z189.toInt ≤ 1 := rgz189
      have pq194 : (V192 0 69).toInt = ((V 0 69)).toInt := congrArg Int32.toInt (ajV192 0 69 rfl)
      have r195 : 0 ≤ ((V 0 69)).toInt ∧ ((V 0 69)).toInt ≤ 3000 := hMV 0 69
      have pq196 : (V192 0 68).toInt = ((V 0 68)).toInt := congrArg Int32.toInt (ajV192 0 68 rfl)
      have r197 : 0 ≤ ((V 0 68)).toInt ∧ ((V 0 68)).toInt ≤ 60000 := hMV 0 68
      have pq198 : (V192 0 98).toInt = ((V 0 98)).toInt := congrArg Int32.toInt (ajV192 0 98 rfl)
      exact W.iret (v := z189) hx hb hr (fun t ht hW => ⟨⟨z189, (V192, L), rfl, ⟨hMV192, agV192, rfl, (show 0 ≤ z189.toInt ∧ z189.toInt ≤ 2 from by first | omega | ((try (have i_y4 := Imp.go y4 (by omega))); (try (have i_y3 := Imp.go y3 (by omega))); (try (have i_y2 := Imp.go y2 (by omega))); (try (have i_y1 := Imp.go y1 (by omega))); (try (have i_y1 := Imp.go y1 (by omega))); (try (have i_y2 := Imp.go y2 (by omega))); (try (have i_y3 := Imp.go y3 (by omega))); (try (have i_y4 := Imp.go y4 (by omega))); omega)), (Imp.mk (fun hp => have hp : p0.toInt = 1 := hp; (show (V192 0 98).toInt = (V 0 98).toInt ∧ ((z189.toInt = 0 ∧ (V192 0 69).toInt = (V 0 69).toInt + 1 ∧ (V192 0 68).toInt = (V 0 68).toInt + 1) ∨ (z189.toInt = 2 ∧ (V192 0 69).toInt = (V 0 69).toInt ∧ (V192 0 68).toInt = (V 0 68).toInt)) from by first | omega | ((try (have i_y4 := Imp.go y4 (by omega))); (try (have i_y3 := Imp.go y3 (by omega))); (try (have i_y2 := Imp.go y2 (by omega))); (try (have i_y1 := Imp.go y1 (by omega))); (try (have i_y1 := Imp.go y1 (by omega))); (try (have i_y2 := Imp.go y2 (by omega))); (try (have i_y3 := Imp.go y3 (by omega))); (try (have i_y4 := Imp.go y4 (by omega))); omega)))), (Imp.mk (fun hp => have hp : p0.toInt = 10 := hp; (show z189.toInt = 1 ∧ (V192 0 98).toInt = (V 0 98).toInt from by first | omega | ((try (have i_y4 := Imp.go y4 (by omega))); (try (have i_y3 := Imp.go y3 (by omega))); (try (have i_y2 := Imp.go y2 (by omega))); (try (have i_y1 := Imp.go y1 (by omega))); (try (have i_y1 := Imp.go y1 (by omega))); (try (have i_y2 := Imp.go y2 (by omega))); (try (have i_y3 := Imp.go y3 (by omega))); (try (have i_y4 := Imp.go y4 (by omega))); omega)))), (Imp.mk (fun hp => have hp : p0.toInt = 2 ∨ p0.toInt = 11 := hp; (show z189.toInt = 0 ∧ (V192 0 98).toInt = (V 0 98).toInt + 1 from by first | omega | ((try (have i_y4 := Imp.go y4 (by omega))); (try (have i_y3 := Imp.go y3 (by omega))); (try (have i_y2 := Imp.go y2 (by omega))); (try (have i_y1 := Imp.go y1 (by omega))); (try (have i_y1 := Imp.go y1 (by omega))); (try (have i_y2 := Imp.go y2 (by omega))); (try (have i_y3 := Imp.go y3 (by omega))); (try (have i_y4 := Imp.go y4 (by omega))); omega)))), (Imp.mk (fun hp => have hp : p0.toInt = 4 := hp; (show z189.toInt = 0 ∧ (V192 0 98).toInt = (V 0 98).toInt from by first | omega | ((try (have i_y4 := Imp.go y4 (by omega))); (try (have i_y3 := Imp.go y3 (by omega))); (try (have i_y2 := Imp.go y2 (by omega))); (try (have i_y1 := Imp.go y1 (by omega))); (try (have i_y1 := Imp.go y1 (by omega))); (try (have i_y2 := Imp.go y2 (by omega))); (try (have i_y3 := Imp.go y3 (by omega))); (try (have i_y4 := Imp.go y4 (by omega))); omega)))), (Imp.mk (fun hp => have hp : 5 ≤ p0.toInt ∧ p0.toInt ≤ 9 := hp; (show z189.toInt = 0 ∧ (V192 0 98).toInt = (V 0 98).toInt - 1 from by first | omega | ((try (have i_y4 := Imp.go y4 (by omega))); (try (have i_y3 := Imp.go y3 (by omega))); (try (have i_y2 := Imp.go y2 (by omega))); (try (have i_y1 := Imp.go y1 (by omega))); (try (have i_y1 := Imp.go y1 (by omega))); (try (have i_y2 := Imp.go y2 (by omega))); (try (have i_y3 := Imp.go y3 (by omega))); (try (have i_y4 := Imp.go y4 (by omega))); omega)))), (Imp.mk (fun hp => have hp : p0.toInt ≠ 1 := hp; (show (V192 0 69).toInt = (V 0 69).toInt ∧ (V192 0 68).toInt = (V 0 68).toInt from by first | omega | ((try (have i_y4 := Imp.go y4 (by omega))); (try (have i_y3 := Imp.go y3 (by omega))); (try (have i_y2 := Imp.go y2 (by omega))); (try (have i_y1 := Imp.go y1 (by omega))); (try (have i_y1 := Imp.go y1 (by omega))); (try (have i_y2 := Imp.go y2 (by omega))); (try (have i_y3 := Imp.go y3 (by omega))); (try (have i_y4 := Imp.go y4 (by omega))); omega))))⟩, by rw [ht]; exact hP, va_K.moved hW.alike hK, hD⟩, hS.F ht⟩) hS.2.2 dX12_reckons_29
  · skip
    have f199 : p0.toInt = 1 := b_eq rfl (by decide) c2
    refine lv_aload_n hx hb dX12_reckons_5 rfl (lv_at hl 0 rfl) ?_
    refine gA_int (gA_runV (As := []) (rest := []) (ci := 12) (q0 := 0) hx hb hml hown hg hP hD hK hS hA hnw hgk (s_step2 l D ks H.size ad kk V L  hMV ) w2263 w2265 w134 w172 w2266 rfl rfl hdV_yX12_step ⟨Nat.le_of_ble_eq_true rfl, Nat.le_of_ble_eq_true rfl⟩ rfl hl.1 rfl (Nat.le_of_ble_eq_true rfl) dX12_reckons_6 ⟨Nat.le_of_ble_eq_true rfl, Nat.le_of_ble_eq_true rfl⟩) hP hD hK hS hA (fun z200 u201 H locs w202 hP hD hK hS => ?_)
    obtain ⟨V205, L206⟩ := u201
    obtain ⟨hMV205, ajV205, axL206, rgz200, t203, t204⟩ := w202
    have axL206 : L = L206 := Eq.symm axL206
    subst axL206
    have hP : va_P D vwCl (mw ad kk ks.1 V205 L) H := hP
    have hD : va_D A (mw ad kk ks.1 V205 L) := hD
    have hMV205 : rgd bM V205 := hMV205
    have ajV205 : agr [(0, 68), (0, 69)] [] V V205 := ajV205
    have agV205 : agr [(0, 68), (0, 69), (0, 90), (0, 91), (0, 98)] [97] V V205 := agV.tr ajV205 (by decide) (by decide)
    have rgz200 : 0 ≤ z200.toInt ∧ z200.toInt ≤ 1 := rgz200
    have t203 : Imp (z200.toInt = 1) ((V205 0 69).toInt = (V 0 69).toInt + 1 ∧ (V205 0 68).toInt = (V 0 68).toInt + 1) := t203
    have t204 : Imp (z200.toInt = 0) ((V205 0 69).toInt = (V 0 69).toInt ∧ (V205 0 68).toInt = (V 0 68).toInt) := t204
    have r207 : 0 ≤ ((V 0 69)).toInt ∧ ((V 0 69)).toInt ≤ 3000 := hMV 0 69
    have r208 : 0 ≤ ((V 0 68)).toInt ∧ ((V 0 68)).toInt ≤ 60000 := hMV 0 68
    have r209 : 0 ≤ ((V205 0 69)).toInt ∧ ((V205 0 69)).toInt ≤ 3000 := hMV205 0 69
    have r210 : 0 ≤ ((V205 0 68)).toInt ∧ ((V205 0 68)).toInt ≤ 60000 := hMV205 0 68
    refine lv_if_eq (tgt := 16) hx hb dX12_reckons_9 (by decide) (fun c211 => ?_) (fun c211 => ?_)
    · skip
      have f212 : z200.toInt = 0 := b_eq rfl (by decide) c211
      refine lv_iconst (v := 2) hx hb dX12_reckons_16 (by decide) ?_
      have pq213 : (V205 0 98).toInt = ((V 0 98)).toInt := congrArg Int32.toInt (ajV205 0 98 rfl)
      exact W.iret (v := 2) hx hb hr (fun t ht hW => ⟨⟨2, (V205, L), rfl, ⟨hMV205, agV205, rfl, (by decide), (Imp.mk (fun hp => have hp : p0.toInt = 1 := hp; (show (V205 0 98).toInt = (V 0 98).toInt ∧ ((2 = 0 ∧ (V205 0 69).toInt = (V 0 69).toInt + 1 ∧ (V205 0 68).toInt = (V 0 68).toInt + 1) ∨ (2 = 2 ∧ (V205 0 69).toInt = (V 0 69).toInt ∧ (V205 0 68).toInt = (V 0 68).toInt)) from by first | omega | ((try (have i_t204 := Imp.go t204 (by omega))); (try (have i_t203 := Imp.go t203 (by omega))); (try (have i_y4 := Imp.go y4 (by omega))); (try (have i_y3 := Imp.go y3 (by omega))); (try (have i_y2 := Imp.go y2 (by omega))); (try (have i_y1 := Imp.go y1 (by omega))); (try (have i_y1 := Imp.go y1 (by omega))); (try (have i_y2 := Imp.go y2 (by omega))); (try (have i_y3 := Imp.go y3 (by omega))); (try (have i_y4 := Imp.go y4 (by omega))); (try (have i_t203 := Imp.go t203 (by omega))); (try (have i_t204 := Imp.go t204 (by omega))); omega)))), (Imp.mk (fun hp => have hp : p0.toInt = 10 := hp; (show 2 = 1 ∧ (V205 0 98).toInt = (V 0 98).toInt from by first | omega | ((try (have i_t204 := Imp.go t204 (by omega))); (try (have i_t203 := Imp.go t203 (by omega))); (try (have i_y4 := Imp.go y4 (by omega))); (try (have i_y3 := Imp.go y3 (by omega))); (try (have i_y2 := Imp.go y2 (by omega))); (try (have i_y1 := Imp.go y1 (by omega))); (try (have i_y1 := Imp.go y1 (by omega))); (try (have i_y2 := Imp.go y2 (by omega))); (try (have i_y3 := Imp.go y3 (by omega))); (try (have i_y4 := Imp.go y4 (by omega))); (try (have i_t203 := Imp.go t203 (by omega))); (try (have i_t204 := Imp.go t204 (by omega))); omega)))), (Imp.mk (fun hp => have hp : p0.toInt = 2 ∨ p0.toInt = 11 := hp; (show 2 = 0 ∧ (V205 0 98).toInt = (V 0 98).toInt + 1 from by first | omega | ((try (have i_t204 := Imp.go t204 (by omega))); (try (have i_t203 := Imp.go t203 (by omega))); (try (have i_y4 := Imp.go y4 (by omega))); (try (have i_y3 := Imp.go y3 (by omega))); (try (have i_y2 := Imp.go y2 (by omega))); (try (have i_y1 := Imp.go y1 (by omega))); (try (have i_y1 := Imp.go y1 (by omega))); (try (have i_y2 := Imp.go y2 (by omega))); (try (have i_y3 := Imp.go y3 (by omega))); (try (have i_y4 := Imp.go y4 (by omega))); (try (have i_t203 := Imp.go t203 (by omega))); (try (have i_t204 := Imp.go t204 (by omega))); omega)))), (Imp.mk (fun hp => have hp : p0.toInt = 4 := hp; (show 2 = 0 ∧ (V205 0 98).toInt = (V 0 98).toInt from by first | omega | ((try (have i_t204 := Imp.go t204 (by omega))); (try (have i_t203 := Imp.go t203 (by omega))); (try (have i_y4 := Imp.go y4 (by omega))); (try (have i_y3 := Imp.go y3 (by omega))); (try (have i_y2 := Imp.go y2 (by omega))); (try (have i_y1 := Imp.go y1 (by omega))); (try (have i_y1 := Imp.go y1 (by omega))); (try (have i_y2 := Imp.go y2 (by omega))); (try (have i_y3 := Imp.go y3 (by omega))); (try (have i_y4 := Imp.go y4 (by omega))); (try (have i_t203 := Imp.go t203 (by omega))); (try (have i_t204 := Imp.go t204 (by omega))); omega)))), (Imp.mk (fun hp => have hp : 5 ≤ p0.toInt ∧ p0.toInt ≤ 9 := hp; (show 2 = 0 ∧ (V205 0 98).toInt = (V 0 98).toInt - 1 from by first | omega | ((try (have i_t204 := Imp.go t204 (by omega))); (try (have i_t203 := Imp.go t203 (by omega))); (try (have i_y4 := Imp.go y4 (by omega))); (try (have i_y3 := Imp.go y3 (by omega))); (try (have i_y2 := Imp.go y2 (by omega))); (try (have i_y1 := Imp.go y1 (by omega))); (try (have i_y1 := Imp.go y1 (by omega))); (try (have i_y2 := Imp.go y2 (by omega))); (try (have i_y3 := Imp.go y3 (by omega))); (try (have i_y4 := Imp.go y4 (by omega))); (try (have i_t203 := Imp.go t203 (by omega))); (try (have i_t204 := Imp.go t204 (by omega))); omega)))), (Imp.mk (fun hp => have hp : p0.toInt ≠ 1 := hp; (show (V205 0 69).toInt = (V 0 69).toInt ∧ (V205 0 68).toInt = (V 0 68).toInt from by first | omega | ((try (have i_t204 := Imp.go t204 (by omega))); (try (have i_t203 := Imp.go t203 (by omega))); (try (have i_y4 := Imp.go y4 (by omega))); (try (have i_y3 := Imp.go y3 (by omega))); (try (have i_y2 := Imp.go y2 (by omega))); (try (have i_y1 := Imp.go y1 (by omega))); (try (have i_y1 := Imp.go y1 (by omega))); (try (have i_y2 := Imp.go y2 (by omega))); (try (have i_y3 := Imp.go y3 (by omega))); (try (have i_y4 := Imp.go y4 (by omega))); (try (have i_t203 := Imp.go t203 (by omega))); (try (have i_t204 := Imp.go t204 (by omega))); omega))))⟩, by rw [ht]; exact hP, va_K.moved hW.alike hK, hD⟩, hS.F ht⟩) hS.2.2 dX12_reckons_17
    · skip
      have f214 : z200.toInt ≠ 0 := b_neq rfl (by decide) c211
      refine lv_iconst (v := 0) hx hb dX12_reckons_12 (by decide) ?_
      refine lv_goto (tgt := 17) hx hb dX12_reckons_13 (by decide) ?_
      have pq215 : (V205 0 98).toInt = ((V 0 98)).toInt := congrArg Int32.toInt (ajV205 0 98 rfl)
      exact W.iret (v := 0) hx hb hr (fun t ht hW => ⟨⟨0, (V205, L), rfl, ⟨hMV205, agV205, rfl, (by decide), (Imp.mk (fun hp => have hp : p0.toInt = 1 := hp; (show (V205 0 98).toInt = (V 0 98).toInt ∧ ((0 = 0 ∧ (V205 0 69).toInt = (V 0 69).toInt + 1 ∧ (V205 0 68).toInt = (V 0 68).toInt + 1) ∨ (0 = 2 ∧ (V205 0 69).toInt = (V 0 69).toInt ∧ (V205 0 68).toInt = (V 0 68).toInt)) from by first | omega | ((try (have i_t204 := Imp.go t204 (by omega))); (try (have i_t203 := Imp.go t203 (by omega))); (try (have i_y4 := Imp.go y4 (by omega))); (try (have i_y3 := Imp.go y3 (by omega))); (try (have i_y2 := Imp.go y2 (by omega))); (try (have i_y1 := Imp.go y1 (by omega))); (try (have i_y1 := Imp.go y1 (by omega))); (try (have i_y2 := Imp.go y2 (by omega))); (try (have i_y3 := Imp.go y3 (by omega))); (try (have i_y4 := Imp.go y4 (by omega))); (try (have i_t203 := Imp.go t203 (by omega))); (try (have i_t204 := Imp.go t204 (by omega))); omega)))), (Imp.mk (fun hp => have hp : p0.toInt = 10 := hp; (show 0 = 1 ∧ (V205 0 98).toInt = (V 0 98).toInt from by first | omega | ((try (have i_t204 := Imp.go t204 (by omega))); (try (have i_t203 := Imp.go t203 (by omega))); (try (have i_y4 := Imp.go y4 (by omega))); (try (have i_y3 := Imp.go y3 (by omega))); (try (have i_y2 := Imp.go y2 (by omega))); (try (have i_y1 := Imp.go y1 (by omega))); (try (have i_y1 := Imp.go y1 (by omega))); (try (have i_y2 := Imp.go y2 (by omega))); (try (have i_y3 := Imp.go y3 (by omega))); (try (have i_y4 := Imp.go y4 (by omega))); (try (have i_t203 := Imp.go t203 (by omega))); (try (have i_t204 := Imp.go t204 (by omega))); omega)))), (Imp.mk (fun hp => have hp : p0.toInt = 2 ∨ p0.toInt = 11 := hp; (show 0 = 0 ∧ (V205 0 98).toInt = (V 0 98).toInt + 1 from by first | omega | ((try (have i_t204 := Imp.go t204 (by omega))); (try (have i_t203 := Imp.go t203 (by omega))); (try (have i_y4 := Imp.go y4 (by omega))); (try (have i_y3 := Imp.go y3 (by omega))); (try (have i_y2 := Imp.go y2 (by omega))); (try (have i_y1 := Imp.go y1 (by omega))); (try (have i_y1 := Imp.go y1 (by omega))); (try (have i_y2 := Imp.go y2 (by omega))); (try (have i_y3 := Imp.go y3 (by omega))); (try (have i_y4 := Imp.go y4 (by omega))); (try (have i_t203 := Imp.go t203 (by omega))); (try (have i_t204 := Imp.go t204 (by omega))); omega)))), (Imp.mk (fun hp => have hp : p0.toInt = 4 := hp; (show 0 = 0 ∧ (V205 0 98).toInt = (V 0 98).toInt from by first | omega | ((try (have i_t204 := Imp.go t204 (by omega))); (try (have i_t203 := Imp.go t203 (by omega))); (try (have i_y4 := Imp.go y4 (by omega))); (try (have i_y3 := Imp.go y3 (by omega))); (try (have i_y2 := Imp.go y2 (by omega))); (try (have i_y1 := Imp.go y1 (by omega))); (try (have i_y1 := Imp.go y1 (by omega))); (try (have i_y2 := Imp.go y2 (by omega))); (try (have i_y3 := Imp.go y3 (by omega))); (try (have i_y4 := Imp.go y4 (by omega))); (try (have i_t203 := Imp.go t203 (by omega))); (try (have i_t204 := Imp.go t204 (by omega))); omega)))), (Imp.mk (fun hp => have hp : 5 ≤ p0.toInt ∧ p0.toInt ≤ 9 := hp; (show 0 = 0 ∧ (V205 0 98).toInt = (V 0 98).toInt - 1 from by first | omega | ((try (have i_t204 := Imp.go t204 (by omega))); (try (have i_t203 := Imp.go t203 (by omega))); (try (have i_y4 := Imp.go y4 (by omega))); (try (have i_y3 := Imp.go y3 (by omega))); (try (have i_y2 := Imp.go y2 (by omega))); (try (have i_y1 := Imp.go y1 (by omega))); (try (have i_y1 := Imp.go y1 (by omega))); (try (have i_y2 := Imp.go y2 (by omega))); (try (have i_y3 := Imp.go y3 (by omega))); (try (have i_y4 := Imp.go y4 (by omega))); (try (have i_t203 := Imp.go t203 (by omega))); (try (have i_t204 := Imp.go t204 (by omega))); omega)))), (Imp.mk (fun hp => have hp : p0.toInt ≠ 1 := hp; (show (V205 0 69).toInt = (V 0 69).toInt ∧ (V205 0 68).toInt = (V 0 68).toInt from by first | omega | ((try (have i_t204 := Imp.go t204 (by omega))); (try (have i_t203 := Imp.go t203 (by omega))); (try (have i_y4 := Imp.go y4 (by omega))); (try (have i_y3 := Imp.go y3 (by omega))); (try (have i_y2 := Imp.go y2 (by omega))); (try (have i_y1 := Imp.go y1 (by omega))); (try (have i_y1 := Imp.go y1 (by omega))); (try (have i_y2 := Imp.go y2 (by omega))); (try (have i_y3 := Imp.go y3 (by omega))); (try (have i_y4 := Imp.go y4 (by omega))); (try (have i_t203 := Imp.go t203 (by omega))); (try (have i_t204 := Imp.go t204 (by omega))); omega))))⟩, by rw [ht]; exact hP, va_K.moved hW.alike hK, hD⟩, hS.F ht⟩) hS.2.2 dX12_reckons_17
abbrev r_s_isWrap2 : Room := { frames := 0, cells := 0, slots := 0, locals := 0 }
abbrev q_s_isWrap2 (D : va_G) (ks : KS) (ad : Nat → Nat) (kk : Nat → ClassId) (V : Vf) (L : Lf) (p0 : Int32) (p1 : Int32) (p2 : Int32) (p3 : Int32) (A : Nat → Prop) : Array Value → State → Outcome → State → Prop := va_Qi (fun (r : Int32) (_ : Unit) => (0 ≤ r.toInt ∧ r.toInt ≤ 1) ∧ (Imp (r.toInt = 1) (isWb V p1 p2 p3 (Int32.toNatClampNeg p0) = true)) ∧ (Imp (r.toInt = 0) (isWb V p1 p2 p3 (Int32.toNatClampNeg p0) = false))) (fun _ t => gq D A (mw ad kk ks.1 V L) (mty kk) t) A
set_option maxHeartbeats 4000000 in
set_option maxRecDepth 100000 in
theorem s_isWrap2 (l : Launch) (D : va_G) (ks : KS) (sz : Nat) (ad : Nat → Nat) (kk : Nat → ClassId) (V : Vf) (L : Lf) (p0 : Int32) (p1 : Int32) (p2 : Int32) (p3 : Int32) (hMV : rgd bM V) (rg_p0 : 0 ≤ p0.toInt ∧ p0.toInt ≤ 11) (rg_p1 : 0 ≤ p1.toInt ∧ p1.toInt ≤ 299) (wt : 0 ≤ (V 40 (12 * nwh V + Int32.toNatClampNeg p0)).toInt)  : Met l yX12_isWrap (Cond.code yX12_isWrap cX12_isWrap 6 (some .boolean) :: GW) r_s_isWrap2 (va_Pc [.ref (ad 0), .int p0, .int p1, .int p2, .int p3] (gp D ks (mw ad kk ks.1 V L) (mty kk) sz)) (q_s_isWrap2 D ks ad kk V L p0 p1 p2 p3 (va_A (mw ad kk ks.1 V L) sz)) 0 0 (va_A (mw ad kk ks.1 V L) sz) := by
  refine g_met (q_s_isWrap2 D ks ad kk V L p0 p1 p2 p3) (by decide) (Nat.le_of_ble_eq_true rfl) ?_
  intro p e s m below meth c A ls H locs hx hb hr hml hown hg hlocks hin hnw hgk hP hK hD hS hA hl
  have hown : s.vm.findClass RX12 = some m.cls := hown
  have hl : lv_has ls 6 [(0, .ref (ad 0)), (1, .int p0), (2, .int p1), (3, .int p2), (4, .int p3)] := hl
  have hP : va_P D vwCl (mw ad kk ks.1 V L) H := hP
  have hD : va_D A (mw ad kk ks.1 V L) := hD
  have hK : va_K D vwCl (mty kk) s := hK
  refine lv_bipush (v := 12) hx hb dX12_isWrap_0 (by decide) ?_
  refine lv_aload_n hx hb dX12_isWrap_2 rfl (lv_at hl 0 rfl) ?_
  refine va_get (D := D) (ci := 12) (v := .int (V 0 11)) (C := RX12) (T := TX12) (N := 100) hx hb hg inX12 hown hK hP 0 rfl rfl 11 (by decide) (hg _ w1721) (fun _ h9 => h9) rfl dX12_isWrap_3 ?_
  have r1 : 0 ≤ ((V 0 11)).toInt ∧ ((V 0 11)).toInt ≤ 1 := hMV 0 11
  refine lv_imul hx hb dX12_isWrap_6 ?_
  refine lv_topi (fun z2 ez2 => ?_)
  have hz2 : z2.toInt = 12 * ((V 0 11)).toInt := i_mul ez2 (by decide) rfl (by omega)
  refine lv_iload_n hx hb dX12_isWrap_7 rfl (lv_at hl 1 rfl) ?_
  refine lv_iadd hx hb dX12_isWrap_8 ?_
  refine lv_topi (fun z3 ez3 => ?_)
  have hz3 : z3.toInt = z2.toInt + p0.toInt := i_add ez3 rfl rfl (by omega)
  refine lv_istore (lv' := [(5, .int z3), (0, .ref (ad 0)), (1, .int p0), (2, .int p1), (3, .int p2), (4, .int p3)]) hx hb dX12_isWrap_9 hl (by decide) rfl (fun ls hl => ?_)
  have kn_ : (nwh V : Int) = (V 0 11).toInt := i_clamp (x := V 0 11) rfl (by omega)
  have k0_ := i_clamp (x := p0) rfl (by omega)
  have wt2 : 0 ≤ (V 40 (Int32.toNatClampNeg z3)).toInt := by have k5 : Int32.toNatClampNeg z3 = 12 * nwh V + Int32.toNatClampNeg p0 := (by have h9 := i_clamp (x := z3) rfl (by omega); omega); rw [k5]; exact wt
  refine lv_aload_n hx hb dX12_isWrap_11 rfl (lv_at hl 1 rfl) ?_
  refine va_get (D := D) (ci := 12) (v := .ref (ad 41)) (C := RX12) (T := TX12) (N := 100) hx hb hg inX12 hown hK hP 0 rfl rfl 41 (by decide) (hg _ w1751) (fun _ h9 => h9) rfl dX12_isWrap_12 ?_
  refine lv_iload hx hb dX12_isWrap_15 (lv_at hl 0 rfl) ?_
  refine va_iald (D := D) (i := z3) hx hb hK hP 34 33 rfl rfl (i_in (a := z3.toInt) rfl (by first | omega | ((try (have i_wt := Imp.go wt (by omega))); omega))) dX12_isWrap_17 ?_
  refine lv_iload_n hx hb dX12_isWrap_18 rfl (lv_at hl 4 rfl) ?_
  refine lv_icmp_ne (tgt := 71) hx hb dX12_isWrap_19 (by decide) (fun c4 => ?_) (fun c4 => ?_)
  · skip
    have f5 : ((V 41 (Int32.toNatClampNeg z3))).toInt ≠ p2.toInt := b_neq rfl rfl c4
    refine lv_iconst (v := 0) hx hb dX12_isWrap_71 (by decide) ?_
    have kn : (nwh V : Int) = (V 0 11).toInt := i_clamp (x := V 0 11) rfl (by omega)
    have k0 := i_clamp (x := p0) rfl (by omega)
    have k5 : Int32.toNatClampNeg z3 = 12 * nwh V + Int32.toNatClampNeg p0 := by have h9 := i_clamp (x := z3) rfl (by omega); omega
    have q40 : V 40 (12 * nwh V + Int32.toNatClampNeg p0) = V 40 (Int32.toNatClampNeg z3) := by rw [k5]
    have q41 : V 41 (12 * nwh V + Int32.toNatClampNeg p0) = V 41 (Int32.toNatClampNeg z3) := by rw [k5]
    have q43 : V 43 (12 * nwh V + Int32.toNatClampNeg p0) = V 43 (Int32.toNatClampNeg z3) := by rw [k5]
    exact W.zret (v := 0) hx hb hr rfl (fun t ht hW => ⟨⟨0, (), rfl, ⟨(by decide), (Imp.mk (fun hp => absurd hp (by decide))), (Imp.mk (fun _ => decide_eq_false (fun h => by have h9 := h.1; rw [q41] at h9; have h8 := congrArg Int32.toInt h9; omega)))⟩, by rw [ht]; exact hP, va_K.moved hW.alike hK, hD⟩, hS.F ht⟩) hS.2.2 dX12_isWrap_72
  · skip
    have f6 : ((V 41 (Int32.toNatClampNeg z3))).toInt = p2.toInt := b_eq rfl rfl c4
    refine lv_aload_n hx hb dX12_isWrap_22 rfl (lv_at hl 1 rfl) ?_
    refine va_get (D := D) (ci := 12) (v := .ref (ad 43)) (C := RX12) (T := TX12) (N := 100) hx hb hg inX12 hown hK hP 0 rfl rfl 43 (by decide) (hg _ w1753) (fun _ h9 => h9) rfl dX12_isWrap_23 ?_
    refine lv_iload hx hb dX12_isWrap_26 (lv_at hl 0 rfl) ?_
    refine va_iald (D := D) (i := z3) hx hb hK hP 36 35 rfl rfl (i_in (a := z3.toInt) rfl (by first | omega | ((try (have i_wt := Imp.go wt (by omega))); omega))) dX12_isWrap_28 ?_
    have r7 : 0 ≤ ((V 43 (Int32.toNatClampNeg z3))).toInt ∧ ((V 43 (Int32.toNatClampNeg z3))).toInt ≤ 3 := hMV 43 (Int32.toNatClampNeg z3)
    refine lv_iload hx hb dX12_isWrap_29 (lv_at hl 5 rfl) ?_
    refine lv_icmp_ne (tgt := 71) hx hb dX12_isWrap_31 (by decide) (fun c8 => ?_) (fun c8 => ?_)
    · skip
      have f9 : ((V 43 (Int32.toNatClampNeg z3))).toInt ≠ p3.toInt := b_neq rfl rfl c8
      refine lv_iconst (v := 0) hx hb dX12_isWrap_71 (by decide) ?_
      have kn : (nwh V : Int) = (V 0 11).toInt := i_clamp (x := V 0 11) rfl (by omega)
      have k0 := i_clamp (x := p0) rfl (by omega)
      have k5 : Int32.toNatClampNeg z3 = 12 * nwh V + Int32.toNatClampNeg p0 := by have h9 := i_clamp (x := z3) rfl (by omega); omega
      have q40 : V 40 (12 * nwh V + Int32.toNatClampNeg p0) = V 40 (Int32.toNatClampNeg z3) := by rw [k5]
      have q41 : V 41 (12 * nwh V + Int32.toNatClampNeg p0) = V 41 (Int32.toNatClampNeg z3) := by rw [k5]
      have q43 : V 43 (12 * nwh V + Int32.toNatClampNeg p0) = V 43 (Int32.toNatClampNeg z3) := by rw [k5]
      exact W.zret (v := 0) hx hb hr rfl (fun t ht hW => ⟨⟨0, (), rfl, ⟨(by decide), (Imp.mk (fun hp => absurd hp (by decide))), (Imp.mk (fun _ => decide_eq_false (fun h => by have h9 := h.2.1; rw [q43] at h9; have h8 := congrArg Int32.toInt h9; omega)))⟩, by rw [ht]; exact hP, va_K.moved hW.alike hK, hD⟩, hS.F ht⟩) hS.2.2 dX12_isWrap_72
    · skip
      have f10 : ((V 43 (Int32.toNatClampNeg z3))).toInt = p3.toInt := b_eq rfl rfl c8
      refine lv_aload_n hx hb dX12_isWrap_34 rfl (lv_at hl 1 rfl) ?_
      refine va_get (D := D) (ci := 12) (v := .ref (ad 21)) (C := RX12) (T := TX12) (N := 100) hx hb hg inX12 hown hK hP 0 rfl rfl 21 (by decide) (hg _ w1731) (fun _ h9 => h9) rfl dX12_isWrap_35 ?_
      refine lv_bipush (v := 24) hx hb dX12_isWrap_38 (by decide) ?_
      refine lv_bipush (v := 24) hx hb dX12_isWrap_40 (by decide) ?_
      refine lv_aload_n hx hb dX12_isWrap_42 rfl (lv_at hl 1 rfl) ?_
      refine va_get (D := D) (ci := 12) (v := .int (V 0 11)) (C := RX12) (T := TX12) (N := 100) hx hb hg inX12 hown hK hP 0 rfl rfl 11 (by decide) (hg _ w1721) (fun _ h9 => h9) rfl dX12_isWrap_43 ?_
      refine lv_imul hx hb dX12_isWrap_46 ?_
      refine lv_topi (fun z11 ez11 => ?_)
      have hz11 : z11.toInt = 24 * ((V 0 11)).toInt := i_mul ez11 (by decide) rfl (by omega)
      refine lv_aload_n hx hb dX12_isWrap_47 rfl (lv_at hl 1 rfl) ?_
      refine va_get (D := D) (ci := 12) (v := .ref (ad 61)) (C := RX12) (T := TX12) (N := 100) hx hb hg inX12 hown hK hP 0 rfl rfl 61 (by decide) (hg _ w1771) (fun _ h9 => h9) rfl dX12_isWrap_48 ?_
      refine lv_iload_n hx hb dX12_isWrap_51 rfl (lv_at hl 3 rfl) ?_
      refine va_iald (D := D) (i := p1) hx hb hK hP 46 45 rfl rfl (i_in (a := p1.toInt) rfl (by first | omega | ((try (have i_wt := Imp.go wt (by omega))); omega))) dX12_isWrap_52 ?_
      have r12 : 0 ≤ ((V 61 (Int32.toNatClampNeg p1))).toInt ∧ ((V 61 (Int32.toNatClampNeg p1))).toInt ≤ 23 := hMV 61 (Int32.toNatClampNeg p1)
      refine lv_iadd hx hb dX12_isWrap_53 ?_
      refine lv_topi (fun z13 ez13 => ?_)
      have hz13 : z13.toInt = z11.toInt + ((V 61 (Int32.toNatClampNeg p1))).toInt := i_add ez13 rfl rfl (by omega)
      refine lv_imul hx hb dX12_isWrap_54 ?_
      refine lv_topi (fun z14 ez14 => ?_)
      have hz14 : z14.toInt = 24 * z13.toInt := i_mul ez14 (by decide) rfl (by omega)
      refine lv_aload_n hx hb dX12_isWrap_55 rfl (lv_at hl 1 rfl) ?_
      refine va_get (D := D) (ci := 12) (v := .ref (ad 40)) (C := RX12) (T := TX12) (N := 100) hx hb hg inX12 hown hK hP 0 rfl rfl 40 (by decide) (hg _ w1750) (fun _ h9 => h9) rfl dX12_isWrap_56 ?_
      refine lv_iload hx hb dX12_isWrap_59 (lv_at hl 0 rfl) ?_
      refine va_iald (D := D) (i := z3) hx hb hK hP 33 32 rfl rfl (i_in (a := z3.toInt) rfl (by first | omega | ((try (have i_wt := Imp.go wt (by omega))); omega))) dX12_isWrap_61 ?_
      have r15 : (-1) ≤ ((V 40 (Int32.toNatClampNeg z3))).toInt ∧ ((V 40 (Int32.toNatClampNeg z3))).toInt ≤ 23 := hMV 40 (Int32.toNatClampNeg z3)
      refine lv_iadd hx hb dX12_isWrap_62 ?_
      refine lv_topi (fun z16 ez16 => ?_)
      have hz16 : z16.toInt = z14.toInt + ((V 40 (Int32.toNatClampNeg z3))).toInt := i_add ez16 rfl rfl (by omega)
      refine va_zald (D := D) (i := z16) hx hb hK hP 14 13 rfl rfl (i_in (a := z16.toInt) rfl (by first | omega | ((try (have i_wt := Imp.go wt (by omega))); omega))) dX12_isWrap_63 ?_
      have r17 : 0 ≤ ((V 21 (Int32.toNatClampNeg z16))).toInt ∧ ((V 21 (Int32.toNatClampNeg z16))).toInt ≤ 1 := hMV 21 (Int32.toNatClampNeg z16)
      refine lv_if_eq (tgt := 71) hx hb dX12_isWrap_64 (by decide) (fun c18 => ?_) (fun c18 => ?_)
      · skip
        have f19 : ((V 21 (Int32.toNatClampNeg z16))).toInt = 0 := b_eq rfl (by decide) c18
        refine lv_iconst (v := 0) hx hb dX12_isWrap_71 (by decide) ?_
        have kn : (nwh V : Int) = (V 0 11).toInt := i_clamp (x := V 0 11) rfl (by omega)
        have k0 := i_clamp (x := p0) rfl (by omega)
        have k5 : Int32.toNatClampNeg z3 = 12 * nwh V + Int32.toNatClampNeg p0 := by have h9 := i_clamp (x := z3) rfl (by omega); omega
        have q40 : V 40 (12 * nwh V + Int32.toNatClampNeg p0) = V 40 (Int32.toNatClampNeg z3) := by rw [k5]
        have q41 : V 41 (12 * nwh V + Int32.toNatClampNeg p0) = V 41 (Int32.toNatClampNeg z3) := by rw [k5]
        have q43 : V 43 (12 * nwh V + Int32.toNatClampNeg p0) = V 43 (Int32.toNatClampNeg z3) := by rw [k5]
        have r40 := congrArg Int32.toInt q40
        have r61 : 0 ≤ (V 61 (Int32.toNatClampNeg p1)).toInt ∧ (V 61 (Int32.toNatClampNeg p1)).toInt ≤ 23 := hMV 61 _
        have kx : Int32.toNatClampNeg z16 = 24 * (24 * nwh V + (V 61 (Int32.toNatClampNeg p1)).toInt.toNat) + (V 40 (12 * nwh V + Int32.toNatClampNeg p0)).toInt.toNat := by have h9 := i_clamp (x := z16) rfl (by omega); omega
        have q21 : (V 21 (24 * (24 * nwh V + (V 61 (Int32.toNatClampNeg p1)).toInt.toNat) + (V 40 (12 * nwh V + Int32.toNatClampNeg p0)).toInt.toNat)).toInt = (V 21 (Int32.toNatClampNeg z16)).toInt := by rw [kx]
        exact W.zret (v := 0) hx hb hr rfl (fun t ht hW => ⟨⟨0, (), rfl, ⟨(by decide), (Imp.mk (fun hp => absurd hp (by decide))), (Imp.mk (fun _ => decide_eq_false (fun h => by have h9 := h.2.2; omega)))⟩, by rw [ht]; exact hP, va_K.moved hW.alike hK, hD⟩, hS.F ht⟩) hS.2.2 dX12_isWrap_72
      · skip
        have f20 : ((V 21 (Int32.toNatClampNeg z16))).toInt ≠ 0 := b_neq rfl (by decide) c18
        refine lv_iconst (v := 1) hx hb dX12_isWrap_67 (by decide) ?_
        refine lv_goto (tgt := 72) hx hb dX12_isWrap_68 (by decide) ?_
        have kn : (nwh V : Int) = (V 0 11).toInt := i_clamp (x := V 0 11) rfl (by omega)
        have k0 := i_clamp (x := p0) rfl (by omega)
        have k5 : Int32.toNatClampNeg z3 = 12 * nwh V + Int32.toNatClampNeg p0 := by have h9 := i_clamp (x := z3) rfl (by omega); omega
        have q40 : V 40 (12 * nwh V + Int32.toNatClampNeg p0) = V 40 (Int32.toNatClampNeg z3) := by rw [k5]
        have q41 : V 41 (12 * nwh V + Int32.toNatClampNeg p0) = V 41 (Int32.toNatClampNeg z3) := by rw [k5]
        have q43 : V 43 (12 * nwh V + Int32.toNatClampNeg p0) = V 43 (Int32.toNatClampNeg z3) := by rw [k5]
        have r40 := congrArg Int32.toInt q40
        have r61 : 0 ≤ (V 61 (Int32.toNatClampNeg p1)).toInt ∧ (V 61 (Int32.toNatClampNeg p1)).toInt ≤ 23 := hMV 61 _
        have kx : Int32.toNatClampNeg z16 = 24 * (24 * nwh V + (V 61 (Int32.toNatClampNeg p1)).toInt.toNat) + (V 40 (12 * nwh V + Int32.toNatClampNeg p0)).toInt.toNat := by have h9 := i_clamp (x := z16) rfl (by omega); omega
        have q21 : (V 21 (24 * (24 * nwh V + (V 61 (Int32.toNatClampNeg p1)).toInt.toNat) + (V 40 (12 * nwh V + Int32.toNatClampNeg p0)).toInt.toNat)).toInt = (V 21 (Int32.toNatClampNeg z16)).toInt := by rw [kx]
        exact W.zret (v := 1) hx hb hr rfl (fun t ht hW => ⟨⟨1, (), rfl, ⟨(by decide), (Imp.mk (fun _ => decide_eq_true ⟨by rw [q41]; exact Int32.toInt_inj.mp (by omega), by rw [q43]; exact Int32.toInt_inj.mp (by omega), by omega⟩)), (Imp.mk (fun hp => absurd hp (by decide)))⟩, by rw [ht]; exact hP, va_K.moved hW.alike hK, hD⟩, hS.F ht⟩) hS.2.2 dX12_isWrap_72
abbrev r_s_wrapsOf2 : Room := { frames := 1, cells := 0, slots := 0, locals := 25 }
abbrev q_s_wrapsOf2 (D : va_G) (ks : KS) (ad : Nat → Nat) (kk : Nat → ClassId) (V : Vf) (L : Lf) (p0 : Int32) (p1 : Int32) (p2 : Int32) (A : Nat → Prop) : Array Value → State → Outcome → State → Prop := va_Qi (fun (r : Int32) (_ : Unit) => (0 ≤ r.toInt ∧ r.toInt ≤ 12) ∧ (r.toInt = ((wcn (isWb V p0 p1 p2) (wmany V) : Nat) : Int))) (fun _ t => gq D A (mw ad kk ks.1 V L) (mty kk) t) A
set_option maxHeartbeats 4000000 in
set_option maxRecDepth 100000 in
theorem s_wrapsOf2 (l : Launch) (D : va_G) (ks : KS) (sz : Nat) (ad : Nat → Nat) (kk : Nat → ClassId) (V : Vf) (L : Lf) (p0 : Int32) (p1 : Int32) (p2 : Int32) (hMV : rgd bM V) (rg_p0 : 0 ≤ p0.toInt ∧ p0.toInt ≤ 299) (tb : TB V)  : Met l yX12_wrapsOf (Cond.code yX12_wrapsOf cX12_wrapsOf 6 (some .int) :: GW) r_s_wrapsOf2 (va_Pc [.ref (ad 0), .int p0, .int p1, .int p2] (gp D ks (mw ad kk ks.1 V L) (mty kk) sz)) (q_s_wrapsOf2 D ks ad kk V L p0 p1 p2 (va_A (mw ad kk ks.1 V L) sz)) 0 0 (va_A (mw ad kk ks.1 V L) sz) := by
  refine g_met (q_s_wrapsOf2 D ks ad kk V L p0 p1 p2) (by decide) (Nat.le_of_ble_eq_true rfl) ?_
  intro p e s m below meth c A ls H locs hx hb hr hml hown hg hlocks hin hnw hgk hP hK hD hS hA hl
  have hown : s.vm.findClass RX12 = some m.cls := hown
  have hl : lv_has ls 6 [(0, .ref (ad 0)), (1, .int p0), (2, .int p1), (3, .int p2)] := hl
  have hP : va_P D vwCl (mw ad kk ks.1 V L) H := hP
  have hD : va_D A (mw ad kk ks.1 V L) := hD
  have hK : va_K D vwCl (mty kk) s := hK
  have r39h : 0 ≤ (V 39 (Int32.toNatClampNeg (V 0 11))).toInt ∧ (V 39 (Int32.toNatClampNeg (V 0 11))).toInt ≤ 12 := hMV 39 _
  refine lv_iconst (v := 0) hx hb dX12_wrapsOf_0 (by decide) ?_
  refine lv_istore (lv' := [(4, .int 0), (0, .ref (ad 0)), (1, .int p0), (2, .int p1), (3, .int p2)]) hx hb dX12_wrapsOf_1 hl (by decide) rfl (fun ls hl => ?_)
  refine lv_iconst (v := 0) hx hb dX12_wrapsOf_3 (by decide) ?_
  refine lv_istore (lv' := [(5, .int 0), (4, .int 0), (0, .ref (ad 0)), (1, .int p0), (2, .int p1), (3, .int p2)]) hx hb dX12_wrapsOf_4 hl (by decide) rfl (fun ls hl => ?_)
  have lp3 : ∀ (fulp3 : Nat) (y1 : Int32) (y2 : Int32) (H : Heap) (locs : List Loc) (ls : Array Slot), 0 ≤ y1.toInt ∧ y1.toInt ≤ 12 → 0 ≤ y2.toInt ∧ y2.toInt ≤ 12 → y2.toInt ≤ y1.toInt → y1.toInt ≤ (V 39 (Int32.toNatClampNeg (V 0 11))).toInt → y2.toInt = ((wcn (isWb V p0 p1 p2) (Int32.toNatClampNeg y1) : Nat) : Int) → 12 - y1.toInt < (fulp3 : Int) → va_P D vwCl (mw ad kk ks.1 V L) H → va_D A (mw ad kk ks.1 V L) → va_S A s.heap H locs → lv_has ls 6 [(5, .int y1), (4, .int y2), (0, .ref (ad 0)), (1, .int p0), (2, .int p1), (3, .int p2)] → W p l e r_s_wrapsOf2 s m ([.ref (ad 0), .int p0, .int p1, .int p2] : List Value).toArray below meth c H locs 0 0 (MQ below (q_s_wrapsOf2 D ks ad kk V L p0 p1 p2 A) ([.ref (ad 0), .int p0, .int p1, .int p2] : List Value).toArray s 0 0 A) (F0 m 6 ls []) := by
    intro fulp3
    induction fulp3 with
    | zero =>
      intro y1 y2 H locs ls klp3_0 klp3_1 xlp3_0 xlp3_1 xlp3_2 hn  hP hD hS hl
      exfalso; omega
    | succ fulp3 ihlp3 =>
      intro y1 y2 H locs ls klp3_0 klp3_1 xlp3_0 xlp3_1 xlp3_2 hn  hP hD hS hl
      refine lv_iload hx hb dX12_wrapsOf_6 (lv_at hl 0 rfl) ?_
      refine lv_aload_n hx hb dX12_wrapsOf_8 rfl (lv_at hl 2 rfl) ?_
      refine va_get (D := D) (ci := 12) (v := .ref (ad 39)) (C := RX12) (T := TX12) (N := 100) hx hb hg inX12 hown hK hP 0 rfl rfl 39 (by decide) (hg _ w1749) (fun _ h9 => h9) rfl dX12_wrapsOf_9 ?_
      refine lv_aload_n hx hb dX12_wrapsOf_12 rfl (lv_at hl 2 rfl) ?_
      refine va_get (D := D) (ci := 12) (v := .int (V 0 11)) (C := RX12) (T := TX12) (N := 100) hx hb hg inX12 hown hK hP 0 rfl rfl 11 (by decide) (hg _ w1721) (fun _ h9 => h9) rfl dX12_wrapsOf_13 ?_
      have r4 : 0 ≤ ((V 0 11)).toInt ∧ ((V 0 11)).toInt ≤ 1 := hMV 0 11
      refine va_iald (D := D) (i := (V 0 11)) hx hb hK hP 32 31 rfl rfl (i_in (a := ((V 0 11)).toInt) rfl (by first | omega | ((try (have i_tb := Imp.go tb (by omega))); omega))) dX12_wrapsOf_16 ?_
      have r5 : 0 ≤ ((V 39 (Int32.toNatClampNeg (V 0 11)))).toInt ∧ ((V 39 (Int32.toNatClampNeg (V 0 11)))).toInt ≤ 12 := hMV 39 (Int32.toNatClampNeg (V 0 11))
      refine lv_icmp_ge (tgt := 48) hx hb dX12_wrapsOf_17 (by decide) (fun c6 => ?_) (fun c6 => ?_)
      · skip
        have f7 : ((V 39 (Int32.toNatClampNeg (V 0 11)))).toInt ≤ y1.toInt := b_le rfl rfl c6
        refine lv_iload hx hb dX12_wrapsOf_48 (lv_at hl 1 rfl) ?_
        have kc5 := i_clamp (x := y1) rfl (by omega)
        have r39 : 0 ≤ (V 39 (nwh V)).toInt := (hMV 39 _).1
        have e39 : (V 39 (nwh V)).toInt = (V 39 (Int32.toNatClampNeg (V 0 11))).toInt := rfl
        have kw : wmany V = Int32.toNatClampNeg y1 := by unfold wmany; omega
        exact W.iret (v := y2) hx hb hr (fun t ht hW => ⟨⟨y2, (), rfl, ⟨(show 0 ≤ y2.toInt ∧ y2.toInt ≤ 12 from by first | omega | ((try (have i_tb := Imp.go tb (by omega))); omega)), (by rw [kw]; exact xlp3_2)⟩, by rw [ht]; exact hP, va_K.moved hW.alike hK, hD⟩, hS.F ht⟩) hS.2.2 dX12_wrapsOf_50
      · skip
        have f8 : y1.toInt < ((V 39 (Int32.toNatClampNeg (V 0 11)))).toInt := b_nle rfl rfl c6
        refine lv_iload hx hb dX12_wrapsOf_20 (lv_at hl 1 rfl) ?_
        refine lv_aload_n hx hb dX12_wrapsOf_22 rfl (lv_at hl 2 rfl) ?_
        refine lv_iload hx hb dX12_wrapsOf_23 (lv_at hl 0 rfl) ?_
        refine lv_iload_n hx hb dX12_wrapsOf_25 rfl (lv_at hl 3 rfl) ?_
        refine lv_iload_n hx hb dX12_wrapsOf_26 rfl (lv_at hl 4 rfl) ?_
        refine lv_iload_n hx hb dX12_wrapsOf_27 rfl (lv_at hl 5 rfl) ?_
        have kw9 := i_clamp (x := y1) rfl (by omega)
        have e39 : (V 39 (nwh V)).toInt = (V 39 (Int32.toNatClampNeg (V 0 11))).toInt := rfl
        refine gA_int (gA_runV (As := [.int y1, .int p0, .int p1, .int p2]) (rest := [.int y2]) (ci := 12) (q0 := 0) hx hb hml hown hg hP hD hK hS hA hnw hgk (s_isWrap2 l D ks H.size ad kk V L y1 p0 p1 p2 hMV (by first | omega | ((try (have i_tb := Imp.go tb (by omega))); omega)) (by first | omega | ((try (have i_tb := Imp.go tb (by omega))); omega)) ((show TBL V (nwh V) _ from tb).2 (Int32.toNatClampNeg y1) (by omega)).2.2) w2292 w2294 w141 w172 w2295 rfl rfl hdV_yX12_isWrap ⟨Nat.le_of_ble_eq_true rfl, Nat.le_of_ble_eq_true rfl⟩ rfl hl.1 rfl (Nat.le_of_ble_eq_true rfl) dX12_wrapsOf_28 ⟨Nat.le_of_ble_eq_true rfl, Nat.le_of_ble_eq_true rfl⟩) hP hD hK hS hA (fun z10 u11 H locs w12 hP hD hK hS => ?_)
        obtain ⟨rgz10, t13, t14⟩ := w12
        have rgz10 : 0 ≤ z10.toInt ∧ z10.toInt ≤ 1 := rgz10
        have t13 : Imp (z10.toInt = 1) (isWb V p0 p1 p2 (Int32.toNatClampNeg y1) = true) := t13
        have t14 : Imp (z10.toInt = 0) (isWb V p0 p1 p2 (Int32.toNatClampNeg y1) = false) := t14
        refine lv_if_eq (tgt := 38) hx hb dX12_wrapsOf_31 (by decide) (fun c15 => ?_) (fun c15 => ?_)
        · skip
          have f16 : z10.toInt = 0 := b_eq rfl (by decide) c15
          refine lv_iconst (v := 0) hx hb dX12_wrapsOf_38 (by decide) ?_
          refine lv_iadd hx hb dX12_wrapsOf_39 ?_
          refine lv_topi (fun z17 ez17 => ?_)
          have hz17 : z17.toInt = y2.toInt + 0 := i_add ez17 rfl (by decide) (by omega)
          refine lv_istore (lv' := [(4, .int z17), (5, .int y1), (0, .ref (ad 0)), (1, .int p0), (2, .int p1), (3, .int p2)]) hx hb dX12_wrapsOf_40 hl (by decide) rfl (fun ls hl => ?_)
          obtain ⟨z18, ez18⟩ : ∃ y : Int32, y = y1 + 1 := ⟨_, rfl⟩
          have hz18 : z18.toInt = y1.toInt + 1 := i_add ez18 rfl (by decide) (by omega)
          refine lv_iinc (v := z18) (lv' := [(5, .int z18), (4, .int z17), (0, .ref (ad 0)), (1, .int p0), (2, .int p1), (3, .int p2)]) hx hb dX12_wrapsOf_42 hl (k := 1) rfl (by rw [ez18]; rfl) (by decide) rfl (fun ls hl => ?_)
          refine lv_goto (tgt := 6) hx hb dX12_wrapsOf_45 (by decide) ?_
          have kc5 := i_clamp (x := y1) rfl (by omega)
          have kc6 : Int32.toNatClampNeg z18 = Int32.toNatClampNeg y1 + 1 := by have h9 := i_clamp (x := z18) rfl (by omega); omega
          have ws := wcn_s (isWb V p0 p1 p2) (Int32.toNatClampNeg y1)
          rw [if_neg (by rw [Imp.go t14 (by omega)]; decide)] at ws
          exact ihlp3 z18 z17 H locs ls (by first | omega | ((try (have i_tb := Imp.go tb (by omega))); omega)) (by first | omega | ((try (have i_tb := Imp.go tb (by omega))); omega)) (show z17.toInt ≤ z18.toInt from by first | omega | ((try (have i_tb := Imp.go tb (by omega))); omega)) (show z18.toInt ≤ (V 39 (Int32.toNatClampNeg (V 0 11))).toInt from by first | omega | ((try (have i_tb := Imp.go tb (by omega))); omega)) (by rw [kc6, ws]; omega) (by first | omega | ((try (have i_tb := Imp.go tb (by omega))); omega)) hP hD hS (lv_sub hl [0, 1, 2, 3, 4, 5] rfl)
        · skip
          have f19 : z10.toInt ≠ 0 := b_neq rfl (by decide) c15
          refine lv_iconst (v := 1) hx hb dX12_wrapsOf_34 (by decide) ?_
          refine lv_goto (tgt := 39) hx hb dX12_wrapsOf_35 (by decide) ?_
          refine lv_iadd hx hb dX12_wrapsOf_39 ?_
          refine lv_topi (fun z20 ez20 => ?_)
          have hz20 : z20.toInt = y2.toInt + 1 := i_add ez20 rfl (by decide) (by omega)
          refine lv_istore (lv' := [(4, .int z20), (5, .int y1), (0, .ref (ad 0)), (1, .int p0), (2, .int p1), (3, .int p2)]) hx hb dX12_wrapsOf_40 hl (by decide) rfl (fun ls hl => ?_)
          obtain ⟨z21, ez21⟩ : ∃ y : Int32, y = y1 + 1 := ⟨_, rfl⟩
          have hz21 : z21.toInt = y1.toInt + 1 := i_add ez21 rfl (by decide) (by omega)
          refine lv_iinc (v := z21) (lv' := [(5, .int z21), (4, .int z20), (0, .ref (ad 0)), (1, .int p0), (2, .int p1), (3, .int p2)]) hx hb dX12_wrapsOf_42 hl (k := 1) rfl (by rw [ez21]; rfl) (by decide) rfl (fun ls hl => ?_)
          refine lv_goto (tgt := 6) hx hb dX12_wrapsOf_45 (by decide) ?_
          have kc5 := i_clamp (x := y1) rfl (by omega)
          have kc6 : Int32.toNatClampNeg z21 = Int32.toNatClampNeg y1 + 1 := by have h9 := i_clamp (x := z21) rfl (by omega); omega
          have ws := wcn_s (isWb V p0 p1 p2) (Int32.toNatClampNeg y1)
          rw [if_pos (Imp.go t13 (by omega))] at ws
          exact ihlp3 z21 z20 H locs ls (by first | omega | ((try (have i_tb := Imp.go tb (by omega))); omega)) (by first | omega | ((try (have i_tb := Imp.go tb (by omega))); omega)) (show z20.toInt ≤ z21.toInt from by first | omega | ((try (have i_tb := Imp.go tb (by omega))); omega)) (show z21.toInt ≤ (V 39 (Int32.toNatClampNeg (V 0 11))).toInt from by first | omega | ((try (have i_tb := Imp.go tb (by omega))); omega)) (by rw [kc6, ws]; omega) (by first | omega | ((try (have i_tb := Imp.go tb (by omega))); omega)) hP hD hS (lv_sub hl [0, 1, 2, 3, 4, 5] rfl)
  have r22 : Int32.toInt 0 = 0 := by decide
  exact lp3 ((12 - (Int32.toInt 0) + 1 : Int).toNat) 0 0 H locs ls (by decide) (by decide) (show (Int32.toInt 0) ≤ (Int32.toInt 0) from by first | omega | ((try (have i_tb := Imp.go tb (by omega))); omega)) (show (Int32.toInt 0) ≤ (V 39 (Int32.toNatClampNeg (V 0 11))).toInt from by first | omega | ((try (have i_tb := Imp.go tb (by omega))); omega)) (show (Int32.toInt 0) = ((wcn (isWb V p0 p1 p2) (Int32.toNatClampNeg 0) : Nat) : Int) from rfl) (by first | omega | ((try (have i_tb := Imp.go tb (by omega))); omega)) hP hD hS (lv_sub hl [0, 1, 2, 3, 4, 5] rfl)
abbrev r_s_wrapAt2 : Room := { frames := 1, cells := 0, slots := 0, locals := 25 }
abbrev q_s_wrapAt2 (D : va_G) (ks : KS) (ad : Nat → Nat) (kk : Nat → ClassId) (V : Vf) (L : Lf) (p0 : Int32) (p1 : Int32) (p2 : Int32) (p3 : Int32) (A : Nat → Prop) : Array Value → State → Outcome → State → Prop := va_Qi (fun (r : Int32) (_ : Unit) => ((-1) ≤ r.toInt ∧ r.toInt ≤ 11) ∧ (Imp (0 ≤ r.toInt) (r.toInt < (V 39 (nwh V)).toInt ∧ isWb V p1 p2 p3 (Int32.toNatClampNeg r) = true ∧ p0.toInt < ((wcn (isWb V p1 p2 p3) (wmany V) : Nat) : Int))) ∧ (Imp (r.toInt = -1) (((wcn (isWb V p1 p2 p3) (wmany V) : Nat) : Int) ≤ p0.toInt))) (fun _ t => gq D A (mw ad kk ks.1 V L) (mty kk) t) A
set_option maxHeartbeats 4000000 in
set_option maxRecDepth 100000 in
theorem s_wrapAt2 (l : Launch) (D : va_G) (ks : KS) (sz : Nat) (ad : Nat → Nat) (kk : Nat → ClassId) (V : Vf) (L : Lf) (p0 : Int32) (p1 : Int32) (p2 : Int32) (p3 : Int32) (hMV : rgd bM V) (rg_p0 : 0 ≤ p0.toInt ∧ p0.toInt ≤ 24) (rg_p1 : 0 ≤ p1.toInt ∧ p1.toInt ≤ 299) (tb : TB V)  : Met l yX12_wrapAt (Cond.code yX12_wrapAt cX12_wrapAt 8 (some .int) :: GW) r_s_wrapAt2 (va_Pc [.ref (ad 0), .int p0, .int p1, .int p2, .int p3] (gp D ks (mw ad kk ks.1 V L) (mty kk) sz)) (q_s_wrapAt2 D ks ad kk V L p0 p1 p2 p3 (va_A (mw ad kk ks.1 V L) sz)) 0 0 (va_A (mw ad kk ks.1 V L) sz) := by
  refine g_met (q_s_wrapAt2 D ks ad kk V L p0 p1 p2 p3) (by decide) (Nat.le_of_ble_eq_true rfl) ?_
  intro p e s m below meth c A ls H locs hx hb hr hml hown hg hlocks hin hnw hgk hP hK hD hS hA hl
  have hown : s.vm.findClass RX12 = some m.cls := hown
  have hl : lv_has ls 8 [(0, .ref (ad 0)), (1, .int p0), (2, .int p1), (3, .int p2), (4, .int p3)] := hl
  have hP : va_P D vwCl (mw ad kk ks.1 V L) H := hP
  have hD : va_D A (mw ad kk ks.1 V L) := hD
  have hK : va_K D vwCl (mty kk) s := hK
  have r39h : 0 ≤ (V 39 (Int32.toNatClampNeg (V 0 11))).toInt ∧ (V 39 (Int32.toNatClampNeg (V 0 11))).toInt ≤ 12 := hMV 39 _
  refine lv_iload_n hx hb dX12_wrapAt_0 rfl (lv_at hl 1 rfl) ?_
  refine lv_istore (lv' := [(5, .int p0), (0, .ref (ad 0)), (1, .int p0), (2, .int p1), (3, .int p2), (4, .int p3)]) hx hb dX12_wrapAt_1 hl (by decide) rfl (fun ls hl => ?_)
  refine lv_iconst (v := 0) hx hb dX12_wrapAt_3 (by decide) ?_
  refine lv_istore (lv' := [(6, .int 0), (5, .int p0), (0, .ref (ad 0)), (1, .int p0), (2, .int p1), (3, .int p2), (4, .int p3)]) hx hb dX12_wrapAt_4 hl (by decide) rfl (fun ls hl => ?_)
  have lp3 : ∀ (fulp3 : Nat) (y1 : Int32) (y2 : Int32) (H : Heap) (locs : List Loc) (ls : Array Slot), 0 ≤ y1.toInt ∧ y1.toInt ≤ 100 → 0 ≤ y2.toInt ∧ y2.toInt ≤ 24 → 0 ≤ y2.toInt → y2.toInt = p0.toInt - ((gwc (isWb V p1 p2 p3) (wnum V) y1.toInt 0 (wmany V) : Nat) : Int) → 100 - y1.toInt < (fulp3 : Int) → va_P D vwCl (mw ad kk ks.1 V L) H → va_D A (mw ad kk ks.1 V L) → va_S A s.heap H locs → lv_has ls 8 [(6, .int y1), (5, .int y2), (0, .ref (ad 0)), (1, .int p0), (2, .int p1), (3, .int p2), (4, .int p3)] → W p l e r_s_wrapAt2 s m ([.ref (ad 0), .int p0, .int p1, .int p2, .int p3] : List Value).toArray below meth c H locs 0 0 (MQ below (q_s_wrapAt2 D ks ad kk V L p0 p1 p2 p3 A) ([.ref (ad 0), .int p0, .int p1, .int p2, .int p3] : List Value).toArray s 0 0 A) (F0 m 6 ls []) := by
    intro fulp3
    induction fulp3 with
    | zero =>
      intro y1 y2 H locs ls klp3_0 klp3_1 xlp3_0 xlp3_1 hn  hP hD hS hl
      exfalso; omega
    | succ fulp3 ihlp3 =>
      intro y1 y2 H locs ls klp3_0 klp3_1 xlp3_0 xlp3_1 hn  hP hD hS hl
      refine lv_iload hx hb dX12_wrapAt_6 (lv_at hl 0 rfl) ?_
      refine lv_bipush (v := 100) hx hb dX12_wrapAt_8 (by decide) ?_
      refine lv_icmp_ge (tgt := 86) hx hb dX12_wrapAt_10 (by decide) (fun c4 => ?_) (fun c4 => ?_)
      · skip
        have f5 : 100 ≤ y1.toInt := b_le (by decide) rfl c4
        refine lv_iconst (v := (-1)) hx hb dX12_wrapAt_86 (by decide) ?_
        have gf := gwc_full (f := isWb V p1 p2 p3) (g := wnum V) (n := 100) (fun j => by have h9 : (V 42 (12 * nwh V + j)).toInt ≤ 99 := (hMV 42 _).2; show (V 42 (12 * nwh V + j)).toInt < 100; omega) (wmany V)
        have h8 := xlp3_1
        have e6 : y1.toInt = 100 := by omega
        rw [e6, gf] at h8
        exact W.iret (v := (-1)) hx hb hr (fun t ht hW => ⟨⟨(-1), (), rfl, ⟨(by decide), (Imp.mk (fun hp => absurd hp (by decide))), (Imp.mk (fun _ => by omega))⟩, by rw [ht]; exact hP, va_K.moved hW.alike hK, hD⟩, hS.F ht⟩) hS.2.2 dX12_wrapAt_87
      · skip
        have f6 : y1.toInt < 100 := b_nle (by decide) rfl c4
        refine lv_iconst (v := 0) hx hb dX12_wrapAt_13 (by decide) ?_
        refine lv_istore (lv' := [(7, .int 0), (6, .int y1), (5, .int y2), (0, .ref (ad 0)), (1, .int p0), (2, .int p1), (3, .int p2), (4, .int p3)]) hx hb dX12_wrapAt_14 hl (by decide) rfl (fun ls hl => ?_)
        have lp9 : ∀ (fulp9 : Nat) (y7 : Int32) (y8 : Int32) (H : Heap) (locs : List Loc) (ls : Array Slot), 0 ≤ y7.toInt ∧ y7.toInt ≤ 12 → 0 ≤ y8.toInt ∧ y8.toInt ≤ 24 → 0 ≤ y8.toInt → y7.toInt ≤ (V 39 (Int32.toNatClampNeg (V 0 11))).toInt → y8.toInt = p0.toInt - ((gwc (isWb V p1 p2 p3) (wnum V) y1.toInt (Int32.toNatClampNeg y7) (wmany V) : Nat) : Int) → 12 - y7.toInt < (fulp9 : Int) → va_P D vwCl (mw ad kk ks.1 V L) H → va_D A (mw ad kk ks.1 V L) → va_S A s.heap H locs → lv_has ls 8 [(7, .int y7), (6, .int y1), (5, .int y8), (0, .ref (ad 0)), (1, .int p0), (2, .int p1), (3, .int p2), (4, .int p3)] → W p l e r_s_wrapAt2 s m ([.ref (ad 0), .int p0, .int p1, .int p2, .int p3] : List Value).toArray below meth c H locs 0 0 (MQ below (q_s_wrapAt2 D ks ad kk V L p0 p1 p2 p3 A) ([.ref (ad 0), .int p0, .int p1, .int p2, .int p3] : List Value).toArray s 0 0 A) (F0 m 16 ls []) := by
          intro fulp9
          induction fulp9 with
          | zero =>
            intro y7 y8 H locs ls klp9_0 klp9_1 xlp9_0 xlp9_1 xlp9_2 hn  hP hD hS hl
            exfalso; omega
          | succ fulp9 ihlp9 =>
            intro y7 y8 H locs ls klp9_0 klp9_1 xlp9_0 xlp9_1 xlp9_2 hn  hP hD hS hl
            refine lv_iload hx hb dX12_wrapAt_16 (lv_at hl 0 rfl) ?_
            refine lv_aload_n hx hb dX12_wrapAt_18 rfl (lv_at hl 3 rfl) ?_
            refine va_get (D := D) (ci := 12) (v := .ref (ad 39)) (C := RX12) (T := TX12) (N := 100) hx hb hg inX12 hown hK hP 0 rfl rfl 39 (by decide) (hg _ w1749) (fun _ h9 => h9) rfl dX12_wrapAt_19 ?_
            refine lv_aload_n hx hb dX12_wrapAt_22 rfl (lv_at hl 3 rfl) ?_
            refine va_get (D := D) (ci := 12) (v := .int (V 0 11)) (C := RX12) (T := TX12) (N := 100) hx hb hg inX12 hown hK hP 0 rfl rfl 11 (by decide) (hg _ w1721) (fun _ h9 => h9) rfl dX12_wrapAt_23 ?_
            have r10 : 0 ≤ ((V 0 11)).toInt ∧ ((V 0 11)).toInt ≤ 1 := hMV 0 11
            refine va_iald (D := D) (i := (V 0 11)) hx hb hK hP 32 31 rfl rfl (i_in (a := ((V 0 11)).toInt) rfl (by first | omega | ((try (have i_tb := Imp.go tb (by omega))); omega))) dX12_wrapAt_26 ?_
            have r11 : 0 ≤ ((V 39 (Int32.toNatClampNeg (V 0 11)))).toInt ∧ ((V 39 (Int32.toNatClampNeg (V 0 11)))).toInt ≤ 12 := hMV 39 (Int32.toNatClampNeg (V 0 11))
            refine lv_icmp_ge (tgt := 80) hx hb dX12_wrapAt_27 (by decide) (fun c12 => ?_) (fun c12 => ?_)
            · skip
              have f13 : ((V 39 (Int32.toNatClampNeg (V 0 11)))).toInt ≤ y7.toInt := b_le rfl rfl c12
              obtain ⟨z14, ez14⟩ : ∃ y : Int32, y = y1 + 1 := ⟨_, rfl⟩
              have hz14 : z14.toInt = y1.toInt + 1 := i_add ez14 rfl (by decide) (by omega)
              refine lv_iinc (v := z14) (lv' := [(6, .int z14), (7, .int y7), (5, .int y8), (0, .ref (ad 0)), (1, .int p0), (2, .int p1), (3, .int p2), (4, .int p3)]) hx hb dX12_wrapAt_80 hl (k := 1) rfl (by rw [ez14]; rfl) (by decide) rfl (fun ls hl => ?_)
              refine lv_goto (tgt := 6) hx hb dX12_wrapAt_83 (by decide) ?_
              have kc7 := i_clamp (x := y7) rfl (by omega)
              have e39 : (V 39 (nwh V)).toInt = (V 39 (Int32.toNatClampNeg (V 0 11))).toInt := rfl
              have kw : wmany V = Int32.toNatClampNeg y7 := by unfold wmany; omega
              have gn := gwc_next (f := isWb V p1 p2 p3) (g := wnum V) (n := y1.toInt) (w := wmany V) (wmany V) (Nat.le_refl _)
              have h8 := xlp9_2
              rw [← kw] at h8
              exact ihlp3 z14 y8 H locs ls (by first | omega | ((try (have i_tb := Imp.go tb (by omega))); omega)) (by first | omega | ((try (have i_tb := Imp.go tb (by omega))); omega)) (show 0 ≤ y8.toInt from by first | omega | ((try (have i_tb := Imp.go tb (by omega))); omega)) (by have e6 : z14.toInt = y1.toInt + 1 := (by omega); rw [e6, gn]; exact h8) (by first | omega | ((try (have i_tb := Imp.go tb (by omega))); omega)) hP hD hS (lv_sub hl [0, 2, 3, 4, 5, 6, 7] rfl)
            · skip
              have f15 : y7.toInt < ((V 39 (Int32.toNatClampNeg (V 0 11)))).toInt := b_nle rfl rfl c12
              refine lv_aload_n hx hb dX12_wrapAt_30 rfl (lv_at hl 3 rfl) ?_
              refine lv_iload hx hb dX12_wrapAt_31 (lv_at hl 0 rfl) ?_
              refine lv_iload_n hx hb dX12_wrapAt_33 rfl (lv_at hl 5 rfl) ?_
              refine lv_iload_n hx hb dX12_wrapAt_34 rfl (lv_at hl 6 rfl) ?_
              refine lv_iload hx hb dX12_wrapAt_35 (lv_at hl 7 rfl) ?_
              have kw16 := i_clamp (x := y7) rfl (by omega)
              have e39 : (V 39 (nwh V)).toInt = (V 39 (Int32.toNatClampNeg (V 0 11))).toInt := rfl
              refine gA_int (gA_runV (As := [.int y7, .int p1, .int p2, .int p3]) (rest := []) (ci := 12) (q0 := 0) hx hb hml hown hg hP hD hK hS hA hnw hgk (s_isWrap2 l D ks H.size ad kk V L y7 p1 p2 p3 hMV (by first | omega | ((try (have i_tb := Imp.go tb (by omega))); omega)) (by first | omega | ((try (have i_tb := Imp.go tb (by omega))); omega)) ((show TBL V (nwh V) _ from tb).2 (Int32.toNatClampNeg y7) (by omega)).2.2) w2292 w2294 w141 w172 w2295 rfl rfl hdV_yX12_isWrap ⟨Nat.le_of_ble_eq_true rfl, Nat.le_of_ble_eq_true rfl⟩ rfl hl.1 rfl (Nat.le_of_ble_eq_true rfl) dX12_wrapAt_37 ⟨Nat.le_of_ble_eq_true rfl, Nat.le_of_ble_eq_true rfl⟩) hP hD hK hS hA (fun z17 u18 H locs w19 hP hD hK hS => ?_)
              obtain ⟨rgz17, t20, t21⟩ := w19
              have rgz17 : 0 ≤ z17.toInt ∧ z17.toInt ≤ 1 := rgz17
              have t20 : Imp (z17.toInt = 1) (isWb V p1 p2 p3 (Int32.toNatClampNeg y7) = true) := t20
              have t21 : Imp (z17.toInt = 0) (isWb V p1 p2 p3 (Int32.toNatClampNeg y7) = false) := t21
              refine lv_if_eq (tgt := 74) hx hb dX12_wrapAt_40 (by decide) (fun c22 => ?_) (fun c22 => ?_)
              · skip
                have f23 : z17.toInt = 0 := b_eq rfl (by decide) c22
                obtain ⟨z24, ez24⟩ : ∃ y : Int32, y = y7 + 1 := ⟨_, rfl⟩
                have hz24 : z24.toInt = y7.toInt + 1 := i_add ez24 rfl (by decide) (by omega)
                refine lv_iinc (v := z24) (lv' := [(7, .int z24), (6, .int y1), (5, .int y8), (0, .ref (ad 0)), (1, .int p0), (2, .int p1), (3, .int p2), (4, .int p3)]) hx hb dX12_wrapAt_74 hl (k := 0) rfl (by rw [ez24]; rfl) (by decide) rfl (fun ls hl => ?_)
                refine lv_goto (tgt := 16) hx hb dX12_wrapAt_77 (by decide) ?_
                have kc7 := i_clamp (x := y7) rfl (by omega)
                have kc8 : Int32.toNatClampNeg z24 = Int32.toNatClampNeg y7 + 1 := by have h9 := i_clamp (x := z24) rfl (by omega); omega
                have gs := gwc_skip (f := isWb V p1 p2 p3) (g := wnum V) (n := y1.toInt) (w := Int32.toNatClampNeg y7) (fun z => by have z1 := z.1; rw [Imp.go t21 (by omega)] at z1; exact absurd z1 (by decide)) (wmany V)
                have h8 := xlp9_2
                exact ihlp9 z24 y8 H locs ls (by first | omega | ((try (have i_tb := Imp.go tb (by omega))); omega)) (by first | omega | ((try (have i_tb := Imp.go tb (by omega))); omega)) (show 0 ≤ y8.toInt from by first | omega | ((try (have i_tb := Imp.go tb (by omega))); omega)) (show z24.toInt ≤ (V 39 (Int32.toNatClampNeg (V 0 11))).toInt from by first | omega | ((try (have i_tb := Imp.go tb (by omega))); omega)) (by rw [kc8, gs]; omega) (by first | omega | ((try (have i_tb := Imp.go tb (by omega))); omega)) hP hD hS (lv_sub hl [0, 1, 2, 3, 4, 5, 6, 7] rfl)
              · skip
                have f25 : z17.toInt ≠ 0 := b_neq rfl (by decide) c22
                refine lv_aload_n hx hb dX12_wrapAt_43 rfl (lv_at hl 3 rfl) ?_
                refine va_get (D := D) (ci := 12) (v := .ref (ad 42)) (C := RX12) (T := TX12) (N := 100) hx hb hg inX12 hown hK hP 0 rfl rfl 42 (by decide) (hg _ w1752) (fun _ h9 => h9) rfl dX12_wrapAt_44 ?_
                refine lv_bipush (v := 12) hx hb dX12_wrapAt_47 (by decide) ?_
                refine lv_aload_n hx hb dX12_wrapAt_49 rfl (lv_at hl 3 rfl) ?_
                refine va_get (D := D) (ci := 12) (v := .int (V 0 11)) (C := RX12) (T := TX12) (N := 100) hx hb hg inX12 hown hK hP 0 rfl rfl 11 (by decide) (hg _ w1721) (fun _ h9 => h9) rfl dX12_wrapAt_50 ?_
                refine lv_imul hx hb dX12_wrapAt_53 ?_
                refine lv_topi (fun z26 ez26 => ?_)
                have hz26 : z26.toInt = 12 * ((V 0 11)).toInt := i_mul ez26 (by decide) rfl (by omega)
                refine lv_iload hx hb dX12_wrapAt_54 (lv_at hl 0 rfl) ?_
                refine lv_iadd hx hb dX12_wrapAt_56 ?_
                refine lv_topi (fun z27 ez27 => ?_)
                have hz27 : z27.toInt = z26.toInt + y7.toInt := i_add ez27 rfl rfl (by omega)
                refine va_iald (D := D) (i := z27) hx hb hK hP 35 34 rfl rfl (i_in (a := z27.toInt) rfl (by first | omega | ((try (have i_tb := Imp.go tb (by omega))); omega))) dX12_wrapAt_57 ?_
                have r28 : 0 ≤ ((V 42 (Int32.toNatClampNeg z27))).toInt ∧ ((V 42 (Int32.toNatClampNeg z27))).toInt ≤ 99 := hMV 42 (Int32.toNatClampNeg z27)
                refine lv_iload hx hb dX12_wrapAt_58 (lv_at hl 1 rfl) ?_
                refine lv_icmp_ne (tgt := 74) hx hb dX12_wrapAt_60 (by decide) (fun c29 => ?_) (fun c29 => ?_)
                · skip
                  have f30 : ((V 42 (Int32.toNatClampNeg z27))).toInt ≠ y1.toInt := b_neq rfl rfl c29
                  obtain ⟨z31, ez31⟩ : ∃ y : Int32, y = y7 + 1 := ⟨_, rfl⟩
                  have hz31 : z31.toInt = y7.toInt + 1 := i_add ez31 rfl (by decide) (by omega)
                  refine lv_iinc (v := z31) (lv' := [(7, .int z31), (6, .int y1), (5, .int y8), (0, .ref (ad 0)), (1, .int p0), (2, .int p1), (3, .int p2), (4, .int p3)]) hx hb dX12_wrapAt_74 hl (k := 0) rfl (by rw [ez31]; rfl) (by decide) rfl (fun ls hl => ?_)
                  refine lv_goto (tgt := 16) hx hb dX12_wrapAt_77 (by decide) ?_
                  have kc7 := i_clamp (x := y7) rfl (by omega)
                  have kc8 : Int32.toNatClampNeg z31 = Int32.toNatClampNeg y7 + 1 := by have h9 := i_clamp (x := z31) rfl (by omega); omega
                  have kn9 : (nwh V : Int) = (V 0 11).toInt := i_clamp (x := V 0 11) rfl (by omega)
                  have kz : Int32.toNatClampNeg z27 = 12 * nwh V + Int32.toNatClampNeg y7 := by have h9 := i_clamp (x := z27) rfl (by omega); omega
                  have wn : wnum V (Int32.toNatClampNeg y7) = (V 42 (Int32.toNatClampNeg z27)).toInt := by unfold wnum; rw [kz]
                  have gs := gwc_skip (f := isWb V p1 p2 p3) (g := wnum V) (n := y1.toInt) (w := Int32.toNatClampNeg y7) (fun z => by have z2 := z.2; omega) (wmany V)
                  have h8 := xlp9_2
                  exact ihlp9 z31 y8 H locs ls (by first | omega | ((try (have i_tb := Imp.go tb (by omega))); omega)) (by first | omega | ((try (have i_tb := Imp.go tb (by omega))); omega)) (show 0 ≤ y8.toInt from by first | omega | ((try (have i_tb := Imp.go tb (by omega))); omega)) (show z31.toInt ≤ (V 39 (Int32.toNatClampNeg (V 0 11))).toInt from by first | omega | ((try (have i_tb := Imp.go tb (by omega))); omega)) (by rw [kc8, gs]; omega) (by first | omega | ((try (have i_tb := Imp.go tb (by omega))); omega)) hP hD hS (lv_sub hl [0, 1, 2, 3, 4, 5, 6, 7] rfl)
                · skip
                  have f32 : ((V 42 (Int32.toNatClampNeg z27))).toInt = y1.toInt := b_eq rfl rfl c29
                  refine lv_iload hx hb dX12_wrapAt_63 (lv_at hl 2 rfl) ?_
                  refine lv_if_ne (tgt := 71) hx hb dX12_wrapAt_65 (by decide) (fun c33 => ?_) (fun c33 => ?_)
                  · skip
                    have f34 : y8.toInt ≠ 0 := b_neq rfl (by decide) c33
                    obtain ⟨z35, ez35⟩ : ∃ y : Int32, y = y8 + (-1) := ⟨_, rfl⟩
                    have hz35 : z35.toInt = y8.toInt + (-1) := i_add ez35 rfl (by decide) (by omega)
                    refine lv_iinc (v := z35) (lv' := [(5, .int z35), (7, .int y7), (6, .int y1), (0, .ref (ad 0)), (1, .int p0), (2, .int p1), (3, .int p2), (4, .int p3)]) hx hb dX12_wrapAt_71 hl (k := 2) rfl (by rw [ez35]; rfl) (by decide) rfl (fun ls hl => ?_)
                    obtain ⟨z36, ez36⟩ : ∃ y : Int32, y = y7 + 1 := ⟨_, rfl⟩
                    have hz36 : z36.toInt = y7.toInt + 1 := i_add ez36 rfl (by decide) (by omega)
                    refine lv_iinc (v := z36) (lv' := [(7, .int z36), (5, .int z35), (6, .int y1), (0, .ref (ad 0)), (1, .int p0), (2, .int p1), (3, .int p2), (4, .int p3)]) hx hb dX12_wrapAt_74 hl (k := 1) rfl (by rw [ez36]; rfl) (by decide) rfl (fun ls hl => ?_)
                    refine lv_goto (tgt := 16) hx hb dX12_wrapAt_77 (by decide) ?_
                    have kc7 := i_clamp (x := y7) rfl (by omega)
                    have kc8 : Int32.toNatClampNeg z36 = Int32.toNatClampNeg y7 + 1 := by have h9 := i_clamp (x := z36) rfl (by omega); omega
                    have kn9 : (nwh V : Int) = (V 0 11).toInt := i_clamp (x := V 0 11) rfl (by omega)
                    have kz : Int32.toNatClampNeg z27 = 12 * nwh V + Int32.toNatClampNeg y7 := by have h9 := i_clamp (x := z27) rfl (by omega); omega
                    have wn : wnum V (Int32.toNatClampNeg y7) = (V 42 (Int32.toNatClampNeg z27)).toInt := by unfold wnum; rw [kz]
                    have e39 : (V 39 (nwh V)).toInt = (V 39 (Int32.toNatClampNeg (V 0 11))).toInt := rfl
                    have gs := (gwc_step (f := isWb V p1 p2 p3) (g := wnum V) (n := y1.toInt) (w := Int32.toNatClampNeg y7) (Imp.go t20 (by omega)) (by omega) (wmany V)).2 (by unfold wmany; omega)
                    have h8 := xlp9_2
                    exact ihlp9 z36 z35 H locs ls (by first | omega | ((try (have i_tb := Imp.go tb (by omega))); omega)) (by first | omega | ((try (have i_tb := Imp.go tb (by omega))); omega)) (show 0 ≤ z35.toInt from by first | omega | ((try (have i_tb := Imp.go tb (by omega))); omega)) (show z36.toInt ≤ (V 39 (Int32.toNatClampNeg (V 0 11))).toInt from by first | omega | ((try (have i_tb := Imp.go tb (by omega))); omega)) (by rw [kc8, gs]; omega) (by first | omega | ((try (have i_tb := Imp.go tb (by omega))); omega)) hP hD hS (lv_sub hl [0, 2, 1, 3, 4, 5, 6, 7] rfl)
                  · skip
                    have f37 : y8.toInt = 0 := b_eq rfl (by decide) c33
                    refine lv_iload hx hb dX12_wrapAt_68 (lv_at hl 0 rfl) ?_
                    have kc7 := i_clamp (x := y7) rfl (by omega)
                    have kn9 : (nwh V : Int) = (V 0 11).toInt := i_clamp (x := V 0 11) rfl (by omega)
                    have kz : Int32.toNatClampNeg z27 = 12 * nwh V + Int32.toNatClampNeg y7 := by have h9 := i_clamp (x := z27) rfl (by omega); omega
                    have wn : wnum V (Int32.toNatClampNeg y7) = (V 42 (Int32.toNatClampNeg z27)).toInt := by unfold wnum; rw [kz]
                    have e39 : (V 39 (nwh V)).toInt = (V 39 (Int32.toNatClampNeg (V 0 11))).toInt := rfl
                    have gl := gwc_lt (f := isWb V p1 p2 p3) (g := wnum V) (n := y1.toInt) (w := Int32.toNatClampNeg y7) (W := wmany V) (Imp.go t20 (by omega)) (by omega) (by unfold wmany; omega)
                    have h8 := xlp9_2
                    exact W.iret (v := y7) hx hb hr (fun t ht hW => ⟨⟨y7, (), rfl, ⟨(show (-1) ≤ y7.toInt ∧ y7.toInt ≤ 11 from by first | omega | ((try (have i_tb := Imp.go tb (by omega))); omega)), (Imp.mk (fun _ => ⟨by omega, Imp.go t20 (by omega), by omega⟩)), (Imp.mk (fun hp => by exfalso; omega))⟩, by rw [ht]; exact hP, va_K.moved hW.alike hK, hD⟩, hS.F ht⟩) hS.2.2 dX12_wrapAt_70
        have r38 : Int32.toInt 0 = 0 := by decide
        exact lp9 ((12 - (Int32.toInt 0) + 1 : Int).toNat) 0 y2 H locs ls (by decide) (by first | omega | ((try (have i_tb := Imp.go tb (by omega))); omega)) (show 0 ≤ y2.toInt from by first | omega | ((try (have i_tb := Imp.go tb (by omega))); omega)) (show (Int32.toInt 0) ≤ (V 39 (Int32.toNatClampNeg (V 0 11))).toInt from by first | omega | ((try (have i_tb := Imp.go tb (by omega))); omega)) xlp3_1 (by first | omega | ((try (have i_tb := Imp.go tb (by omega))); omega)) hP hD hS (lv_sub hl [0, 1, 2, 3, 4, 5, 6, 7] rfl)
  have r39 : Int32.toInt 0 = 0 := by decide
  have gz := gwc_zero (f := isWb V p1 p2 p3) (g := wnum V) (fun j => (hMV 42 _).1) (wmany V)
  exact lp3 ((100 - (Int32.toInt 0) + 1 : Int).toNat) 0 p0 H locs ls (by decide) (by first | omega | ((try (have i_tb := Imp.go tb (by omega))); omega)) (show 0 ≤ p0.toInt from by first | omega | ((try (have i_tb := Imp.go tb (by omega))); omega)) (show p0.toInt = p0.toInt - ((gwc (isWb V p1 p2 p3) (wnum V) 0 0 (wmany V) : Nat) : Int) from by rw [gz]; omega) (by first | omega | ((try (have i_tb := Imp.go tb (by omega))); omega)) hP hD hS (lv_sub hl [0, 1, 2, 3, 4, 5, 6] rfl)
